/-! THE LAW: its cases, first half -/
set_option maxRecDepth 100000 in
set_option maxHeartbeats 4000000 in
theorem lc_append {p : Program} {l : Launch} {e : Env} {s : State} {m : MethodId} {args : Array Value} {below : List Frame} {meth : Method} {c : Code} {Q : State → Prop} {G : GT} {rt : Option FieldType} (hl : l.stackTraces = false) (C : Cx p s m args meth c cL_law 7 RL rt G) {b LL : Nat} {xs : Nat → Int32} (hX : va_X b LL xs s s.heap) (hb : b < s.heap.size ∧ ¬ rg G b) (hLL : LL ≤ 2560) {x n cells slots i : Nat} {h : AH} (hi : i + 5 ≤ LL) (hc : cells + 4 ≤ 601024) (hs : slots + 24 ≤ 7293034) (hL0 : LI x h) (KL : ∀ (n1 : Nat) (h1 : AH) (cells1 slots1 : Nat), LI x h1 → cells1 ≤ cells + 4 → slots1 ≤ slots + 24 → V p l e room_1 s m args below meth c Q G 7 cells1 slots1 n1 h1 2094 (LCL b x i) []) : V p l e room_1 s m args below meth c Q G 7 cells slots n h 176 (LCL b x i) [] := by
  obtain ⟨y, k, D, S, sv, N, T, rf, f, hS, hM, hI, hof⟩ := hL0
  refine V_aload_n 177 C dL_law_176 rfl rfl ?_
  refine V_aload_n 178 C dL_law_177 rfl rfl ?_
  refine V_iload 180 C dL_law_178 rfl rfl ?_
  refine V_iconst 181 C dL_law_180 rfl ic1 ?_
  refine V_iaddN 182 C dL_law_181 rfl  ?_
  refine V_sld (j := i + 1) 183 C hX hb dL_law_182 rfl rfl (by omega) (by omega) ?_
  refine V_aload_n 184 C dL_law_183 rfl rfl ?_
  refine V_callSWR 187 C dL_law_184 rfl mL_append tw291 (c_L_append l G _ _ hl x y k D S sv N T hS hI _ (x + 627) f hof (by omega)) rfl rfl ⟨Nat.le_of_ble_eq_true rfl, Nat.le_of_ble_eq_true rfl⟩ ⟨by show _ ≤ 601024; omega, by show _ ≤ 7293034; omega⟩ (Nat.le_of_ble_eq_true rfl) ?_
  rintro _ n1 h1 ⟨rfl, hS1, ⟨f1, hf1, e1⟩, hF1⟩
  have hM1 := hM.fr (fun a g1 g2 => hF1 a (by omega) (by omega))
  refine V_istore 189 C dL_law_187 rfl (by decide) (L' := [(0, _), (1, _), (2, _), (3, _), (4, _), (5, _)]) rfl ?_
  refine V_aload_n 190 C dL_law_189 rfl rfl ?_
  refine V_aload_n 191 C dL_law_190 rfl rfl ?_
  refine V_iload 193 C dL_law_191 rfl rfl ?_
  refine V_iconst 194 C dL_law_193 rfl ic1 ?_
  refine V_iaddN 195 C dL_law_194 rfl  ?_
  refine V_sld (j := i + 1) 196 C hX hb dL_law_195 rfl rfl (by omega) (by omega) ?_
  obtain ⟨⟨sp1, ou1, g1, hm1⟩, -⟩ := id hM1
  refine V_callVR 199 C dL_law_196 rfl mX10_append tw977 fcX10 hm1.2.1 (c_X10_append l G _ _ (x + 619) rf y k D S sv N T hM1 hI _) rfl rfl ⟨Nat.le_of_ble_eq_true rfl, Nat.le_of_ble_eq_true rfl⟩ ⟨by show _ ≤ 601024; omega, by show _ ≤ 7293034; omega⟩ (Nat.le_of_ble_eq_true rfl) ?_
  rintro _ n2 h2 ⟨b2, rfl, hn2, e2, hM2, hF2⟩
  have hS2 := hS1.fr (fun a ha => hF2 a (by omega))
  have hf2 := (hF2 (x + 627) (by omega)).trans hf1
  have hLI : LI x h2 := ⟨_, _, _, _, _, _, _, _, _, hS2, hM2, SI_append hI, hf2⟩
  refine V_istore 201 C dL_law_199 rfl (by decide) (L' := [(0, _), (1, _), (2, _), (3, _), (4, _), (5, _), (6, _)]) rfl ?_
  refine V_aload_n 202 C dL_law_201 rfl rfl ?_
  obtain ⟨⟨sp2, ou2, g2, hm2⟩, -⟩ := id hM2
  refine V_callVR 205 C dL_law_202 rfl mX10_thrown tw973 fcX10 hm2.2.1 (c_X10_thrown l G _ _ (x + 619) _ _ _ _ _ hm2.2.1) rfl rfl ⟨Nat.le_of_ble_eq_true rfl, Nat.le_of_ble_eq_true rfl⟩ ⟨by show _ ≤ 601024; omega, by show _ ≤ 7293034; omega⟩ (Nat.le_of_ble_eq_true rfl) ?_
  rintro _ _ _ ⟨rfl, rfl, rfl⟩
  refine V_iload 207 C dL_law_205 rfl rfl ?_
  refine V_icmp_eq 212 210 C dL_law_207 (by decide) rfl (fun c1 => ?_) (fun c1 => ?_)
  · skip
    refine V_iload 214 C dL_law_212 rfl rfl ?_
    refine V_if_ne 229 217 C dL_law_214 (by decide) rfl (fun c2 => ?_) (fun c2 => ?_)
    · refine V_goto 2094 C dL_law_229 (by decide) ?_
      refine V_L [0, 1, 2, 3, 4] rfl ?_
      exact KL _ _ _ _ hLI (by omega) (by omega)
    · have hk0 := nz0 (by first | exact kA_le (by omega) (by omega) (by omega) | (split <;> first | omega | (split <;> first | omega | (split <;> omega)))) c2
      refine V_aload_n 218 C dL_law_217 rfl rfl ?_
      refine V_iconst 219 C dL_law_218 rfl ic0 ?_
      refine V_lald (j := 0) 220 C dL_law_219 rfl hf2 rfl (by omega) (by omega) ?_
      refine V_iload 222 C dL_law_220 rfl rfl ?_
      refine V_i2l 223 C dL_law_222 rfl  ?_
      refine V_lcmp 224 C dL_law_223 rfl  ?_
      refine V_if_eq 229 227 C dL_law_224 (by decide) rfl (fun c3 => ?_) (fun c3 => ?_)
      · refine V_goto 2094 C dL_law_229 (by decide) ?_
        refine V_L [0, 1, 2, 3, 4] rfl ?_
        exact KL _ _ _ _ hLI (by omega) (by omega)
      · exact absurd ((lg_cmp_eq _ _).mpr (by rw [e1 hk0, e2 hk0])) c3
  · exact absurd rfl c1
set_option maxRecDepth 100000 in
set_option maxHeartbeats 4000000 in
theorem lc_load {p : Program} {l : Launch} {e : Env} {s : State} {m : MethodId} {args : Array Value} {below : List Frame} {meth : Method} {c : Code} {Q : State → Prop} {G : GT} {rt : Option FieldType} (hl : l.stackTraces = false) (C : Cx p s m args meth c cL_law 7 RL rt G) {b LL : Nat} {xs : Nat → Int32} (hX : va_X b LL xs s s.heap) (hb : b < s.heap.size ∧ ¬ rg G b) (hLL : LL ≤ 2560) {x n cells slots i : Nat} {h : AH} (hi : i + 5 ≤ LL) (hc : cells + 4 ≤ 601024) (hs : slots + 24 ≤ 7293034) (hL0 : LI x h) (KL : ∀ (n1 : Nat) (h1 : AH) (cells1 slots1 : Nat), LI x h1 → cells1 ≤ cells + 4 → slots1 ≤ slots + 24 → V p l e room_1 s m args below meth c Q G 7 cells1 slots1 n1 h1 2094 (LCL b x i) []) : V p l e room_1 s m args below meth c Q G 7 cells slots n h 258 (LCL b x i) [] := by
  obtain ⟨y, k, D, S, sv, N, T, rf, f, hS, hM, hI, hof⟩ := hL0
  refine V_aload_n 259 C dL_law_258 rfl rfl ?_
  refine V_aload_n 260 C dL_law_259 rfl rfl ?_
  refine V_callSWR 263 C dL_law_260 rfl mL_load tw396 (c_L_load l G _ _ hl x y k D S sv N T hS hI (x + 627) f hof (by omega)) rfl rfl ⟨Nat.le_of_ble_eq_true rfl, Nat.le_of_ble_eq_true rfl⟩ ⟨by show _ ≤ 601024; omega, by show _ ≤ 7293034; omega⟩ (Nat.le_of_ble_eq_true rfl) ?_
  rintro _ n1 h1 ⟨rfl, hS1, ⟨f1, hf1, e1⟩, hF1⟩
  have hM1 := hM.fr (fun a g1 g2 => hF1 a (by omega) (by omega))
  refine V_istore 265 C dL_law_263 rfl (by decide) (L' := [(0, _), (1, _), (2, _), (3, _), (4, _), (5, _)]) rfl ?_
  refine V_aload_n 266 C dL_law_265 rfl rfl ?_
  obtain ⟨⟨sp1, ou1, g1, hm1⟩, -⟩ := id hM1
  refine V_callVR 269 C dL_law_266 rfl mX10_load tw1150 fcX10 hm1.2.1 (c_X10_load l G _ _ (x + 619) rf y k D S sv N T hM1 hI) rfl rfl ⟨Nat.le_of_ble_eq_true rfl, Nat.le_of_ble_eq_true rfl⟩ ⟨by show _ ≤ 601024; omega, by show _ ≤ 7293034; omega⟩ (Nat.le_of_ble_eq_true rfl) ?_
  rintro _ n2 h2 ⟨b2, rfl, hn2, e2, hM2, hF2⟩
  have hS2 := hS1.fr (fun a ha => hF2 a (by omega))
  have hf2 := (hF2 (x + 627) (by omega)).trans hf1
  have hLI : LI x h2 := ⟨_, _, _, _, _, _, _, _, _, hS2, hM2, SI_ld hI, hf2⟩
  refine V_istore 271 C dL_law_269 rfl (by decide) (L' := [(0, _), (1, _), (2, _), (3, _), (4, _), (5, _), (6, _)]) rfl ?_
  refine V_aload_n 272 C dL_law_271 rfl rfl ?_
  obtain ⟨⟨sp2, ou2, g2, hm2⟩, -⟩ := id hM2
  refine V_callVR 275 C dL_law_272 rfl mX10_thrown tw973 fcX10 hm2.2.1 (c_X10_thrown l G _ _ (x + 619) _ _ _ _ _ hm2.2.1) rfl rfl ⟨Nat.le_of_ble_eq_true rfl, Nat.le_of_ble_eq_true rfl⟩ ⟨by show _ ≤ 601024; omega, by show _ ≤ 7293034; omega⟩ (Nat.le_of_ble_eq_true rfl) ?_
  rintro _ _ _ ⟨rfl, rfl, rfl⟩
  refine V_iload 277 C dL_law_275 rfl rfl ?_
  refine V_icmp_eq 282 280 C dL_law_277 (by decide) rfl (fun c1 => ?_) (fun c1 => ?_)
  · skip
    refine V_iload 284 C dL_law_282 rfl rfl ?_
    refine V_if_ne 299 287 C dL_law_284 (by decide) rfl (fun c2 => ?_) (fun c2 => ?_)
    · refine V_goto 2094 C dL_law_299 (by decide) ?_
      refine V_L [0, 1, 2, 3, 4] rfl ?_
      exact KL _ _ _ _ hLI (by omega) (by omega)
    · have hk0 := nz0 (by first | exact kA_le (by omega) (by omega) (by omega) | (split <;> first | omega | (split <;> first | omega | (split <;> omega)))) c2
      refine V_aload_n 288 C dL_law_287 rfl rfl ?_
      refine V_iconst 289 C dL_law_288 rfl ic0 ?_
      refine V_lald (j := 0) 290 C dL_law_289 rfl hf2 rfl (by omega) (by omega) ?_
      refine V_iload 292 C dL_law_290 rfl rfl ?_
      refine V_i2l 293 C dL_law_292 rfl  ?_
      refine V_lcmp 294 C dL_law_293 rfl  ?_
      refine V_if_eq 299 297 C dL_law_294 (by decide) rfl (fun c3 => ?_) (fun c3 => ?_)
      · refine V_goto 2094 C dL_law_299 (by decide) ?_
        refine V_L [0, 1, 2, 3, 4] rfl ?_
        exact KL _ _ _ _ hLI (by omega) (by omega)
      · exact absurd ((lg_cmp_eq _ _).mpr (by rw [e1 hk0, e2 hk0])) c3
  · exact absurd rfl c1
set_option maxRecDepth 100000 in
set_option maxHeartbeats 4000000 in
theorem lc_about {p : Program} {l : Launch} {e : Env} {s : State} {m : MethodId} {args : Array Value} {below : List Frame} {meth : Method} {c : Code} {Q : State → Prop} {G : GT} {rt : Option FieldType} (hl : l.stackTraces = false) (C : Cx p s m args meth c cL_law 7 RL rt G) {b LL : Nat} {xs : Nat → Int32} (hX : va_X b LL xs s s.heap) (hb : b < s.heap.size ∧ ¬ rg G b) (hLL : LL ≤ 2560) {x n cells slots i : Nat} {h : AH} (hi : i + 5 ≤ LL) (hc : cells + 4 ≤ 601024) (hs : slots + 24 ≤ 7293034) (hL0 : LI x h) (KL : ∀ (n1 : Nat) (h1 : AH) (cells1 slots1 : Nat), LI x h1 → cells1 ≤ cells + 4 → slots1 ≤ slots + 24 → V p l e room_1 s m args below meth c Q G 7 cells1 slots1 n1 h1 2094 (LCL b x i) []) : V p l e room_1 s m args below meth c Q G 7 cells slots n h 302 (LCL b x i) [] := by
  obtain ⟨y, k, D, S, sv, N, T, rf, f, hS, hM, hI, hof⟩ := hL0
  refine V_aload_n 303 C dL_law_302 rfl rfl ?_
  refine V_aload_n 304 C dL_law_303 rfl rfl ?_
  refine V_iload 306 C dL_law_304 rfl rfl ?_
  refine V_iconst 307 C dL_law_306 rfl ic1 ?_
  refine V_iaddN 308 C dL_law_307 rfl  ?_
  refine V_sld (j := i + 1) 309 C hX hb dL_law_308 rfl rfl (by omega) (by omega) ?_
  refine V_aload_n 310 C dL_law_309 rfl rfl ?_
  refine V_callSWR 313 C dL_law_310 rfl mL_about tw542 (c_L_about l G _ _ hl x y k D S sv N T hS hI _ (x + 627) f hof (by omega)) rfl rfl ⟨Nat.le_of_ble_eq_true rfl, Nat.le_of_ble_eq_true rfl⟩ ⟨by show _ ≤ 601024; omega, by show _ ≤ 7293034; omega⟩ (Nat.le_of_ble_eq_true rfl) ?_
  rintro _ n1 h1 ⟨rfl, hS1, ⟨f1, hf1, e1⟩, hF1⟩
  have hM1 := hM.fr (fun a g1 g2 => hF1 a (by omega) (by omega))
  refine V_istore 315 C dL_law_313 rfl (by decide) (L' := [(0, _), (1, _), (2, _), (3, _), (4, _), (5, _)]) rfl ?_
  refine V_aload_n 316 C dL_law_315 rfl rfl ?_
  refine V_aload_n 317 C dL_law_316 rfl rfl ?_
  refine V_iload 319 C dL_law_317 rfl rfl ?_
  refine V_iconst 320 C dL_law_319 rfl ic1 ?_
  refine V_iaddN 321 C dL_law_320 rfl  ?_
  refine V_sld (j := i + 1) 322 C hX hb dL_law_321 rfl rfl (by omega) (by omega) ?_
  obtain ⟨⟨sp1, ou1, g1, hm1⟩, -⟩ := id hM1
  refine V_callVR 325 C dL_law_322 rfl mX10_about tw1157 fcX10 hm1.2.1 (c_X10_about l G _ _ (x + 619) rf y k D S sv N T hM1 hI _) rfl rfl ⟨Nat.le_of_ble_eq_true rfl, Nat.le_of_ble_eq_true rfl⟩ ⟨by show _ ≤ 601024; omega, by show _ ≤ 7293034; omega⟩ (Nat.le_of_ble_eq_true rfl) ?_
  rintro _ n2 h2 ⟨b2, rfl, hn2, e2, hM2, hF2⟩
  have hS2 := hS1.fr (fun a ha => hF2 a (by omega))
  have hf2 := (hF2 (x + 627) (by omega)).trans hf1
  have hLI : LI x h2 := ⟨_, _, _, _, _, _, _, _, _, hS2, hM2, hI, hf2⟩
  refine V_istore 327 C dL_law_325 rfl (by decide) (L' := [(0, _), (1, _), (2, _), (3, _), (4, _), (5, _), (6, _)]) rfl ?_
  refine V_aload_n 328 C dL_law_327 rfl rfl ?_
  obtain ⟨⟨sp2, ou2, g2, hm2⟩, -⟩ := id hM2
  refine V_callVR 331 C dL_law_328 rfl mX10_thrown tw973 fcX10 hm2.2.1 (c_X10_thrown l G _ _ (x + 619) _ _ _ _ _ hm2.2.1) rfl rfl ⟨Nat.le_of_ble_eq_true rfl, Nat.le_of_ble_eq_true rfl⟩ ⟨by show _ ≤ 601024; omega, by show _ ≤ 7293034; omega⟩ (Nat.le_of_ble_eq_true rfl) ?_
  rintro _ _ _ ⟨rfl, rfl, rfl⟩
  refine V_iload 333 C dL_law_331 rfl rfl ?_
  refine V_icmp_eq 338 336 C dL_law_333 (by decide) rfl (fun c1 => ?_) (fun c1 => ?_)
  · skip
    refine V_iload 340 C dL_law_338 rfl rfl ?_
    refine V_if_ne 355 343 C dL_law_340 (by decide) rfl (fun c2 => ?_) (fun c2 => ?_)
    · refine V_goto 2094 C dL_law_355 (by decide) ?_
      refine V_L [0, 1, 2, 3, 4] rfl ?_
      exact KL _ _ _ _ hLI (by omega) (by omega)
    · have hk0 := nz0 (by first | exact kA_le (by omega) (by omega) (by omega) | (split <;> first | omega | (split <;> first | omega | (split <;> omega)))) c2
      refine V_aload_n 344 C dL_law_343 rfl rfl ?_
      refine V_iconst 345 C dL_law_344 rfl ic0 ?_
      refine V_lald (j := 0) 346 C dL_law_345 rfl hf2 rfl (by omega) (by omega) ?_
      refine V_iload 348 C dL_law_346 rfl rfl ?_
      refine V_i2l 349 C dL_law_348 rfl  ?_
      refine V_lcmp 350 C dL_law_349 rfl  ?_
      refine V_if_eq 355 353 C dL_law_350 (by decide) rfl (fun c3 => ?_) (fun c3 => ?_)
      · refine V_goto 2094 C dL_law_355 (by decide) ?_
        refine V_L [0, 1, 2, 3, 4] rfl ?_
        exact KL _ _ _ _ hLI (by omega) (by omega)
      · exact absurd ((lg_cmp_eq _ _).mpr (by rw [e1 hk0, e2 hk0])) c3
  · exact absurd rfl c1
set_option maxRecDepth 100000 in
set_option maxHeartbeats 4000000 in
theorem lc_roadOf {p : Program} {l : Launch} {e : Env} {s : State} {m : MethodId} {args : Array Value} {below : List Frame} {meth : Method} {c : Code} {Q : State → Prop} {G : GT} {rt : Option FieldType} (hl : l.stackTraces = false) (C : Cx p s m args meth c cL_law 7 RL rt G) {b LL : Nat} {xs : Nat → Int32} (hX : va_X b LL xs s s.heap) (hb : b < s.heap.size ∧ ¬ rg G b) (hLL : LL ≤ 2560) {x n cells slots i : Nat} {h : AH} (hi : i + 5 ≤ LL) (hc : cells + 4 ≤ 601024) (hs : slots + 24 ≤ 7293034) (hL0 : LI x h) (KL : ∀ (n1 : Nat) (h1 : AH) (cells1 slots1 : Nat), LI x h1 → cells1 ≤ cells + 4 → slots1 ≤ slots + 24 → V p l e room_1 s m args below meth c Q G 7 cells1 slots1 n1 h1 2094 (LCL b x i) []) : V p l e room_1 s m args below meth c Q G 7 cells slots n h 358 (LCL b x i) [] := by
  obtain ⟨y, k, D, S, sv, N, T, rf, f, hS, hM, hI, hof⟩ := hL0
  refine V_aload_n 359 C dL_law_358 rfl rfl ?_
  refine V_aload_n 360 C dL_law_359 rfl rfl ?_
  refine V_iload 362 C dL_law_360 rfl rfl ?_
  refine V_iconst 363 C dL_law_362 rfl ic1 ?_
  refine V_iaddN 364 C dL_law_363 rfl  ?_
  refine V_sld (j := i + 1) 365 C hX hb dL_law_364 rfl rfl (by omega) (by omega) ?_
  refine V_aload_n 366 C dL_law_365 rfl rfl ?_
  refine V_iload 368 C dL_law_366 rfl rfl ?_
  refine V_iconst 369 C dL_law_368 rfl ic2 ?_
  refine V_iaddN 370 C dL_law_369 rfl  ?_
  refine V_sld (j := i + 2) 371 C hX hb dL_law_370 rfl rfl (by omega) (by omega) ?_
  refine V_aload_n 372 C dL_law_371 rfl rfl ?_
  refine V_callSWR 375 C dL_law_372 rfl mL_roadOf tw572 (c_L_roadOf l G _ _ hl x y k D S sv N T hS hI _ _ (x + 627) f hof (by omega)) rfl rfl ⟨Nat.le_of_ble_eq_true rfl, Nat.le_of_ble_eq_true rfl⟩ ⟨by show _ ≤ 601024; omega, by show _ ≤ 7293034; omega⟩ (Nat.le_of_ble_eq_true rfl) ?_
  rintro _ n1 h1 ⟨rfl, hS1, ⟨f1, hf1, e1⟩, hF1⟩
  have hM1 := hM.fr (fun a g1 g2 => hF1 a (by omega) (by omega))
  refine V_istore 377 C dL_law_375 rfl (by decide) (L' := [(0, _), (1, _), (2, _), (3, _), (4, _), (5, _)]) rfl ?_
  refine V_aload_n 378 C dL_law_377 rfl rfl ?_
  refine V_aload_n 379 C dL_law_378 rfl rfl ?_
  refine V_iload 381 C dL_law_379 rfl rfl ?_
  refine V_iconst 382 C dL_law_381 rfl ic1 ?_
  refine V_iaddN 383 C dL_law_382 rfl  ?_
  refine V_sld (j := i + 1) 384 C hX hb dL_law_383 rfl rfl (by omega) (by omega) ?_
  refine V_aload_n 385 C dL_law_384 rfl rfl ?_
  refine V_iload 387 C dL_law_385 rfl rfl ?_
  refine V_iconst 388 C dL_law_387 rfl ic2 ?_
  refine V_iaddN 389 C dL_law_388 rfl  ?_
  refine V_sld (j := i + 2) 390 C hX hb dL_law_389 rfl rfl (by omega) (by omega) ?_
  obtain ⟨⟨sp1, ou1, g1, hm1⟩, -⟩ := id hM1
  refine V_callVR 393 C dL_law_390 rfl mX10_roadOf tw1170 fcX10 hm1.2.1 (c_X10_roadOf l G _ _ (x + 619) rf y k D S sv N T hM1 hI _ _) rfl rfl ⟨Nat.le_of_ble_eq_true rfl, Nat.le_of_ble_eq_true rfl⟩ ⟨by show _ ≤ 601024; omega, by show _ ≤ 7293034; omega⟩ (Nat.le_of_ble_eq_true rfl) ?_
  rintro _ n2 h2 ⟨b2, rfl, hn2, e2, hM2, hF2⟩
  have hS2 := hS1.fr (fun a ha => hF2 a (by omega))
  have hf2 := (hF2 (x + 627) (by omega)).trans hf1
  have hLI : LI x h2 := ⟨_, _, _, _, _, _, _, _, _, hS2, hM2, hI, hf2⟩
  refine V_istore 395 C dL_law_393 rfl (by decide) (L' := [(0, _), (1, _), (2, _), (3, _), (4, _), (5, _), (6, _)]) rfl ?_
  refine V_aload_n 396 C dL_law_395 rfl rfl ?_
  obtain ⟨⟨sp2, ou2, g2, hm2⟩, -⟩ := id hM2
  refine V_callVR 399 C dL_law_396 rfl mX10_thrown tw973 fcX10 hm2.2.1 (c_X10_thrown l G _ _ (x + 619) _ _ _ _ _ hm2.2.1) rfl rfl ⟨Nat.le_of_ble_eq_true rfl, Nat.le_of_ble_eq_true rfl⟩ ⟨by show _ ≤ 601024; omega, by show _ ≤ 7293034; omega⟩ (Nat.le_of_ble_eq_true rfl) ?_
  rintro _ _ _ ⟨rfl, rfl, rfl⟩
  refine V_iload 401 C dL_law_399 rfl rfl ?_
  refine V_icmp_eq 406 404 C dL_law_401 (by decide) rfl (fun c1 => ?_) (fun c1 => ?_)
  · skip
    refine V_iload 408 C dL_law_406 rfl rfl ?_
    refine V_if_ne 423 411 C dL_law_408 (by decide) rfl (fun c2 => ?_) (fun c2 => ?_)
    · refine V_goto 2094 C dL_law_423 (by decide) ?_
      refine V_L [0, 1, 2, 3, 4] rfl ?_
      exact KL _ _ _ _ hLI (by omega) (by omega)
    · have hk0 := nz0 (by first | exact kA_le (by omega) (by omega) (by omega) | (split <;> first | omega | (split <;> first | omega | (split <;> omega)))) c2
      refine V_aload_n 412 C dL_law_411 rfl rfl ?_
      refine V_iconst 413 C dL_law_412 rfl ic0 ?_
      refine V_lald (j := 0) 414 C dL_law_413 rfl hf2 rfl (by omega) (by omega) ?_
      refine V_iload 416 C dL_law_414 rfl rfl ?_
      refine V_i2l 417 C dL_law_416 rfl  ?_
      refine V_lcmp 418 C dL_law_417 rfl  ?_
      refine V_if_eq 423 421 C dL_law_418 (by decide) rfl (fun c3 => ?_) (fun c3 => ?_)
      · refine V_goto 2094 C dL_law_423 (by decide) ?_
        refine V_L [0, 1, 2, 3, 4] rfl ?_
        exact KL _ _ _ _ hLI (by omega) (by omega)
      · exact absurd ((lg_cmp_eq _ _).mpr (by rw [e1 hk0, e2 hk0])) c3
  · exact absurd rfl c1
set_option maxRecDepth 100000 in
set_option maxHeartbeats 4000000 in
theorem lc_runnerOf {p : Program} {l : Launch} {e : Env} {s : State} {m : MethodId} {args : Array Value} {below : List Frame} {meth : Method} {c : Code} {Q : State → Prop} {G : GT} {rt : Option FieldType} (hl : l.stackTraces = false) (C : Cx p s m args meth c cL_law 7 RL rt G) {b LL : Nat} {xs : Nat → Int32} (hX : va_X b LL xs s s.heap) (hb : b < s.heap.size ∧ ¬ rg G b) (hLL : LL ≤ 2560) {x n cells slots i : Nat} {h : AH} (hi : i + 5 ≤ LL) (hc : cells + 4 ≤ 601024) (hs : slots + 24 ≤ 7293034) (hL0 : LI x h) (KL : ∀ (n1 : Nat) (h1 : AH) (cells1 slots1 : Nat), LI x h1 → cells1 ≤ cells + 4 → slots1 ≤ slots + 24 → V p l e room_1 s m args below meth c Q G 7 cells1 slots1 n1 h1 2094 (LCL b x i) []) : V p l e room_1 s m args below meth c Q G 7 cells slots n h 426 (LCL b x i) [] := by
  obtain ⟨y, k, D, S, sv, N, T, rf, f, hS, hM, hI, hof⟩ := hL0
  refine V_aload_n 427 C dL_law_426 rfl rfl ?_
  refine V_aload_n 428 C dL_law_427 rfl rfl ?_
  refine V_iload 430 C dL_law_428 rfl rfl ?_
  refine V_iconst 431 C dL_law_430 rfl ic1 ?_
  refine V_iaddN 432 C dL_law_431 rfl  ?_
  refine V_sld (j := i + 1) 433 C hX hb dL_law_432 rfl rfl (by omega) (by omega) ?_
  refine V_aload_n 434 C dL_law_433 rfl rfl ?_
  refine V_iload 436 C dL_law_434 rfl rfl ?_
  refine V_iconst 437 C dL_law_436 rfl ic2 ?_
  refine V_iaddN 438 C dL_law_437 rfl  ?_
  refine V_sld (j := i + 2) 439 C hX hb dL_law_438 rfl rfl (by omega) (by omega) ?_
  refine V_aload_n 440 C dL_law_439 rfl rfl ?_
  refine V_callSWR 443 C dL_law_440 rfl mL_runnerOf tw601 (c_L_runnerOf l G _ _ hl x y k D S sv N T hS hI _ _ (x + 627) f hof (by omega)) rfl rfl ⟨Nat.le_of_ble_eq_true rfl, Nat.le_of_ble_eq_true rfl⟩ ⟨by show _ ≤ 601024; omega, by show _ ≤ 7293034; omega⟩ (Nat.le_of_ble_eq_true rfl) ?_
  rintro _ n1 h1 ⟨rfl, hS1, ⟨f1, hf1, e1⟩, hF1⟩
  have hM1 := hM.fr (fun a g1 g2 => hF1 a (by omega) (by omega))
  refine V_istore 445 C dL_law_443 rfl (by decide) (L' := [(0, _), (1, _), (2, _), (3, _), (4, _), (5, _)]) rfl ?_
  refine V_aload_n 446 C dL_law_445 rfl rfl ?_
  refine V_aload_n 447 C dL_law_446 rfl rfl ?_
  refine V_iload 449 C dL_law_447 rfl rfl ?_
  refine V_iconst 450 C dL_law_449 rfl ic1 ?_
  refine V_iaddN 451 C dL_law_450 rfl  ?_
  refine V_sld (j := i + 1) 452 C hX hb dL_law_451 rfl rfl (by omega) (by omega) ?_
  refine V_aload_n 453 C dL_law_452 rfl rfl ?_
  refine V_iload 455 C dL_law_453 rfl rfl ?_
  refine V_iconst 456 C dL_law_455 rfl ic2 ?_
  refine V_iaddN 457 C dL_law_456 rfl  ?_
  refine V_sld (j := i + 2) 458 C hX hb dL_law_457 rfl rfl (by omega) (by omega) ?_
  obtain ⟨⟨sp1, ou1, g1, hm1⟩, -⟩ := id hM1
  refine V_callVR 461 C dL_law_458 rfl mX10_runnerOf tw1175 fcX10 hm1.2.1 (c_X10_runnerOf l G _ _ (x + 619) rf y k D S sv N T hM1 hI _ _) rfl rfl ⟨Nat.le_of_ble_eq_true rfl, Nat.le_of_ble_eq_true rfl⟩ ⟨by show _ ≤ 601024; omega, by show _ ≤ 7293034; omega⟩ (Nat.le_of_ble_eq_true rfl) ?_
  rintro _ n2 h2 ⟨b2, rfl, hn2, e2, hM2, hF2⟩
  have hS2 := hS1.fr (fun a ha => hF2 a (by omega))
  have hf2 := (hF2 (x + 627) (by omega)).trans hf1
  have hLI : LI x h2 := ⟨_, _, _, _, _, _, _, _, _, hS2, hM2, hI, hf2⟩
  refine V_istore 463 C dL_law_461 rfl (by decide) (L' := [(0, _), (1, _), (2, _), (3, _), (4, _), (5, _), (6, _)]) rfl ?_
  refine V_aload_n 464 C dL_law_463 rfl rfl ?_
  obtain ⟨⟨sp2, ou2, g2, hm2⟩, -⟩ := id hM2
  refine V_callVR 467 C dL_law_464 rfl mX10_thrown tw973 fcX10 hm2.2.1 (c_X10_thrown l G _ _ (x + 619) _ _ _ _ _ hm2.2.1) rfl rfl ⟨Nat.le_of_ble_eq_true rfl, Nat.le_of_ble_eq_true rfl⟩ ⟨by show _ ≤ 601024; omega, by show _ ≤ 7293034; omega⟩ (Nat.le_of_ble_eq_true rfl) ?_
  rintro _ _ _ ⟨rfl, rfl, rfl⟩
  refine V_iload 469 C dL_law_467 rfl rfl ?_
  refine V_icmp_eq 474 472 C dL_law_469 (by decide) rfl (fun c1 => ?_) (fun c1 => ?_)
  · skip
    refine V_iload 476 C dL_law_474 rfl rfl ?_
    refine V_if_ne 491 479 C dL_law_476 (by decide) rfl (fun c2 => ?_) (fun c2 => ?_)
    · refine V_goto 2094 C dL_law_491 (by decide) ?_
      refine V_L [0, 1, 2, 3, 4] rfl ?_
      exact KL _ _ _ _ hLI (by omega) (by omega)
    · have hk0 := nz0 (by first | exact kA_le (by omega) (by omega) (by omega) | (split <;> first | omega | (split <;> first | omega | (split <;> omega)))) c2
      refine V_aload_n 480 C dL_law_479 rfl rfl ?_
      refine V_iconst 481 C dL_law_480 rfl ic0 ?_
      refine V_lald (j := 0) 482 C dL_law_481 rfl hf2 rfl (by omega) (by omega) ?_
      refine V_iload 484 C dL_law_482 rfl rfl ?_
      refine V_i2l 485 C dL_law_484 rfl  ?_
      refine V_lcmp 486 C dL_law_485 rfl  ?_
      refine V_if_eq 491 489 C dL_law_486 (by decide) rfl (fun c3 => ?_) (fun c3 => ?_)
      · refine V_goto 2094 C dL_law_491 (by decide) ?_
        refine V_L [0, 1, 2, 3, 4] rfl ?_
        exact KL _ _ _ _ hLI (by omega) (by omega)
      · exact absurd ((lg_cmp_eq _ _).mpr (by rw [e1 hk0, e2 hk0])) c3
  · exact absurd rfl c1
set_option maxRecDepth 100000 in
set_option maxHeartbeats 4000000 in
theorem lc_sheetOf {p : Program} {l : Launch} {e : Env} {s : State} {m : MethodId} {args : Array Value} {below : List Frame} {meth : Method} {c : Code} {Q : State → Prop} {G : GT} {rt : Option FieldType} (hl : l.stackTraces = false) (C : Cx p s m args meth c cL_law 7 RL rt G) {b LL : Nat} {xs : Nat → Int32} (hX : va_X b LL xs s s.heap) (hb : b < s.heap.size ∧ ¬ rg G b) (hLL : LL ≤ 2560) {x n cells slots i : Nat} {h : AH} (hi : i + 5 ≤ LL) (hc : cells + 4 ≤ 601024) (hs : slots + 24 ≤ 7293034) (hL0 : LI x h) (KL : ∀ (n1 : Nat) (h1 : AH) (cells1 slots1 : Nat), LI x h1 → cells1 ≤ cells + 4 → slots1 ≤ slots + 24 → V p l e room_1 s m args below meth c Q G 7 cells1 slots1 n1 h1 2094 (LCL b x i) []) : V p l e room_1 s m args below meth c Q G 7 cells slots n h 494 (LCL b x i) [] := by
  obtain ⟨y, k, D, S, sv, N, T, rf, f, hS, hM, hI, hof⟩ := hL0
  refine V_aload_n 495 C dL_law_494 rfl rfl ?_
  refine V_aload_n 496 C dL_law_495 rfl rfl ?_
  refine V_iload 498 C dL_law_496 rfl rfl ?_
  refine V_iconst 499 C dL_law_498 rfl ic1 ?_
  refine V_iaddN 500 C dL_law_499 rfl  ?_
  refine V_sld (j := i + 1) 501 C hX hb dL_law_500 rfl rfl (by omega) (by omega) ?_
  refine V_aload_n 502 C dL_law_501 rfl rfl ?_
  refine V_iload 504 C dL_law_502 rfl rfl ?_
  refine V_iconst 505 C dL_law_504 rfl ic2 ?_
  refine V_iaddN 506 C dL_law_505 rfl  ?_
  refine V_sld (j := i + 2) 507 C hX hb dL_law_506 rfl rfl (by omega) (by omega) ?_
  refine V_aload_n 508 C dL_law_507 rfl rfl ?_
  refine V_callSWR 511 C dL_law_508 rfl mL_sheetOf tw611 (c_L_sheetOf l G _ _ hl x y k D S sv N T hS hI _ _ (x + 627) f hof (by omega)) rfl rfl ⟨Nat.le_of_ble_eq_true rfl, Nat.le_of_ble_eq_true rfl⟩ ⟨by show _ ≤ 601024; omega, by show _ ≤ 7293034; omega⟩ (Nat.le_of_ble_eq_true rfl) ?_
  rintro _ n1 h1 ⟨rfl, hS1, ⟨f1, hf1, e1⟩, hF1⟩
  have hM1 := hM.fr (fun a g1 g2 => hF1 a (by omega) (by omega))
  refine V_istore 513 C dL_law_511 rfl (by decide) (L' := [(0, _), (1, _), (2, _), (3, _), (4, _), (5, _)]) rfl ?_
  refine V_aload_n 514 C dL_law_513 rfl rfl ?_
  refine V_aload_n 515 C dL_law_514 rfl rfl ?_
  refine V_iload 517 C dL_law_515 rfl rfl ?_
  refine V_iconst 518 C dL_law_517 rfl ic1 ?_
  refine V_iaddN 519 C dL_law_518 rfl  ?_
  refine V_sld (j := i + 1) 520 C hX hb dL_law_519 rfl rfl (by omega) (by omega) ?_
  refine V_aload_n 521 C dL_law_520 rfl rfl ?_
  refine V_iload 523 C dL_law_521 rfl rfl ?_
  refine V_iconst 524 C dL_law_523 rfl ic2 ?_
  refine V_iaddN 525 C dL_law_524 rfl  ?_
  refine V_sld (j := i + 2) 526 C hX hb dL_law_525 rfl rfl (by omega) (by omega) ?_
  obtain ⟨⟨sp1, ou1, g1, hm1⟩, -⟩ := id hM1
  refine V_callVR 529 C dL_law_526 rfl mX10_sheetOf tw1180 fcX10 hm1.2.1 (c_X10_sheetOf l G _ _ (x + 619) rf y k D S sv N T hM1 hI _ _) rfl rfl ⟨Nat.le_of_ble_eq_true rfl, Nat.le_of_ble_eq_true rfl⟩ ⟨by show _ ≤ 601024; omega, by show _ ≤ 7293034; omega⟩ (Nat.le_of_ble_eq_true rfl) ?_
  rintro _ n2 h2 ⟨b2, rfl, hn2, e2, hM2, hF2⟩
  have hS2 := hS1.fr (fun a ha => hF2 a (by omega))
  have hf2 := (hF2 (x + 627) (by omega)).trans hf1
  have hLI : LI x h2 := ⟨_, _, _, _, _, _, _, _, _, hS2, hM2, hI, hf2⟩
  refine V_istore 531 C dL_law_529 rfl (by decide) (L' := [(0, _), (1, _), (2, _), (3, _), (4, _), (5, _), (6, _)]) rfl ?_
  refine V_aload_n 532 C dL_law_531 rfl rfl ?_
  obtain ⟨⟨sp2, ou2, g2, hm2⟩, -⟩ := id hM2
  refine V_callVR 535 C dL_law_532 rfl mX10_thrown tw973 fcX10 hm2.2.1 (c_X10_thrown l G _ _ (x + 619) _ _ _ _ _ hm2.2.1) rfl rfl ⟨Nat.le_of_ble_eq_true rfl, Nat.le_of_ble_eq_true rfl⟩ ⟨by show _ ≤ 601024; omega, by show _ ≤ 7293034; omega⟩ (Nat.le_of_ble_eq_true rfl) ?_
  rintro _ _ _ ⟨rfl, rfl, rfl⟩
  refine V_iload 537 C dL_law_535 rfl rfl ?_
  refine V_icmp_eq 542 540 C dL_law_537 (by decide) rfl (fun c1 => ?_) (fun c1 => ?_)
  · skip
    refine V_iload 544 C dL_law_542 rfl rfl ?_
    refine V_if_ne 559 547 C dL_law_544 (by decide) rfl (fun c2 => ?_) (fun c2 => ?_)
    · refine V_goto 2094 C dL_law_559 (by decide) ?_
      refine V_L [0, 1, 2, 3, 4] rfl ?_
      exact KL _ _ _ _ hLI (by omega) (by omega)
    · have hk0 := nz0 (by first | exact kA_le (by omega) (by omega) (by omega) | (split <;> first | omega | (split <;> first | omega | (split <;> omega)))) c2
      refine V_aload_n 548 C dL_law_547 rfl rfl ?_
      refine V_iconst 549 C dL_law_548 rfl ic0 ?_
      refine V_lald (j := 0) 550 C dL_law_549 rfl hf2 rfl (by omega) (by omega) ?_
      refine V_iload 552 C dL_law_550 rfl rfl ?_
      refine V_i2l 553 C dL_law_552 rfl  ?_
      refine V_lcmp 554 C dL_law_553 rfl  ?_
      refine V_if_eq 559 557 C dL_law_554 (by decide) rfl (fun c3 => ?_) (fun c3 => ?_)
      · refine V_goto 2094 C dL_law_559 (by decide) ?_
        refine V_L [0, 1, 2, 3, 4] rfl ?_
        exact KL _ _ _ _ hLI (by omega) (by omega)
      · exact absurd ((lg_cmp_eq _ _).mpr (by rw [e1 hk0, e2 hk0])) c3
  · exact absurd rfl c1
set_option maxRecDepth 100000 in
set_option maxHeartbeats 4000000 in
theorem lc_message {p : Program} {l : Launch} {e : Env} {s : State} {m : MethodId} {args : Array Value} {below : List Frame} {meth : Method} {c : Code} {Q : State → Prop} {G : GT} {rt : Option FieldType} (hl : l.stackTraces = false) (C : Cx p s m args meth c cL_law 7 RL rt G) {b LL : Nat} {xs : Nat → Int32} (hX : va_X b LL xs s s.heap) (hb : b < s.heap.size ∧ ¬ rg G b) (hLL : LL ≤ 2560) {x n cells slots i : Nat} {h : AH} (hi : i + 5 ≤ LL) (hc : cells + 4 ≤ 601024) (hs : slots + 24 ≤ 7293034) (hL0 : LI x h) (KL : ∀ (n1 : Nat) (h1 : AH) (cells1 slots1 : Nat), LI x h1 → cells1 ≤ cells + 4 → slots1 ≤ slots + 24 → V p l e room_1 s m args below meth c Q G 7 cells1 slots1 n1 h1 2094 (LCL b x i) []) : V p l e room_1 s m args below meth c Q G 7 cells slots n h 562 (LCL b x i) [] := by
  obtain ⟨y, k, D, S, sv, N, T, rf, f, hS, hM, hI, hof⟩ := hL0
  refine V_aload_n 563 C dL_law_562 rfl rfl ?_
  refine V_aload_n 564 C dL_law_563 rfl rfl ?_
  refine V_iload 566 C dL_law_564 rfl rfl ?_
  refine V_iconst 567 C dL_law_566 rfl ic1 ?_
  refine V_iaddN 568 C dL_law_567 rfl  ?_
  refine V_sld (j := i + 1) 569 C hX hb dL_law_568 rfl rfl (by omega) (by omega) ?_
  refine V_aload_n 570 C dL_law_569 rfl rfl ?_
  refine V_callSWR 573 C dL_law_570 rfl mL_message tw623 (c_L_message l G _ _ hl x y k D S sv N T hS hI _ (x + 627) f hof (by omega)) rfl rfl ⟨Nat.le_of_ble_eq_true rfl, Nat.le_of_ble_eq_true rfl⟩ ⟨by show _ ≤ 601024; omega, by show _ ≤ 7293034; omega⟩ (Nat.le_of_ble_eq_true rfl) ?_
  rintro _ n1 h1 ⟨rfl, hS1, ⟨f1, hf1, e1⟩, hF1⟩
  have hM1 := hM.fr (fun a g1 g2 => hF1 a (by omega) (by omega))
  refine V_istore 575 C dL_law_573 rfl (by decide) (L' := [(0, _), (1, _), (2, _), (3, _), (4, _), (5, _)]) rfl ?_
  refine V_aload_n 576 C dL_law_575 rfl rfl ?_
  refine V_aload_n 577 C dL_law_576 rfl rfl ?_
  refine V_iload 579 C dL_law_577 rfl rfl ?_
  refine V_iconst 580 C dL_law_579 rfl ic1 ?_
  refine V_iaddN 581 C dL_law_580 rfl  ?_
  refine V_sld (j := i + 1) 582 C hX hb dL_law_581 rfl rfl (by omega) (by omega) ?_
  obtain ⟨⟨sp1, ou1, g1, hm1⟩, -⟩ := id hM1
  refine V_callVR 585 C dL_law_582 rfl mX10_message tw1185 fcX10 hm1.2.1 (c_X10_message l G _ _ (x + 619) rf y k D S sv N T hM1 hI _) rfl rfl ⟨Nat.le_of_ble_eq_true rfl, Nat.le_of_ble_eq_true rfl⟩ ⟨by show _ ≤ 601024; omega, by show _ ≤ 7293034; omega⟩ (Nat.le_of_ble_eq_true rfl) ?_
  rintro _ n2 h2 ⟨b2, rfl, hn2, e2, hM2, hF2⟩
  have hS2 := hS1.fr (fun a ha => hF2 a (by omega))
  have hf2 := (hF2 (x + 627) (by omega)).trans hf1
  have hLI : LI x h2 := ⟨_, _, _, _, _, _, _, _, _, hS2, hM2, hI, hf2⟩
  refine V_istore 587 C dL_law_585 rfl (by decide) (L' := [(0, _), (1, _), (2, _), (3, _), (4, _), (5, _), (6, _)]) rfl ?_
  refine V_aload_n 588 C dL_law_587 rfl rfl ?_
  obtain ⟨⟨sp2, ou2, g2, hm2⟩, -⟩ := id hM2
  refine V_callVR 591 C dL_law_588 rfl mX10_thrown tw973 fcX10 hm2.2.1 (c_X10_thrown l G _ _ (x + 619) _ _ _ _ _ hm2.2.1) rfl rfl ⟨Nat.le_of_ble_eq_true rfl, Nat.le_of_ble_eq_true rfl⟩ ⟨by show _ ≤ 601024; omega, by show _ ≤ 7293034; omega⟩ (Nat.le_of_ble_eq_true rfl) ?_
  rintro _ _ _ ⟨rfl, rfl, rfl⟩
  refine V_iload 593 C dL_law_591 rfl rfl ?_
  refine V_icmp_eq 598 596 C dL_law_593 (by decide) rfl (fun c1 => ?_) (fun c1 => ?_)
  · skip
    refine V_iload 600 C dL_law_598 rfl rfl ?_
    refine V_if_ne 615 603 C dL_law_600 (by decide) rfl (fun c2 => ?_) (fun c2 => ?_)
    · refine V_goto 2094 C dL_law_615 (by decide) ?_
      refine V_L [0, 1, 2, 3, 4] rfl ?_
      exact KL _ _ _ _ hLI (by omega) (by omega)
    · have hk0 := nz0 (by first | exact kA_le (by omega) (by omega) (by omega) | (split <;> first | omega | (split <;> first | omega | (split <;> omega)))) c2
      refine V_aload_n 604 C dL_law_603 rfl rfl ?_
      refine V_iconst 605 C dL_law_604 rfl ic0 ?_
      refine V_lald (j := 0) 606 C dL_law_605 rfl hf2 rfl (by omega) (by omega) ?_
      refine V_iload 608 C dL_law_606 rfl rfl ?_
      refine V_i2l 609 C dL_law_608 rfl  ?_
      refine V_lcmp 610 C dL_law_609 rfl  ?_
      refine V_if_eq 615 613 C dL_law_610 (by decide) rfl (fun c3 => ?_) (fun c3 => ?_)
      · refine V_goto 2094 C dL_law_615 (by decide) ?_
        refine V_L [0, 1, 2, 3, 4] rfl ?_
        exact KL _ _ _ _ hLI (by omega) (by omega)
      · exact absurd ((lg_cmp_eq _ _).mpr (by rw [e1 hk0, e2 hk0])) c3
  · exact absurd rfl c1
set_option maxRecDepth 100000 in
set_option maxHeartbeats 4000000 in
theorem lc_town {p : Program} {l : Launch} {e : Env} {s : State} {m : MethodId} {args : Array Value} {below : List Frame} {meth : Method} {c : Code} {Q : State → Prop} {G : GT} {rt : Option FieldType} (hl : l.stackTraces = false) (C : Cx p s m args meth c cL_law 7 RL rt G) {b LL : Nat} {xs : Nat → Int32} (hX : va_X b LL xs s s.heap) (hb : b < s.heap.size ∧ ¬ rg G b) (hLL : LL ≤ 2560) {x n cells slots i : Nat} {h : AH} (hi : i + 5 ≤ LL) (hc : cells + 4 ≤ 601024) (hs : slots + 24 ≤ 7293034) (hL0 : LI x h) (KL : ∀ (n1 : Nat) (h1 : AH) (cells1 slots1 : Nat), LI x h1 → cells1 ≤ cells + 4 → slots1 ≤ slots + 24 → V p l e room_1 s m args below meth c Q G 7 cells1 slots1 n1 h1 2094 (LCL b x i) []) : V p l e room_1 s m args below meth c Q G 7 cells slots n h 618 (LCL b x i) [] := by
  obtain ⟨y, k, D, S, sv, N, T, rf, f, hS, hM, hI, hof⟩ := hL0
  refine V_aload_n 619 C dL_law_618 rfl rfl ?_
  refine V_aload_n 620 C dL_law_619 rfl rfl ?_
  refine V_callSWR 623 C dL_law_620 rfl mL_town tw634 (c_L_town l G _ _ hl x y k D S sv N T hS hI (x + 627) f hof (by omega)) rfl rfl ⟨Nat.le_of_ble_eq_true rfl, Nat.le_of_ble_eq_true rfl⟩ ⟨by show _ ≤ 601024; omega, by show _ ≤ 7293034; omega⟩ (Nat.le_of_ble_eq_true rfl) ?_
  rintro _ n1 h1 ⟨rfl, hS1, ⟨f1, hf1, e1⟩, hF1⟩
  have hM1 := hM.fr (fun a g1 g2 => hF1 a (by omega) (by omega))
  refine V_istore 625 C dL_law_623 rfl (by decide) (L' := [(0, _), (1, _), (2, _), (3, _), (4, _), (5, _)]) rfl ?_
  refine V_aload_n 626 C dL_law_625 rfl rfl ?_
  obtain ⟨⟨sp1, ou1, g1, hm1⟩, -⟩ := id hM1
  refine V_callVR 629 C dL_law_626 rfl mX10_town tw1192 fcX10 hm1.2.1 (c_X10_town l G _ _ (x + 619) rf y k D S sv N T hM1 hI) rfl rfl ⟨Nat.le_of_ble_eq_true rfl, Nat.le_of_ble_eq_true rfl⟩ ⟨by show _ ≤ 601024; omega, by show _ ≤ 7293034; omega⟩ (Nat.le_of_ble_eq_true rfl) ?_
  rintro _ n2 h2 ⟨b2, rfl, hn2, e2, hM2, hF2⟩
  have hS2 := hS1.fr (fun a ha => hF2 a (by omega))
  have hf2 := (hF2 (x + 627) (by omega)).trans hf1
  have hLI : LI x h2 := ⟨_, _, _, _, _, _, _, _, _, hS2, hM2, SI_act hI (Iv_aTw hI.1), hf2⟩
  refine V_istore 631 C dL_law_629 rfl (by decide) (L' := [(0, _), (1, _), (2, _), (3, _), (4, _), (5, _), (6, _)]) rfl ?_
  refine V_aload_n 632 C dL_law_631 rfl rfl ?_
  obtain ⟨⟨sp2, ou2, g2, hm2⟩, -⟩ := id hM2
  refine V_callVR 635 C dL_law_632 rfl mX10_thrown tw973 fcX10 hm2.2.1 (c_X10_thrown l G _ _ (x + 619) _ _ _ _ _ hm2.2.1) rfl rfl ⟨Nat.le_of_ble_eq_true rfl, Nat.le_of_ble_eq_true rfl⟩ ⟨by show _ ≤ 601024; omega, by show _ ≤ 7293034; omega⟩ (Nat.le_of_ble_eq_true rfl) ?_
  rintro _ _ _ ⟨rfl, rfl, rfl⟩
  refine V_iload 637 C dL_law_635 rfl rfl ?_
  refine V_icmp_eq 642 640 C dL_law_637 (by decide) rfl (fun c1 => ?_) (fun c1 => ?_)
  · skip
    refine V_iload 644 C dL_law_642 rfl rfl ?_
    refine V_if_ne 659 647 C dL_law_644 (by decide) rfl (fun c2 => ?_) (fun c2 => ?_)
    · refine V_goto 2094 C dL_law_659 (by decide) ?_
      refine V_L [0, 1, 2, 3, 4] rfl ?_
      exact KL _ _ _ _ hLI (by omega) (by omega)
    · have hk0 := nz0 (by first | exact kA_le (by omega) (by omega) (by omega) | (split <;> first | omega | (split <;> first | omega | (split <;> omega)))) c2
      refine V_aload_n 648 C dL_law_647 rfl rfl ?_
      refine V_iconst 649 C dL_law_648 rfl ic0 ?_
      refine V_lald (j := 0) 650 C dL_law_649 rfl hf2 rfl (by omega) (by omega) ?_
      refine V_iload 652 C dL_law_650 rfl rfl ?_
      refine V_i2l 653 C dL_law_652 rfl  ?_
      refine V_lcmp 654 C dL_law_653 rfl  ?_
      refine V_if_eq 659 657 C dL_law_654 (by decide) rfl (fun c3 => ?_) (fun c3 => ?_)
      · refine V_goto 2094 C dL_law_659 (by decide) ?_
        refine V_L [0, 1, 2, 3, 4] rfl ?_
        exact KL _ _ _ _ hLI (by omega) (by omega)
      · exact absurd ((lg_cmp_eq _ _).mpr (by rw [e1 hk0, e2 hk0])) c3
  · exact absurd rfl c1
set_option maxRecDepth 100000 in
set_option maxHeartbeats 4000000 in
theorem lc_road {p : Program} {l : Launch} {e : Env} {s : State} {m : MethodId} {args : Array Value} {below : List Frame} {meth : Method} {c : Code} {Q : State → Prop} {G : GT} {rt : Option FieldType} (hl : l.stackTraces = false) (C : Cx p s m args meth c cL_law 7 RL rt G) {b LL : Nat} {xs : Nat → Int32} (hX : va_X b LL xs s s.heap) (hb : b < s.heap.size ∧ ¬ rg G b) (hLL : LL ≤ 2560) {x n cells slots i : Nat} {h : AH} (hi : i + 5 ≤ LL) (hc : cells + 4 ≤ 601024) (hs : slots + 24 ≤ 7293034) (hL0 : LI x h) (KL : ∀ (n1 : Nat) (h1 : AH) (cells1 slots1 : Nat), LI x h1 → cells1 ≤ cells + 4 → slots1 ≤ slots + 24 → V p l e room_1 s m args below meth c Q G 7 cells1 slots1 n1 h1 2094 (LCL b x i) []) : V p l e room_1 s m args below meth c Q G 7 cells slots n h 662 (LCL b x i) [] := by
  obtain ⟨y, k, D, S, sv, N, T, rf, f, hS, hM, hI, hof⟩ := hL0
  refine V_aload_n 663 C dL_law_662 rfl rfl ?_
  refine V_aload_n 664 C dL_law_663 rfl rfl ?_
  refine V_iload 666 C dL_law_664 rfl rfl ?_
  refine V_iconst 667 C dL_law_666 rfl ic1 ?_
  refine V_iaddN 668 C dL_law_667 rfl  ?_
  refine V_sld (j := i + 1) 669 C hX hb dL_law_668 rfl rfl (by omega) (by omega) ?_
  refine V_aload_n 670 C dL_law_669 rfl rfl ?_
  refine V_iload 672 C dL_law_670 rfl rfl ?_
  refine V_iconst 673 C dL_law_672 rfl ic2 ?_
  refine V_iaddN 674 C dL_law_673 rfl  ?_
  refine V_sld (j := i + 2) 675 C hX hb dL_law_674 rfl rfl (by omega) (by omega) ?_
  refine V_aload_n 676 C dL_law_675 rfl rfl ?_
  refine V_iload 678 C dL_law_676 rfl rfl ?_
  refine V_iconst 679 C dL_law_678 rfl ic3 ?_
  refine V_iaddN 680 C dL_law_679 rfl  ?_
  refine V_sld (j := i + 3) 681 C hX hb dL_law_680 rfl rfl (by omega) (by omega) ?_
  refine V_aload_n 682 C dL_law_681 rfl rfl ?_
  refine V_callSWR 685 C dL_law_682 rfl mL_road tw671 (c_L_road l G _ _ hl x y k D S sv N T hS hI _ _ _ (x + 627) f hof (by omega)) rfl rfl ⟨Nat.le_of_ble_eq_true rfl, Nat.le_of_ble_eq_true rfl⟩ ⟨by show _ ≤ 601024; omega, by show _ ≤ 7293034; omega⟩ (Nat.le_of_ble_eq_true rfl) ?_
  rintro _ n1 h1 ⟨rfl, hS1, ⟨f1, hf1, e1⟩, hF1⟩
  have hM1 := hM.fr (fun a g1 g2 => hF1 a (by omega) (by omega))
  refine V_istore 687 C dL_law_685 rfl (by decide) (L' := [(0, _), (1, _), (2, _), (3, _), (4, _), (5, _)]) rfl ?_
  refine V_aload_n 688 C dL_law_687 rfl rfl ?_
  refine V_aload_n 689 C dL_law_688 rfl rfl ?_
  refine V_iload 691 C dL_law_689 rfl rfl ?_
  refine V_iconst 692 C dL_law_691 rfl ic1 ?_
  refine V_iaddN 693 C dL_law_692 rfl  ?_
  refine V_sld (j := i + 1) 694 C hX hb dL_law_693 rfl rfl (by omega) (by omega) ?_
  refine V_aload_n 695 C dL_law_694 rfl rfl ?_
  refine V_iload 697 C dL_law_695 rfl rfl ?_
  refine V_iconst 698 C dL_law_697 rfl ic2 ?_
  refine V_iaddN 699 C dL_law_698 rfl  ?_
  refine V_sld (j := i + 2) 700 C hX hb dL_law_699 rfl rfl (by omega) (by omega) ?_
  refine V_aload_n 701 C dL_law_700 rfl rfl ?_
  refine V_iload 703 C dL_law_701 rfl rfl ?_
  refine V_iconst 704 C dL_law_703 rfl ic3 ?_
  refine V_iaddN 705 C dL_law_704 rfl  ?_
  refine V_sld (j := i + 3) 706 C hX hb dL_law_705 rfl rfl (by omega) (by omega) ?_
  obtain ⟨⟨sp1, ou1, g1, hm1⟩, -⟩ := id hM1
  refine V_callVR 709 C dL_law_706 rfl mX10_road tw1200 fcX10 hm1.2.1 (c_X10_road l G _ _ (x + 619) rf y k D S sv N T hM1 hI _ _ _) rfl rfl ⟨Nat.le_of_ble_eq_true rfl, Nat.le_of_ble_eq_true rfl⟩ ⟨by show _ ≤ 601024; omega, by show _ ≤ 7293034; omega⟩ (Nat.le_of_ble_eq_true rfl) ?_
  rintro _ n2 h2 ⟨b2, rfl, hn2, e2, hM2, hF2⟩
  have hS2 := hS1.fr (fun a ha => hF2 a (by omega))
  have hf2 := (hF2 (x + 627) (by omega)).trans hf1
  have hLI : LI x h2 := ⟨_, _, _, _, _, _, _, _, _, hS2, hM2, SI_act hI (Iv_aRd hI.1 _ _ _), hf2⟩
  refine V_istore 711 C dL_law_709 rfl (by decide) (L' := [(0, _), (1, _), (2, _), (3, _), (4, _), (5, _), (6, _)]) rfl ?_
  refine V_aload_n 712 C dL_law_711 rfl rfl ?_
  obtain ⟨⟨sp2, ou2, g2, hm2⟩, -⟩ := id hM2
  refine V_callVR 715 C dL_law_712 rfl mX10_thrown tw973 fcX10 hm2.2.1 (c_X10_thrown l G _ _ (x + 619) _ _ _ _ _ hm2.2.1) rfl rfl ⟨Nat.le_of_ble_eq_true rfl, Nat.le_of_ble_eq_true rfl⟩ ⟨by show _ ≤ 601024; omega, by show _ ≤ 7293034; omega⟩ (Nat.le_of_ble_eq_true rfl) ?_
  rintro _ _ _ ⟨rfl, rfl, rfl⟩
  refine V_iload 717 C dL_law_715 rfl rfl ?_
  refine V_icmp_eq 722 720 C dL_law_717 (by decide) rfl (fun c1 => ?_) (fun c1 => ?_)
  · skip
    refine V_iload 724 C dL_law_722 rfl rfl ?_
    refine V_if_ne 739 727 C dL_law_724 (by decide) rfl (fun c2 => ?_) (fun c2 => ?_)
    · refine V_goto 2094 C dL_law_739 (by decide) ?_
      refine V_L [0, 1, 2, 3, 4] rfl ?_
      exact KL _ _ _ _ hLI (by omega) (by omega)
    · have hk0 := nz0 (by first | exact kA_le (by omega) (by omega) (by omega) | (split <;> first | omega | (split <;> first | omega | (split <;> omega)))) c2
      refine V_aload_n 728 C dL_law_727 rfl rfl ?_
      refine V_iconst 729 C dL_law_728 rfl ic0 ?_
      refine V_lald (j := 0) 730 C dL_law_729 rfl hf2 rfl (by omega) (by omega) ?_
      refine V_iload 732 C dL_law_730 rfl rfl ?_
      refine V_i2l 733 C dL_law_732 rfl  ?_
      refine V_lcmp 734 C dL_law_733 rfl  ?_
      refine V_if_eq 739 737 C dL_law_734 (by decide) rfl (fun c3 => ?_) (fun c3 => ?_)
      · refine V_goto 2094 C dL_law_739 (by decide) ?_
        refine V_L [0, 1, 2, 3, 4] rfl ?_
        exact KL _ _ _ _ hLI (by omega) (by omega)
      · exact absurd ((lg_cmp_eq _ _).mpr (by rw [e1 hk0, e2 hk0])) c3
  · exact absurd rfl c1
set_option maxRecDepth 100000 in
set_option maxHeartbeats 4000000 in
theorem lc_runner {p : Program} {l : Launch} {e : Env} {s : State} {m : MethodId} {args : Array Value} {below : List Frame} {meth : Method} {c : Code} {Q : State → Prop} {G : GT} {rt : Option FieldType} (hl : l.stackTraces = false) (C : Cx p s m args meth c cL_law 7 RL rt G) {b LL : Nat} {xs : Nat → Int32} (hX : va_X b LL xs s s.heap) (hb : b < s.heap.size ∧ ¬ rg G b) (hLL : LL ≤ 2560) {x n cells slots i : Nat} {h : AH} (hi : i + 5 ≤ LL) (hc : cells + 4 ≤ 601024) (hs : slots + 24 ≤ 7293034) (hL0 : LI x h) (KL : ∀ (n1 : Nat) (h1 : AH) (cells1 slots1 : Nat), LI x h1 → cells1 ≤ cells + 4 → slots1 ≤ slots + 24 → V p l e room_1 s m args below meth c Q G 7 cells1 slots1 n1 h1 2094 (LCL b x i) []) : V p l e room_1 s m args below meth c Q G 7 cells slots n h 742 (LCL b x i) [] := by
  obtain ⟨y, k, D, S, sv, N, T, rf, f, hS, hM, hI, hof⟩ := hL0
  refine V_aload_n 743 C dL_law_742 rfl rfl ?_
  refine V_aload_n 744 C dL_law_743 rfl rfl ?_
  refine V_iload 746 C dL_law_744 rfl rfl ?_
  refine V_iconst 747 C dL_law_746 rfl ic1 ?_
  refine V_iaddN 748 C dL_law_747 rfl  ?_
  refine V_sld (j := i + 1) 749 C hX hb dL_law_748 rfl rfl (by omega) (by omega) ?_
  refine V_aload_n 750 C dL_law_749 rfl rfl ?_
  refine V_callSWR 753 C dL_law_750 rfl mL_runner tw679 (c_L_runner l G _ _ hl x y k D S sv N T hS hI _ (x + 627) f hof (by omega)) rfl rfl ⟨Nat.le_of_ble_eq_true rfl, Nat.le_of_ble_eq_true rfl⟩ ⟨by show _ ≤ 601024; omega, by show _ ≤ 7293034; omega⟩ (Nat.le_of_ble_eq_true rfl) ?_
  rintro _ n1 h1 ⟨rfl, hS1, ⟨f1, hf1, e1⟩, hF1⟩
  have hM1 := hM.fr (fun a g1 g2 => hF1 a (by omega) (by omega))
  refine V_istore 755 C dL_law_753 rfl (by decide) (L' := [(0, _), (1, _), (2, _), (3, _), (4, _), (5, _)]) rfl ?_
  refine V_aload_n 756 C dL_law_755 rfl rfl ?_
  refine V_aload_n 757 C dL_law_756 rfl rfl ?_
  refine V_iload 759 C dL_law_757 rfl rfl ?_
  refine V_iconst 760 C dL_law_759 rfl ic1 ?_
  refine V_iaddN 761 C dL_law_760 rfl  ?_
  refine V_sld (j := i + 1) 762 C hX hb dL_law_761 rfl rfl (by omega) (by omega) ?_
  obtain ⟨⟨sp1, ou1, g1, hm1⟩, -⟩ := id hM1
  refine V_callVR 765 C dL_law_762 rfl mX10_runner tw1205 fcX10 hm1.2.1 (c_X10_runner l G _ _ (x + 619) rf y k D S sv N T hM1 hI _) rfl rfl ⟨Nat.le_of_ble_eq_true rfl, Nat.le_of_ble_eq_true rfl⟩ ⟨by show _ ≤ 601024; omega, by show _ ≤ 7293034; omega⟩ (Nat.le_of_ble_eq_true rfl) ?_
  rintro _ n2 h2 ⟨b2, rfl, hn2, e2, hM2, hF2⟩
  have hS2 := hS1.fr (fun a ha => hF2 a (by omega))
  have hf2 := (hF2 (x + 627) (by omega)).trans hf1
  have hLI : LI x h2 := ⟨_, _, _, _, _, _, _, _, _, hS2, hM2, SI_act hI (Iv_aRu hI.1 _), hf2⟩
  refine V_istore 767 C dL_law_765 rfl (by decide) (L' := [(0, _), (1, _), (2, _), (3, _), (4, _), (5, _), (6, _)]) rfl ?_
  refine V_aload_n 768 C dL_law_767 rfl rfl ?_
  obtain ⟨⟨sp2, ou2, g2, hm2⟩, -⟩ := id hM2
  refine V_callVR 771 C dL_law_768 rfl mX10_thrown tw973 fcX10 hm2.2.1 (c_X10_thrown l G _ _ (x + 619) _ _ _ _ _ hm2.2.1) rfl rfl ⟨Nat.le_of_ble_eq_true rfl, Nat.le_of_ble_eq_true rfl⟩ ⟨by show _ ≤ 601024; omega, by show _ ≤ 7293034; omega⟩ (Nat.le_of_ble_eq_true rfl) ?_
  rintro _ _ _ ⟨rfl, rfl, rfl⟩
  refine V_iload 773 C dL_law_771 rfl rfl ?_
  refine V_icmp_eq 778 776 C dL_law_773 (by decide) rfl (fun c1 => ?_) (fun c1 => ?_)
  · skip
    refine V_iload 780 C dL_law_778 rfl rfl ?_
    refine V_if_ne 795 783 C dL_law_780 (by decide) rfl (fun c2 => ?_) (fun c2 => ?_)
    · refine V_goto 2094 C dL_law_795 (by decide) ?_
      refine V_L [0, 1, 2, 3, 4] rfl ?_
      exact KL _ _ _ _ hLI (by omega) (by omega)
    · have hk0 := nz0 (by first | exact kA_le (by omega) (by omega) (by omega) | (split <;> first | omega | (split <;> first | omega | (split <;> omega)))) c2
      refine V_aload_n 784 C dL_law_783 rfl rfl ?_
      refine V_iconst 785 C dL_law_784 rfl ic0 ?_
      refine V_lald (j := 0) 786 C dL_law_785 rfl hf2 rfl (by omega) (by omega) ?_
      refine V_iload 788 C dL_law_786 rfl rfl ?_
      refine V_i2l 789 C dL_law_788 rfl  ?_
      refine V_lcmp 790 C dL_law_789 rfl  ?_
      refine V_if_eq 795 793 C dL_law_790 (by decide) rfl (fun c3 => ?_) (fun c3 => ?_)
      · refine V_goto 2094 C dL_law_795 (by decide) ?_
        refine V_L [0, 1, 2, 3, 4] rfl ?_
        exact KL _ _ _ _ hLI (by omega) (by omega)
      · exact absurd ((lg_cmp_eq _ _).mpr (by rw [e1 hk0, e2 hk0])) c3
  · exact absurd rfl c1
set_option maxRecDepth 100000 in
set_option maxHeartbeats 4000000 in
theorem lc_write {p : Program} {l : Launch} {e : Env} {s : State} {m : MethodId} {args : Array Value} {below : List Frame} {meth : Method} {c : Code} {Q : State → Prop} {G : GT} {rt : Option FieldType} (hl : l.stackTraces = false) (C : Cx p s m args meth c cL_law 7 RL rt G) {b LL : Nat} {xs : Nat → Int32} (hX : va_X b LL xs s s.heap) (hb : b < s.heap.size ∧ ¬ rg G b) (hLL : LL ≤ 2560) {x n cells slots i : Nat} {h : AH} (hi : i + 5 ≤ LL) (hc : cells + 4 ≤ 601024) (hs : slots + 24 ≤ 7293034) (hL0 : LI x h) (KL : ∀ (n1 : Nat) (h1 : AH) (cells1 slots1 : Nat), LI x h1 → cells1 ≤ cells + 4 → slots1 ≤ slots + 24 → V p l e room_1 s m args below meth c Q G 7 cells1 slots1 n1 h1 2094 (LCL b x i) []) : V p l e room_1 s m args below meth c Q G 7 cells slots n h 798 (LCL b x i) [] := by
  obtain ⟨y, k, D, S, sv, N, T, rf, f, hS, hM, hI, hof⟩ := hL0
  refine V_aload_n 799 C dL_law_798 rfl rfl ?_
  refine V_aload_n 800 C dL_law_799 rfl rfl ?_
  refine V_iload 802 C dL_law_800 rfl rfl ?_
  refine V_iconst 803 C dL_law_802 rfl ic1 ?_
  refine V_iaddN 804 C dL_law_803 rfl  ?_
  refine V_sld (j := i + 1) 805 C hX hb dL_law_804 rfl rfl (by omega) (by omega) ?_
  refine V_aload_n 806 C dL_law_805 rfl rfl ?_
  refine V_iload 808 C dL_law_806 rfl rfl ?_
  refine V_iconst 809 C dL_law_808 rfl ic2 ?_
  refine V_iaddN 810 C dL_law_809 rfl  ?_
  refine V_sld (j := i + 2) 811 C hX hb dL_law_810 rfl rfl (by omega) (by omega) ?_
  refine V_aload_n 812 C dL_law_811 rfl rfl ?_
  refine V_iload 814 C dL_law_812 rfl rfl ?_
  refine V_iconst 815 C dL_law_814 rfl ic3 ?_
  refine V_iaddN 816 C dL_law_815 rfl  ?_
  refine V_sld (j := i + 3) 817 C hX hb dL_law_816 rfl rfl (by omega) (by omega) ?_
  refine V_aload_n 818 C dL_law_817 rfl rfl ?_
  refine V_callSWR 821 C dL_law_818 rfl mL_write tw687 (c_L_write l G _ _ hl x y k D S sv N T hS hI _ _ _ (x + 627) f hof (by omega)) rfl rfl ⟨Nat.le_of_ble_eq_true rfl, Nat.le_of_ble_eq_true rfl⟩ ⟨by show _ ≤ 601024; omega, by show _ ≤ 7293034; omega⟩ (Nat.le_of_ble_eq_true rfl) ?_
  rintro _ n1 h1 ⟨rfl, hS1, ⟨f1, hf1, e1⟩, hF1⟩
  have hM1 := hM.fr (fun a g1 g2 => hF1 a (by omega) (by omega))
  refine V_istore 823 C dL_law_821 rfl (by decide) (L' := [(0, _), (1, _), (2, _), (3, _), (4, _), (5, _)]) rfl ?_
  refine V_aload_n 824 C dL_law_823 rfl rfl ?_
  refine V_aload_n 825 C dL_law_824 rfl rfl ?_
  refine V_iload 827 C dL_law_825 rfl rfl ?_
  refine V_iconst 828 C dL_law_827 rfl ic1 ?_
  refine V_iaddN 829 C dL_law_828 rfl  ?_
  refine V_sld (j := i + 1) 830 C hX hb dL_law_829 rfl rfl (by omega) (by omega) ?_
  refine V_aload_n 831 C dL_law_830 rfl rfl ?_
  refine V_iload 833 C dL_law_831 rfl rfl ?_
  refine V_iconst 834 C dL_law_833 rfl ic2 ?_
  refine V_iaddN 835 C dL_law_834 rfl  ?_
  refine V_sld (j := i + 2) 836 C hX hb dL_law_835 rfl rfl (by omega) (by omega) ?_
  refine V_aload_n 837 C dL_law_836 rfl rfl ?_
  refine V_iload 839 C dL_law_837 rfl rfl ?_
  refine V_iconst 840 C dL_law_839 rfl ic3 ?_
  refine V_iaddN 841 C dL_law_840 rfl  ?_
  refine V_sld (j := i + 3) 842 C hX hb dL_law_841 rfl rfl (by omega) (by omega) ?_
  obtain ⟨⟨sp1, ou1, g1, hm1⟩, -⟩ := id hM1
  refine V_callVR 845 C dL_law_842 rfl mX10_write tw1209 fcX10 hm1.2.1 (c_X10_write l G _ _ (x + 619) rf y k D S sv N T hM1 hI _ _ _) rfl rfl ⟨Nat.le_of_ble_eq_true rfl, Nat.le_of_ble_eq_true rfl⟩ ⟨by show _ ≤ 601024; omega, by show _ ≤ 7293034; omega⟩ (Nat.le_of_ble_eq_true rfl) ?_
  rintro _ n2 h2 ⟨b2, rfl, hn2, e2, hM2, hF2⟩
  have hS2 := hS1.fr (fun a ha => hF2 a (by omega))
  have hf2 := (hF2 (x + 627) (by omega)).trans hf1
  have hLI : LI x h2 := ⟨_, _, _, _, _, _, _, _, _, hS2, hM2, SI_act hI (Iv_aWr hI.1 _ _ _), hf2⟩
  refine V_istore 847 C dL_law_845 rfl (by decide) (L' := [(0, _), (1, _), (2, _), (3, _), (4, _), (5, _), (6, _)]) rfl ?_
  refine V_aload_n 848 C dL_law_847 rfl rfl ?_
  obtain ⟨⟨sp2, ou2, g2, hm2⟩, -⟩ := id hM2
  refine V_callVR 851 C dL_law_848 rfl mX10_thrown tw973 fcX10 hm2.2.1 (c_X10_thrown l G _ _ (x + 619) _ _ _ _ _ hm2.2.1) rfl rfl ⟨Nat.le_of_ble_eq_true rfl, Nat.le_of_ble_eq_true rfl⟩ ⟨by show _ ≤ 601024; omega, by show _ ≤ 7293034; omega⟩ (Nat.le_of_ble_eq_true rfl) ?_
  rintro _ _ _ ⟨rfl, rfl, rfl⟩
  refine V_iload 853 C dL_law_851 rfl rfl ?_
  refine V_icmp_eq 858 856 C dL_law_853 (by decide) rfl (fun c1 => ?_) (fun c1 => ?_)
  · skip
    refine V_iload 860 C dL_law_858 rfl rfl ?_
    refine V_if_ne 875 863 C dL_law_860 (by decide) rfl (fun c2 => ?_) (fun c2 => ?_)
    · refine V_goto 2094 C dL_law_875 (by decide) ?_
      refine V_L [0, 1, 2, 3, 4] rfl ?_
      exact KL _ _ _ _ hLI (by omega) (by omega)
    · have hk0 := nz0 (by first | exact kA_le (by omega) (by omega) (by omega) | (split <;> first | omega | (split <;> first | omega | (split <;> omega)))) c2
      refine V_aload_n 864 C dL_law_863 rfl rfl ?_
      refine V_iconst 865 C dL_law_864 rfl ic0 ?_
      refine V_lald (j := 0) 866 C dL_law_865 rfl hf2 rfl (by omega) (by omega) ?_
      refine V_iload 868 C dL_law_866 rfl rfl ?_
      refine V_i2l 869 C dL_law_868 rfl  ?_
      refine V_lcmp 870 C dL_law_869 rfl  ?_
      refine V_if_eq 875 873 C dL_law_870 (by decide) rfl (fun c3 => ?_) (fun c3 => ?_)
      · refine V_goto 2094 C dL_law_875 (by decide) ?_
        refine V_L [0, 1, 2, 3, 4] rfl ?_
        exact KL _ _ _ _ hLI (by omega) (by omega)
      · exact absurd ((lg_cmp_eq _ _).mpr (by rw [e1 hk0, e2 hk0])) c3
  · exact absurd rfl c1
set_option maxRecDepth 100000 in
set_option maxHeartbeats 4000000 in
theorem lc_take {p : Program} {l : Launch} {e : Env} {s : State} {m : MethodId} {args : Array Value} {below : List Frame} {meth : Method} {c : Code} {Q : State → Prop} {G : GT} {rt : Option FieldType} (hl : l.stackTraces = false) (C : Cx p s m args meth c cL_law 7 RL rt G) {b LL : Nat} {xs : Nat → Int32} (hX : va_X b LL xs s s.heap) (hb : b < s.heap.size ∧ ¬ rg G b) (hLL : LL ≤ 2560) {x n cells slots i : Nat} {h : AH} (hi : i + 5 ≤ LL) (hc : cells + 4 ≤ 601024) (hs : slots + 24 ≤ 7293034) (hL0 : LI x h) (KL : ∀ (n1 : Nat) (h1 : AH) (cells1 slots1 : Nat), LI x h1 → cells1 ≤ cells + 4 → slots1 ≤ slots + 24 → V p l e room_1 s m args below meth c Q G 7 cells1 slots1 n1 h1 2094 (LCL b x i) []) : V p l e room_1 s m args below meth c Q G 7 cells slots n h 878 (LCL b x i) [] := by
  obtain ⟨y, k, D, S, sv, N, T, rf, f, hS, hM, hI, hof⟩ := hL0
  refine V_aload_n 879 C dL_law_878 rfl rfl ?_
  refine V_aload_n 880 C dL_law_879 rfl rfl ?_
  refine V_iload 882 C dL_law_880 rfl rfl ?_
  refine V_iconst 883 C dL_law_882 rfl ic1 ?_
  refine V_iaddN 884 C dL_law_883 rfl  ?_
  refine V_sld (j := i + 1) 885 C hX hb dL_law_884 rfl rfl (by omega) (by omega) ?_
  refine V_aload_n 886 C dL_law_885 rfl rfl ?_
  refine V_iload 888 C dL_law_886 rfl rfl ?_
  refine V_iconst 889 C dL_law_888 rfl ic2 ?_
  refine V_iaddN 890 C dL_law_889 rfl  ?_
  refine V_sld (j := i + 2) 891 C hX hb dL_law_890 rfl rfl (by omega) (by omega) ?_
  refine V_aload_n 892 C dL_law_891 rfl rfl ?_
  refine V_callSWR 895 C dL_law_892 rfl mL_take tw695 (c_L_take l G _ _ hl x y k D S sv N T hS hI _ _ (x + 627) f hof (by omega)) rfl rfl ⟨Nat.le_of_ble_eq_true rfl, Nat.le_of_ble_eq_true rfl⟩ ⟨by show _ ≤ 601024; omega, by show _ ≤ 7293034; omega⟩ (Nat.le_of_ble_eq_true rfl) ?_
  rintro _ n1 h1 ⟨rfl, hS1, ⟨f1, hf1, e1⟩, hF1⟩
  have hM1 := hM.fr (fun a g1 g2 => hF1 a (by omega) (by omega))
  refine V_istore 897 C dL_law_895 rfl (by decide) (L' := [(0, _), (1, _), (2, _), (3, _), (4, _), (5, _)]) rfl ?_
  refine V_aload_n 898 C dL_law_897 rfl rfl ?_
  refine V_aload_n 899 C dL_law_898 rfl rfl ?_
  refine V_iload 901 C dL_law_899 rfl rfl ?_
  refine V_iconst 902 C dL_law_901 rfl ic1 ?_
  refine V_iaddN 903 C dL_law_902 rfl  ?_
  refine V_sld (j := i + 1) 904 C hX hb dL_law_903 rfl rfl (by omega) (by omega) ?_
  refine V_aload_n 905 C dL_law_904 rfl rfl ?_
  refine V_iload 907 C dL_law_905 rfl rfl ?_
  refine V_iconst 908 C dL_law_907 rfl ic2 ?_
  refine V_iaddN 909 C dL_law_908 rfl  ?_
  refine V_sld (j := i + 2) 910 C hX hb dL_law_909 rfl rfl (by omega) (by omega) ?_
  obtain ⟨⟨sp1, ou1, g1, hm1⟩, -⟩ := id hM1
  refine V_callVR 913 C dL_law_910 rfl mX10_take tw1214 fcX10 hm1.2.1 (c_X10_take l G _ _ (x + 619) rf y k D S sv N T hM1 hI _ _) rfl rfl ⟨Nat.le_of_ble_eq_true rfl, Nat.le_of_ble_eq_true rfl⟩ ⟨by show _ ≤ 601024; omega, by show _ ≤ 7293034; omega⟩ (Nat.le_of_ble_eq_true rfl) ?_
  rintro _ n2 h2 ⟨b2, rfl, hn2, e2, hM2, hF2⟩
  have hS2 := hS1.fr (fun a ha => hF2 a (by omega))
  have hf2 := (hF2 (x + 627) (by omega)).trans hf1
  have hLI : LI x h2 := ⟨_, _, _, _, _, _, _, _, _, hS2, hM2, SI_act hI (Iv_aTk hI.1 _ _), hf2⟩
  refine V_istore 915 C dL_law_913 rfl (by decide) (L' := [(0, _), (1, _), (2, _), (3, _), (4, _), (5, _), (6, _)]) rfl ?_
  refine V_aload_n 916 C dL_law_915 rfl rfl ?_
  obtain ⟨⟨sp2, ou2, g2, hm2⟩, -⟩ := id hM2
  refine V_callVR 919 C dL_law_916 rfl mX10_thrown tw973 fcX10 hm2.2.1 (c_X10_thrown l G _ _ (x + 619) _ _ _ _ _ hm2.2.1) rfl rfl ⟨Nat.le_of_ble_eq_true rfl, Nat.le_of_ble_eq_true rfl⟩ ⟨by show _ ≤ 601024; omega, by show _ ≤ 7293034; omega⟩ (Nat.le_of_ble_eq_true rfl) ?_
  rintro _ _ _ ⟨rfl, rfl, rfl⟩
  refine V_iload 921 C dL_law_919 rfl rfl ?_
  refine V_icmp_eq 926 924 C dL_law_921 (by decide) rfl (fun c1 => ?_) (fun c1 => ?_)
  · skip
    refine V_iload 928 C dL_law_926 rfl rfl ?_
    refine V_if_ne 943 931 C dL_law_928 (by decide) rfl (fun c2 => ?_) (fun c2 => ?_)
    · refine V_goto 2094 C dL_law_943 (by decide) ?_
      refine V_L [0, 1, 2, 3, 4] rfl ?_
      exact KL _ _ _ _ hLI (by omega) (by omega)
    · have hk0 := nz0 (by first | exact kA_le (by omega) (by omega) (by omega) | (split <;> first | omega | (split <;> first | omega | (split <;> omega)))) c2
      refine V_aload_n 932 C dL_law_931 rfl rfl ?_
      refine V_iconst 933 C dL_law_932 rfl ic0 ?_
      refine V_lald (j := 0) 934 C dL_law_933 rfl hf2 rfl (by omega) (by omega) ?_
      refine V_iload 936 C dL_law_934 rfl rfl ?_
      refine V_i2l 937 C dL_law_936 rfl  ?_
      refine V_lcmp 938 C dL_law_937 rfl  ?_
      refine V_if_eq 943 941 C dL_law_938 (by decide) rfl (fun c3 => ?_) (fun c3 => ?_)
      · refine V_goto 2094 C dL_law_943 (by decide) ?_
        refine V_L [0, 1, 2, 3, 4] rfl ?_
        exact KL _ _ _ _ hLI (by omega) (by omega)
      · exact absurd ((lg_cmp_eq _ _).mpr (by rw [e1 hk0, e2 hk0])) c3
  · exact absurd rfl c1
set_option maxRecDepth 100000 in
set_option maxHeartbeats 4000000 in
theorem lc_lay {p : Program} {l : Launch} {e : Env} {s : State} {m : MethodId} {args : Array Value} {below : List Frame} {meth : Method} {c : Code} {Q : State → Prop} {G : GT} {rt : Option FieldType} (hl : l.stackTraces = false) (C : Cx p s m args meth c cL_law 7 RL rt G) {b LL : Nat} {xs : Nat → Int32} (hX : va_X b LL xs s s.heap) (hb : b < s.heap.size ∧ ¬ rg G b) (hLL : LL ≤ 2560) {x n cells slots i : Nat} {h : AH} (hi : i + 5 ≤ LL) (hc : cells + 4 ≤ 601024) (hs : slots + 24 ≤ 7293034) (hL0 : LI x h) (KL : ∀ (n1 : Nat) (h1 : AH) (cells1 slots1 : Nat), LI x h1 → cells1 ≤ cells + 4 → slots1 ≤ slots + 24 → V p l e room_1 s m args below meth c Q G 7 cells1 slots1 n1 h1 2094 (LCL b x i) []) : V p l e room_1 s m args below meth c Q G 7 cells slots n h 946 (LCL b x i) [] := by
  obtain ⟨y, k, D, S, sv, N, T, rf, f, hS, hM, hI, hof⟩ := hL0
  refine V_aload_n 947 C dL_law_946 rfl rfl ?_
  refine V_aload_n 948 C dL_law_947 rfl rfl ?_
  refine V_iload 950 C dL_law_948 rfl rfl ?_
  refine V_iconst 951 C dL_law_950 rfl ic1 ?_
  refine V_iaddN 952 C dL_law_951 rfl  ?_
  refine V_sld (j := i + 1) 953 C hX hb dL_law_952 rfl rfl (by omega) (by omega) ?_
  refine V_aload_n 954 C dL_law_953 rfl rfl ?_
  refine V_callSWR 957 C dL_law_954 rfl mL_lay tw703 (c_L_lay l G _ _ hl x y k D S sv N T hS hI _ (x + 627) f hof (by omega)) rfl rfl ⟨Nat.le_of_ble_eq_true rfl, Nat.le_of_ble_eq_true rfl⟩ ⟨by show _ ≤ 601024; omega, by show _ ≤ 7293034; omega⟩ (Nat.le_of_ble_eq_true rfl) ?_
  rintro _ n1 h1 ⟨rfl, hS1, ⟨f1, hf1, e1⟩, hF1⟩
  have hM1 := hM.fr (fun a g1 g2 => hF1 a (by omega) (by omega))
  refine V_istore 959 C dL_law_957 rfl (by decide) (L' := [(0, _), (1, _), (2, _), (3, _), (4, _), (5, _)]) rfl ?_
  refine V_aload_n 960 C dL_law_959 rfl rfl ?_
  refine V_aload_n 961 C dL_law_960 rfl rfl ?_
  refine V_iload 963 C dL_law_961 rfl rfl ?_
  refine V_iconst 964 C dL_law_963 rfl ic1 ?_
  refine V_iaddN 965 C dL_law_964 rfl  ?_
  refine V_sld (j := i + 1) 966 C hX hb dL_law_965 rfl rfl (by omega) (by omega) ?_
  obtain ⟨⟨sp1, ou1, g1, hm1⟩, -⟩ := id hM1
  refine V_callVR 969 C dL_law_966 rfl mX10_lay tw1218 fcX10 hm1.2.1 (c_X10_lay l G _ _ (x + 619) rf y k D S sv N T hM1 hI _) rfl rfl ⟨Nat.le_of_ble_eq_true rfl, Nat.le_of_ble_eq_true rfl⟩ ⟨by show _ ≤ 601024; omega, by show _ ≤ 7293034; omega⟩ (Nat.le_of_ble_eq_true rfl) ?_
  rintro _ n2 h2 ⟨b2, rfl, hn2, e2, hM2, hF2⟩
  have hS2 := hS1.fr (fun a ha => hF2 a (by omega))
  have hf2 := (hF2 (x + 627) (by omega)).trans hf1
  have hLI : LI x h2 := ⟨_, _, _, _, _, _, _, _, _, hS2, hM2, SI_act hI (Iv_aLy hI.1 _), hf2⟩
  refine V_istore 971 C dL_law_969 rfl (by decide) (L' := [(0, _), (1, _), (2, _), (3, _), (4, _), (5, _), (6, _)]) rfl ?_
  refine V_aload_n 972 C dL_law_971 rfl rfl ?_
  obtain ⟨⟨sp2, ou2, g2, hm2⟩, -⟩ := id hM2
  refine V_callVR 975 C dL_law_972 rfl mX10_thrown tw973 fcX10 hm2.2.1 (c_X10_thrown l G _ _ (x + 619) _ _ _ _ _ hm2.2.1) rfl rfl ⟨Nat.le_of_ble_eq_true rfl, Nat.le_of_ble_eq_true rfl⟩ ⟨by show _ ≤ 601024; omega, by show _ ≤ 7293034; omega⟩ (Nat.le_of_ble_eq_true rfl) ?_
  rintro _ _ _ ⟨rfl, rfl, rfl⟩
  refine V_iload 977 C dL_law_975 rfl rfl ?_
  refine V_icmp_eq 982 980 C dL_law_977 (by decide) rfl (fun c1 => ?_) (fun c1 => ?_)
  · skip
    refine V_iload 984 C dL_law_982 rfl rfl ?_
    refine V_if_ne 999 987 C dL_law_984 (by decide) rfl (fun c2 => ?_) (fun c2 => ?_)
    · refine V_goto 2094 C dL_law_999 (by decide) ?_
      refine V_L [0, 1, 2, 3, 4] rfl ?_
      exact KL _ _ _ _ hLI (by omega) (by omega)
    · have hk0 := nz0 (by first | exact kA_le (by omega) (by omega) (by omega) | (split <;> first | omega | (split <;> first | omega | (split <;> omega)))) c2
      refine V_aload_n 988 C dL_law_987 rfl rfl ?_
      refine V_iconst 989 C dL_law_988 rfl ic0 ?_
      refine V_lald (j := 0) 990 C dL_law_989 rfl hf2 rfl (by omega) (by omega) ?_
      refine V_iload 992 C dL_law_990 rfl rfl ?_
      refine V_i2l 993 C dL_law_992 rfl  ?_
      refine V_lcmp 994 C dL_law_993 rfl  ?_
      refine V_if_eq 999 997 C dL_law_994 (by decide) rfl (fun c3 => ?_) (fun c3 => ?_)
      · refine V_goto 2094 C dL_law_999 (by decide) ?_
        refine V_L [0, 1, 2, 3, 4] rfl ?_
        exact KL _ _ _ _ hLI (by omega) (by omega)
      · exact absurd ((lg_cmp_eq _ _).mpr (by rw [e1 hk0, e2 hk0])) c3
  · exact absurd rfl c1
set_option maxRecDepth 100000 in
set_option maxHeartbeats 4000000 in
theorem lc_go {p : Program} {l : Launch} {e : Env} {s : State} {m : MethodId} {args : Array Value} {below : List Frame} {meth : Method} {c : Code} {Q : State → Prop} {G : GT} {rt : Option FieldType} (hl : l.stackTraces = false) (C : Cx p s m args meth c cL_law 7 RL rt G) {b LL : Nat} {xs : Nat → Int32} (hX : va_X b LL xs s s.heap) (hb : b < s.heap.size ∧ ¬ rg G b) (hLL : LL ≤ 2560) {x n cells slots i : Nat} {h : AH} (hi : i + 5 ≤ LL) (hc : cells + 4 ≤ 601024) (hs : slots + 24 ≤ 7293034) (hL0 : LI x h) (KL : ∀ (n1 : Nat) (h1 : AH) (cells1 slots1 : Nat), LI x h1 → cells1 ≤ cells + 4 → slots1 ≤ slots + 24 → V p l e room_1 s m args below meth c Q G 7 cells1 slots1 n1 h1 2094 (LCL b x i) []) : V p l e room_1 s m args below meth c Q G 7 cells slots n h 1002 (LCL b x i) [] := by
  obtain ⟨y, k, D, S, sv, N, T, rf, f, hS, hM, hI, hof⟩ := hL0
  refine V_aload_n 1003 C dL_law_1002 rfl rfl ?_
  refine V_aload_n 1004 C dL_law_1003 rfl rfl ?_
  refine V_iload 1006 C dL_law_1004 rfl rfl ?_
  refine V_iconst 1007 C dL_law_1006 rfl ic1 ?_
  refine V_iaddN 1008 C dL_law_1007 rfl  ?_
  refine V_sld (j := i + 1) 1009 C hX hb dL_law_1008 rfl rfl (by omega) (by omega) ?_
  refine V_aload_n 1010 C dL_law_1009 rfl rfl ?_
  refine V_iload 1012 C dL_law_1010 rfl rfl ?_
  refine V_iconst 1013 C dL_law_1012 rfl ic2 ?_
  refine V_iaddN 1014 C dL_law_1013 rfl  ?_
  refine V_sld (j := i + 2) 1015 C hX hb dL_law_1014 rfl rfl (by omega) (by omega) ?_
  refine V_aload_n 1016 C dL_law_1015 rfl rfl ?_
  refine V_callSWR 1019 C dL_law_1016 rfl mL_go tw711 (c_L_go l G _ _ hl x y k D S sv N T hS hI _ _ (x + 627) f hof (by omega)) rfl rfl ⟨Nat.le_of_ble_eq_true rfl, Nat.le_of_ble_eq_true rfl⟩ ⟨by show _ ≤ 601024; omega, by show _ ≤ 7293034; omega⟩ (Nat.le_of_ble_eq_true rfl) ?_
  rintro _ n1 h1 ⟨rfl, hS1, ⟨f1, hf1, e1⟩, hF1⟩
  have hM1 := hM.fr (fun a g1 g2 => hF1 a (by omega) (by omega))
  refine V_istore 1021 C dL_law_1019 rfl (by decide) (L' := [(0, _), (1, _), (2, _), (3, _), (4, _), (5, _)]) rfl ?_
  refine V_aload_n 1022 C dL_law_1021 rfl rfl ?_
  refine V_aload_n 1023 C dL_law_1022 rfl rfl ?_
  refine V_iload 1025 C dL_law_1023 rfl rfl ?_
  refine V_iconst 1026 C dL_law_1025 rfl ic1 ?_
  refine V_iaddN 1027 C dL_law_1026 rfl  ?_
  refine V_sld (j := i + 1) 1028 C hX hb dL_law_1027 rfl rfl (by omega) (by omega) ?_
  refine V_aload_n 1029 C dL_law_1028 rfl rfl ?_
  refine V_iload 1031 C dL_law_1029 rfl rfl ?_
  refine V_iconst 1032 C dL_law_1031 rfl ic2 ?_
  refine V_iaddN 1033 C dL_law_1032 rfl  ?_
  refine V_sld (j := i + 2) 1034 C hX hb dL_law_1033 rfl rfl (by omega) (by omega) ?_
  obtain ⟨⟨sp1, ou1, g1, hm1⟩, -⟩ := id hM1
  refine V_callVR 1037 C dL_law_1034 rfl mX10_go tw1222 fcX10 hm1.2.1 (c_X10_go l G _ _ (x + 619) rf y k D S sv N T hM1 hI _ _) rfl rfl ⟨Nat.le_of_ble_eq_true rfl, Nat.le_of_ble_eq_true rfl⟩ ⟨by show _ ≤ 601024; omega, by show _ ≤ 7293034; omega⟩ (Nat.le_of_ble_eq_true rfl) ?_
  rintro _ n2 h2 ⟨b2, rfl, hn2, e2, hM2, hF2⟩
  have hS2 := hS1.fr (fun a ha => hF2 a (by omega))
  have hf2 := (hF2 (x + 627) (by omega)).trans hf1
  have hLI : LI x h2 := ⟨_, _, _, _, _, _, _, _, _, hS2, hM2, SI_act hI (Iv_aGo hI.1 _ _), hf2⟩
  refine V_istore 1039 C dL_law_1037 rfl (by decide) (L' := [(0, _), (1, _), (2, _), (3, _), (4, _), (5, _), (6, _)]) rfl ?_
  refine V_aload_n 1040 C dL_law_1039 rfl rfl ?_
  obtain ⟨⟨sp2, ou2, g2, hm2⟩, -⟩ := id hM2
  refine V_callVR 1043 C dL_law_1040 rfl mX10_thrown tw973 fcX10 hm2.2.1 (c_X10_thrown l G _ _ (x + 619) _ _ _ _ _ hm2.2.1) rfl rfl ⟨Nat.le_of_ble_eq_true rfl, Nat.le_of_ble_eq_true rfl⟩ ⟨by show _ ≤ 601024; omega, by show _ ≤ 7293034; omega⟩ (Nat.le_of_ble_eq_true rfl) ?_
  rintro _ _ _ ⟨rfl, rfl, rfl⟩
  refine V_iload 1045 C dL_law_1043 rfl rfl ?_
  refine V_icmp_eq 1050 1048 C dL_law_1045 (by decide) rfl (fun c1 => ?_) (fun c1 => ?_)
  · skip
    refine V_iload 1052 C dL_law_1050 rfl rfl ?_
    refine V_if_ne 1067 1055 C dL_law_1052 (by decide) rfl (fun c2 => ?_) (fun c2 => ?_)
    · refine V_goto 2094 C dL_law_1067 (by decide) ?_
      refine V_L [0, 1, 2, 3, 4] rfl ?_
      exact KL _ _ _ _ hLI (by omega) (by omega)
    · have hk0 := nz0 (by first | exact kA_le (by omega) (by omega) (by omega) | (split <;> first | omega | (split <;> first | omega | (split <;> omega)))) c2
      refine V_aload_n 1056 C dL_law_1055 rfl rfl ?_
      refine V_iconst 1057 C dL_law_1056 rfl ic0 ?_
      refine V_lald (j := 0) 1058 C dL_law_1057 rfl hf2 rfl (by omega) (by omega) ?_
      refine V_iload 1060 C dL_law_1058 rfl rfl ?_
      refine V_i2l 1061 C dL_law_1060 rfl  ?_
      refine V_lcmp 1062 C dL_law_1061 rfl  ?_
      refine V_if_eq 1067 1065 C dL_law_1062 (by decide) rfl (fun c3 => ?_) (fun c3 => ?_)
      · refine V_goto 2094 C dL_law_1067 (by decide) ?_
        refine V_L [0, 1, 2, 3, 4] rfl ?_
        exact KL _ _ _ _ hLI (by omega) (by omega)
      · exact absurd ((lg_cmp_eq _ _).mpr (by rw [e1 hk0, e2 hk0])) c3
  · exact absurd rfl c1
set_option maxRecDepth 100000 in
set_option maxHeartbeats 4000000 in
theorem lc_copy {p : Program} {l : Launch} {e : Env} {s : State} {m : MethodId} {args : Array Value} {below : List Frame} {meth : Method} {c : Code} {Q : State → Prop} {G : GT} {rt : Option FieldType} (hl : l.stackTraces = false) (C : Cx p s m args meth c cL_law 7 RL rt G) {b LL : Nat} {xs : Nat → Int32} (hX : va_X b LL xs s s.heap) (hb : b < s.heap.size ∧ ¬ rg G b) (hLL : LL ≤ 2560) {x n cells slots i : Nat} {h : AH} (hi : i + 5 ≤ LL) (hc : cells + 4 ≤ 601024) (hs : slots + 24 ≤ 7293034) (hL0 : LI x h) (KL : ∀ (n1 : Nat) (h1 : AH) (cells1 slots1 : Nat), LI x h1 → cells1 ≤ cells + 4 → slots1 ≤ slots + 24 → V p l e room_1 s m args below meth c Q G 7 cells1 slots1 n1 h1 2094 (LCL b x i) []) : V p l e room_1 s m args below meth c Q G 7 cells slots n h 1070 (LCL b x i) [] := by
  obtain ⟨y, k, D, S, sv, N, T, rf, f, hS, hM, hI, hof⟩ := hL0
  refine V_aload_n 1071 C dL_law_1070 rfl rfl ?_
  refine V_aload_n 1072 C dL_law_1071 rfl rfl ?_
  refine V_iload 1074 C dL_law_1072 rfl rfl ?_
  refine V_iconst 1075 C dL_law_1074 rfl ic1 ?_
  refine V_iaddN 1076 C dL_law_1075 rfl  ?_
  refine V_sld (j := i + 1) 1077 C hX hb dL_law_1076 rfl rfl (by omega) (by omega) ?_
  refine V_aload_n 1078 C dL_law_1077 rfl rfl ?_
  refine V_iload 1080 C dL_law_1078 rfl rfl ?_
  refine V_iconst 1081 C dL_law_1080 rfl ic2 ?_
  refine V_iaddN 1082 C dL_law_1081 rfl  ?_
  refine V_sld (j := i + 2) 1083 C hX hb dL_law_1082 rfl rfl (by omega) (by omega) ?_
  refine V_aload_n 1084 C dL_law_1083 rfl rfl ?_
  refine V_callSWR 1087 C dL_law_1084 rfl mL_copy tw719 (c_L_copy l G _ _ hl x y k D S sv N T hS hI _ _ (x + 627) f hof (by omega)) rfl rfl ⟨Nat.le_of_ble_eq_true rfl, Nat.le_of_ble_eq_true rfl⟩ ⟨by show _ ≤ 601024; omega, by show _ ≤ 7293034; omega⟩ (Nat.le_of_ble_eq_true rfl) ?_
  rintro _ n1 h1 ⟨rfl, hS1, ⟨f1, hf1, e1⟩, hF1⟩
  have hM1 := hM.fr (fun a g1 g2 => hF1 a (by omega) (by omega))
  refine V_istore 1089 C dL_law_1087 rfl (by decide) (L' := [(0, _), (1, _), (2, _), (3, _), (4, _), (5, _)]) rfl ?_
  refine V_aload_n 1090 C dL_law_1089 rfl rfl ?_
  refine V_aload_n 1091 C dL_law_1090 rfl rfl ?_
  refine V_iload 1093 C dL_law_1091 rfl rfl ?_
  refine V_iconst 1094 C dL_law_1093 rfl ic1 ?_
  refine V_iaddN 1095 C dL_law_1094 rfl  ?_
  refine V_sld (j := i + 1) 1096 C hX hb dL_law_1095 rfl rfl (by omega) (by omega) ?_
  refine V_aload_n 1097 C dL_law_1096 rfl rfl ?_
  refine V_iload 1099 C dL_law_1097 rfl rfl ?_
  refine V_iconst 1100 C dL_law_1099 rfl ic2 ?_
  refine V_iaddN 1101 C dL_law_1100 rfl  ?_
  refine V_sld (j := i + 2) 1102 C hX hb dL_law_1101 rfl rfl (by omega) (by omega) ?_
  obtain ⟨⟨sp1, ou1, g1, hm1⟩, -⟩ := id hM1
  refine V_callVR 1105 C dL_law_1102 rfl mX10_copy tw1226 fcX10 hm1.2.1 (c_X10_copy l G _ _ (x + 619) rf y k D S sv N T hM1 hI _ _) rfl rfl ⟨Nat.le_of_ble_eq_true rfl, Nat.le_of_ble_eq_true rfl⟩ ⟨by show _ ≤ 601024; omega, by show _ ≤ 7293034; omega⟩ (Nat.le_of_ble_eq_true rfl) ?_
  rintro _ n2 h2 ⟨b2, rfl, hn2, e2, hM2, hF2⟩
  have hS2 := hS1.fr (fun a ha => hF2 a (by omega))
  have hf2 := (hF2 (x + 627) (by omega)).trans hf1
  have hLI : LI x h2 := ⟨_, _, _, _, _, _, _, _, _, hS2, hM2, SI_act hI (Iv_cnt (Iv_aCp hI.1 _ _)), hf2⟩
  refine V_istore 1107 C dL_law_1105 rfl (by decide) (L' := [(0, _), (1, _), (2, _), (3, _), (4, _), (5, _), (6, _)]) rfl ?_
  refine V_aload_n 1108 C dL_law_1107 rfl rfl ?_
  obtain ⟨⟨sp2, ou2, g2, hm2⟩, -⟩ := id hM2
  refine V_callVR 1111 C dL_law_1108 rfl mX10_thrown tw973 fcX10 hm2.2.1 (c_X10_thrown l G _ _ (x + 619) _ _ _ _ _ hm2.2.1) rfl rfl ⟨Nat.le_of_ble_eq_true rfl, Nat.le_of_ble_eq_true rfl⟩ ⟨by show _ ≤ 601024; omega, by show _ ≤ 7293034; omega⟩ (Nat.le_of_ble_eq_true rfl) ?_
  rintro _ _ _ ⟨rfl, rfl, rfl⟩
  refine V_iload 1113 C dL_law_1111 rfl rfl ?_
  refine V_icmp_eq 1118 1116 C dL_law_1113 (by decide) rfl (fun c1 => ?_) (fun c1 => ?_)
  · skip
    refine V_iload 1120 C dL_law_1118 rfl rfl ?_
    refine V_if_ne 1135 1123 C dL_law_1120 (by decide) rfl (fun c2 => ?_) (fun c2 => ?_)
    · refine V_goto 2094 C dL_law_1135 (by decide) ?_
      refine V_L [0, 1, 2, 3, 4] rfl ?_
      exact KL _ _ _ _ hLI (by omega) (by omega)
    · have hk0 := nz0 (by first | exact kA_le (by omega) (by omega) (by omega) | (split <;> first | omega | (split <;> first | omega | (split <;> omega)))) c2
      refine V_aload_n 1124 C dL_law_1123 rfl rfl ?_
      refine V_iconst 1125 C dL_law_1124 rfl ic0 ?_
      refine V_lald (j := 0) 1126 C dL_law_1125 rfl hf2 rfl (by omega) (by omega) ?_
      refine V_iload 1128 C dL_law_1126 rfl rfl ?_
      refine V_i2l 1129 C dL_law_1128 rfl  ?_
      refine V_lcmp 1130 C dL_law_1129 rfl  ?_
      refine V_if_eq 1135 1133 C dL_law_1130 (by decide) rfl (fun c3 => ?_) (fun c3 => ?_)
      · refine V_goto 2094 C dL_law_1135 (by decide) ?_
        refine V_L [0, 1, 2, 3, 4] rfl ?_
        exact KL _ _ _ _ hLI (by omega) (by omega)
      · exact absurd ((lg_cmp_eq _ _).mpr (by rw [e1 hk0, e2 hk0])) c3
  · exact absurd rfl c1
set_option maxRecDepth 100000 in
set_option maxHeartbeats 4000000 in
theorem lc_proof {p : Program} {l : Launch} {e : Env} {s : State} {m : MethodId} {args : Array Value} {below : List Frame} {meth : Method} {c : Code} {Q : State → Prop} {G : GT} {rt : Option FieldType} (hl : l.stackTraces = false) (C : Cx p s m args meth c cL_law 7 RL rt G) {b LL : Nat} {xs : Nat → Int32} (hX : va_X b LL xs s s.heap) (hb : b < s.heap.size ∧ ¬ rg G b) (hLL : LL ≤ 2560) {x n cells slots i : Nat} {h : AH} (hi : i + 5 ≤ LL) (hc : cells + 4 ≤ 601024) (hs : slots + 24 ≤ 7293034) (hL0 : LI x h) (KL : ∀ (n1 : Nat) (h1 : AH) (cells1 slots1 : Nat), LI x h1 → cells1 ≤ cells + 4 → slots1 ≤ slots + 24 → V p l e room_1 s m args below meth c Q G 7 cells1 slots1 n1 h1 2094 (LCL b x i) []) : V p l e room_1 s m args below meth c Q G 7 cells slots n h 1138 (LCL b x i) [] := by
  obtain ⟨y, k, D, S, sv, N, T, rf, f, hS, hM, hI, hof⟩ := hL0
  refine V_aload_n 1139 C dL_law_1138 rfl rfl ?_
  refine V_aload_n 1140 C dL_law_1139 rfl rfl ?_
  refine V_iload 1142 C dL_law_1140 rfl rfl ?_
  refine V_iconst 1143 C dL_law_1142 rfl ic1 ?_
  refine V_iaddN 1144 C dL_law_1143 rfl  ?_
  refine V_sld (j := i + 1) 1145 C hX hb dL_law_1144 rfl rfl (by omega) (by omega) ?_
  refine V_aload_n 1146 C dL_law_1145 rfl rfl ?_
  refine V_iload 1148 C dL_law_1146 rfl rfl ?_
  refine V_iconst 1149 C dL_law_1148 rfl ic2 ?_
  refine V_iaddN 1150 C dL_law_1149 rfl  ?_
  refine V_sld (j := i + 2) 1151 C hX hb dL_law_1150 rfl rfl (by omega) (by omega) ?_
  refine V_aload_n 1152 C dL_law_1151 rfl rfl ?_
  refine V_iload 1154 C dL_law_1152 rfl rfl ?_
  refine V_iconst 1155 C dL_law_1154 rfl ic3 ?_
  refine V_iaddN 1156 C dL_law_1155 rfl  ?_
  refine V_sld (j := i + 3) 1157 C hX hb dL_law_1156 rfl rfl (by omega) (by omega) ?_
  refine V_aload_n 1158 C dL_law_1157 rfl rfl ?_
  refine V_iload 1160 C dL_law_1158 rfl rfl ?_
  refine V_iconst 1161 C dL_law_1160 rfl ic4 ?_
  refine V_iaddN 1162 C dL_law_1161 rfl  ?_
  refine V_sld (j := i + 4) 1163 C hX hb dL_law_1162 rfl rfl (by omega) (by omega) ?_
  refine V_aload_n 1164 C dL_law_1163 rfl rfl ?_
  refine V_callSWR 1167 C dL_law_1164 rfl mL_proof tw731 (c_L_proof l G _ _ hl x y k D S sv N T hS hI _ _ _ _ (x + 627) f hof (by omega)) rfl rfl ⟨Nat.le_of_ble_eq_true rfl, Nat.le_of_ble_eq_true rfl⟩ ⟨by show _ ≤ 601024; omega, by show _ ≤ 7293034; omega⟩ (Nat.le_of_ble_eq_true rfl) ?_
  rintro _ n1 h1 ⟨rfl, hS1, ⟨f1, hf1, e1⟩, hF1⟩
  have hM1 := hM.fr (fun a g1 g2 => hF1 a (by omega) (by omega))
  refine V_istore 1169 C dL_law_1167 rfl (by decide) (L' := [(0, _), (1, _), (2, _), (3, _), (4, _), (5, _)]) rfl ?_
  refine V_aload_n 1170 C dL_law_1169 rfl rfl ?_
  refine V_aload_n 1171 C dL_law_1170 rfl rfl ?_
  refine V_iload 1173 C dL_law_1171 rfl rfl ?_
  refine V_iconst 1174 C dL_law_1173 rfl ic1 ?_
  refine V_iaddN 1175 C dL_law_1174 rfl  ?_
  refine V_sld (j := i + 1) 1176 C hX hb dL_law_1175 rfl rfl (by omega) (by omega) ?_
  refine V_aload_n 1177 C dL_law_1176 rfl rfl ?_
  refine V_iload 1179 C dL_law_1177 rfl rfl ?_
  refine V_iconst 1180 C dL_law_1179 rfl ic2 ?_
  refine V_iaddN 1181 C dL_law_1180 rfl  ?_
  refine V_sld (j := i + 2) 1182 C hX hb dL_law_1181 rfl rfl (by omega) (by omega) ?_
  refine V_aload_n 1183 C dL_law_1182 rfl rfl ?_
  refine V_iload 1185 C dL_law_1183 rfl rfl ?_
  refine V_iconst 1186 C dL_law_1185 rfl ic3 ?_
  refine V_iaddN 1187 C dL_law_1186 rfl  ?_
  refine V_sld (j := i + 3) 1188 C hX hb dL_law_1187 rfl rfl (by omega) (by omega) ?_
  refine V_aload_n 1189 C dL_law_1188 rfl rfl ?_
  refine V_iload 1191 C dL_law_1189 rfl rfl ?_
  refine V_iconst 1192 C dL_law_1191 rfl ic4 ?_
  refine V_iaddN 1193 C dL_law_1192 rfl  ?_
  refine V_sld (j := i + 4) 1194 C hX hb dL_law_1193 rfl rfl (by omega) (by omega) ?_
  obtain ⟨⟨sp1, ou1, g1, hm1⟩, -⟩ := id hM1
  refine V_callVR 1197 C dL_law_1194 rfl mX10_proof tw1230 fcX10 hm1.2.1 (c_X10_proof l G _ _ (x + 619) rf y k D S sv N T hM1 hI _ _ _ _) rfl rfl ⟨Nat.le_of_ble_eq_true rfl, Nat.le_of_ble_eq_true rfl⟩ ⟨by show _ ≤ 601024; omega, by show _ ≤ 7293034; omega⟩ (Nat.le_of_ble_eq_true rfl) ?_
  rintro _ n2 h2 ⟨b2, rfl, hn2, e2, hM2, hF2⟩
  have hS2 := hS1.fr (fun a ha => hF2 a (by omega))
  have hf2 := (hF2 (x + 627) (by omega)).trans hf1
  have hLI : LI x h2 := ⟨_, _, _, _, _, _, _, _, _, hS2, hM2, SI_act hI (Iv_cnt (Iv_aPr hI.1 _ _ _ _)), hf2⟩
  refine V_istore 1199 C dL_law_1197 rfl (by decide) (L' := [(0, _), (1, _), (2, _), (3, _), (4, _), (5, _), (6, _)]) rfl ?_
  refine V_aload_n 1200 C dL_law_1199 rfl rfl ?_
  obtain ⟨⟨sp2, ou2, g2, hm2⟩, -⟩ := id hM2
  refine V_callVR 1203 C dL_law_1200 rfl mX10_thrown tw973 fcX10 hm2.2.1 (c_X10_thrown l G _ _ (x + 619) _ _ _ _ _ hm2.2.1) rfl rfl ⟨Nat.le_of_ble_eq_true rfl, Nat.le_of_ble_eq_true rfl⟩ ⟨by show _ ≤ 601024; omega, by show _ ≤ 7293034; omega⟩ (Nat.le_of_ble_eq_true rfl) ?_
  rintro _ _ _ ⟨rfl, rfl, rfl⟩
  refine V_iload 1205 C dL_law_1203 rfl rfl ?_
  refine V_icmp_eq 1210 1208 C dL_law_1205 (by decide) rfl (fun c1 => ?_) (fun c1 => ?_)
  · skip
    refine V_iload 1212 C dL_law_1210 rfl rfl ?_
    refine V_if_ne 1227 1215 C dL_law_1212 (by decide) rfl (fun c2 => ?_) (fun c2 => ?_)
    · refine V_goto 2094 C dL_law_1227 (by decide) ?_
      refine V_L [0, 1, 2, 3, 4] rfl ?_
      exact KL _ _ _ _ hLI (by omega) (by omega)
    · have hk0 := nz0 (by first | exact kA_le (by omega) (by omega) (by omega) | (split <;> first | omega | (split <;> first | omega | (split <;> omega)))) c2
      refine V_aload_n 1216 C dL_law_1215 rfl rfl ?_
      refine V_iconst 1217 C dL_law_1216 rfl ic0 ?_
      refine V_lald (j := 0) 1218 C dL_law_1217 rfl hf2 rfl (by omega) (by omega) ?_
      refine V_iload 1220 C dL_law_1218 rfl rfl ?_
      refine V_i2l 1221 C dL_law_1220 rfl  ?_
      refine V_lcmp 1222 C dL_law_1221 rfl  ?_
      refine V_if_eq 1227 1225 C dL_law_1222 (by decide) rfl (fun c3 => ?_) (fun c3 => ?_)
      · refine V_goto 2094 C dL_law_1227 (by decide) ?_
        refine V_L [0, 1, 2, 3, 4] rfl ?_
        exact KL _ _ _ _ hLI (by omega) (by omega)
      · exact absurd ((lg_cmp_eq _ _).mpr (by rw [e1 hk0, e2 hk0])) c3
  · exact absurd rfl c1
