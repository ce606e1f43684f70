/-! THE LAW: its cases, second half -/
set_option maxRecDepth 100000 in
set_option maxHeartbeats 4000000 in
theorem lc_hours {p : Program} {l : Launch} {e : Env} {s : State} {m : MethodId} {args : Array Value} {below : List Frame} {meth : Method} {c : Code} {Q : State → Prop} {G : GT} {rt : Option FieldType} (hl : l.stackTraces = false) (C : Cx p s m args meth c cL_law 7 RL rt G) {b LL : Nat} {xs : Nat → Int32} (hX : va_X b LL xs s s.heap) (hb : b < s.heap.size ∧ ¬ rg G b) (hLL : LL ≤ 2560) {x n cells slots i : Nat} {h : AH} (hi : i + 5 ≤ LL) (hc : cells + 4 ≤ 601024) (hs : slots + 24 ≤ 7293034) (hL0 : LI x h) (KL : ∀ (n1 : Nat) (h1 : AH) (cells1 slots1 : Nat), LI x h1 → cells1 ≤ cells + 4 → slots1 ≤ slots + 24 → V p l e room_1 s m args below meth c Q G 7 cells1 slots1 n1 h1 2094 (LCL b x i) []) : V p l e room_1 s m args below meth c Q G 7 cells slots n h 1230 (LCL b x i) [] := by
  obtain ⟨y, k, D, S, sv, N, T, rf, f, hS, hM, hI, hof⟩ := hL0
  refine V_aload_n 1231 C dL_law_1230 rfl rfl ?_
  refine V_aload_n 1232 C dL_law_1231 rfl rfl ?_
  refine V_iload 1234 C dL_law_1232 rfl rfl ?_
  refine V_iconst 1235 C dL_law_1234 rfl ic1 ?_
  refine V_iaddN 1236 C dL_law_1235 rfl  ?_
  refine V_sld (j := i + 1) 1237 C hX hb dL_law_1236 rfl rfl (by omega) (by omega) ?_
  refine V_aload_n 1238 C dL_law_1237 rfl rfl ?_
  refine V_callSWR 1241 C dL_law_1238 rfl mL_hours tw749 (c_L_hours l G _ _ hl x y k D S sv N T hS hI _ (x + 627) f hof (by omega)) rfl rfl ⟨Nat.le_of_ble_eq_true rfl, Nat.le_of_ble_eq_true rfl⟩ ⟨by show _ ≤ 601024; omega, by show _ ≤ 7293034; omega⟩ (Nat.le_of_ble_eq_true rfl) ?_
  rintro _ n1 h1 ⟨rfl, hS1, ⟨f1, hf1, e1⟩, hF1⟩
  have hM1 := hM.fr (fun a g1 g2 => hF1 a (by omega) (by omega))
  refine V_istore 1243 C dL_law_1241 rfl (by decide) (L' := [(0, _), (1, _), (2, _), (3, _), (4, _), (5, _)]) rfl ?_
  refine V_aload_n 1244 C dL_law_1243 rfl rfl ?_
  refine V_aload_n 1245 C dL_law_1244 rfl rfl ?_
  refine V_iload 1247 C dL_law_1245 rfl rfl ?_
  refine V_iconst 1248 C dL_law_1247 rfl ic1 ?_
  refine V_iaddN 1249 C dL_law_1248 rfl  ?_
  refine V_sld (j := i + 1) 1250 C hX hb dL_law_1249 rfl rfl (by omega) (by omega) ?_
  obtain ⟨⟨sp1, ou1, g1, hm1⟩, -⟩ := id hM1
  refine V_callVR 1253 C dL_law_1250 rfl mX10_hours tw1246 fcX10 hm1.2.1 (c_X10_hours l G _ _ (x + 619) rf y k D S sv N T hM1 hI _) rfl rfl ⟨Nat.le_of_ble_eq_true rfl, Nat.le_of_ble_eq_true rfl⟩ ⟨by show _ ≤ 601024; omega, by show _ ≤ 7293034; omega⟩ (Nat.le_of_ble_eq_true rfl) ?_
  rintro _ n2 h2 ⟨b2, rfl, hn2, e2, hM2, hF2⟩
  have hS2 := hS1.fr (fun a ha => hF2 a (by omega))
  have hf2 := (hF2 (x + 627) (by omega)).trans hf1
  have hLI : LI x h2 := ⟨_, _, _, _, _, _, _, _, _, hS2, hM2, SI_act hI (Iv_aHr hI.1 _), hf2⟩
  refine V_istore 1255 C dL_law_1253 rfl (by decide) (L' := [(0, _), (1, _), (2, _), (3, _), (4, _), (5, _), (6, _)]) rfl ?_
  refine V_aload_n 1256 C dL_law_1255 rfl rfl ?_
  obtain ⟨⟨sp2, ou2, g2, hm2⟩, -⟩ := id hM2
  refine V_callVR 1259 C dL_law_1256 rfl mX10_thrown tw973 fcX10 hm2.2.1 (c_X10_thrown l G _ _ (x + 619) _ _ _ _ _ hm2.2.1) rfl rfl ⟨Nat.le_of_ble_eq_true rfl, Nat.le_of_ble_eq_true rfl⟩ ⟨by show _ ≤ 601024; omega, by show _ ≤ 7293034; omega⟩ (Nat.le_of_ble_eq_true rfl) ?_
  rintro _ _ _ ⟨rfl, rfl, rfl⟩
  refine V_iload 1261 C dL_law_1259 rfl rfl ?_
  refine V_icmp_eq 1266 1264 C dL_law_1261 (by decide) rfl (fun c1 => ?_) (fun c1 => ?_)
  · skip
    refine V_iload 1268 C dL_law_1266 rfl rfl ?_
    refine V_if_ne 1283 1271 C dL_law_1268 (by decide) rfl (fun c2 => ?_) (fun c2 => ?_)
    · refine V_goto 2094 C dL_law_1283 (by decide) ?_
      refine V_L [0, 1, 2, 3, 4] rfl ?_
      exact KL _ _ _ _ hLI (by omega) (by omega)
    · have hk0 := nz0 (by first | exact kA_le (by omega) (by omega) (by omega) | (split <;> first | omega | (split <;> first | omega | (split <;> omega)))) c2
      refine V_aload_n 1272 C dL_law_1271 rfl rfl ?_
      refine V_iconst 1273 C dL_law_1272 rfl ic0 ?_
      refine V_lald (j := 0) 1274 C dL_law_1273 rfl hf2 rfl (by omega) (by omega) ?_
      refine V_iload 1276 C dL_law_1274 rfl rfl ?_
      refine V_i2l 1277 C dL_law_1276 rfl  ?_
      refine V_lcmp 1278 C dL_law_1277 rfl  ?_
      refine V_if_eq 1283 1281 C dL_law_1278 (by decide) rfl (fun c3 => ?_) (fun c3 => ?_)
      · refine V_goto 2094 C dL_law_1283 (by decide) ?_
        refine V_L [0, 1, 2, 3, 4] rfl ?_
        exact KL _ _ _ _ hLI (by omega) (by omega)
      · exact absurd ((lg_cmp_eq _ _).mpr (by rw [e1 hk0, e2 hk0])) c3
  · exact absurd rfl c1
set_option maxRecDepth 100000 in
set_option maxHeartbeats 4000000 in
theorem lc_undo {p : Program} {l : Launch} {e : Env} {s : State} {m : MethodId} {args : Array Value} {below : List Frame} {meth : Method} {c : Code} {Q : State → Prop} {G : GT} {rt : Option FieldType} (hl : l.stackTraces = false) (C : Cx p s m args meth c cL_law 7 RL rt G) {b LL : Nat} {xs : Nat → Int32} (hX : va_X b LL xs s s.heap) (hb : b < s.heap.size ∧ ¬ rg G b) (hLL : LL ≤ 2560) {x n cells slots i : Nat} {h : AH} (hi : i + 5 ≤ LL) (hc : cells + 4 ≤ 601024) (hs : slots + 24 ≤ 7293034) (hL0 : LI x h) (KL : ∀ (n1 : Nat) (h1 : AH) (cells1 slots1 : Nat), LI x h1 → cells1 ≤ cells + 4 → slots1 ≤ slots + 24 → V p l e room_1 s m args below meth c Q G 7 cells1 slots1 n1 h1 2094 (LCL b x i) []) : V p l e room_1 s m args below meth c Q G 7 cells slots n h 1286 (LCL b x i) [] := by
  obtain ⟨y, k, D, S, sv, N, T, rf, f, hS, hM, hI, hof⟩ := hL0
  refine V_aload_n 1287 C dL_law_1286 rfl rfl ?_
  refine V_aload_n 1288 C dL_law_1287 rfl rfl ?_
  refine V_callSWR 1291 C dL_law_1288 rfl mL_undo tw757 (c_L_undo l G _ _ hl x y k D S sv N T hS hI (x + 627) f hof (by omega)) rfl rfl ⟨Nat.le_of_ble_eq_true rfl, Nat.le_of_ble_eq_true rfl⟩ ⟨by show _ ≤ 601024; omega, by show _ ≤ 7293034; omega⟩ (Nat.le_of_ble_eq_true rfl) ?_
  rintro _ n1 h1 ⟨rfl, hS1, ⟨f1, hf1, e1⟩, hF1⟩
  have hM1 := hM.fr (fun a g1 g2 => hF1 a (by omega) (by omega))
  refine V_istore 1293 C dL_law_1291 rfl (by decide) (L' := [(0, _), (1, _), (2, _), (3, _), (4, _), (5, _)]) rfl ?_
  refine V_aload_n 1294 C dL_law_1293 rfl rfl ?_
  obtain ⟨⟨sp1, ou1, g1, hm1⟩, -⟩ := id hM1
  refine V_callVR 1297 C dL_law_1294 rfl mX10_undo tw1251 fcX10 hm1.2.1 (c_X10_undo l G _ _ (x + 619) rf y k D S sv N T hM1 hI) rfl rfl ⟨Nat.le_of_ble_eq_true rfl, Nat.le_of_ble_eq_true rfl⟩ ⟨by show _ ≤ 601024; omega, by show _ ≤ 7293034; omega⟩ (Nat.le_of_ble_eq_true rfl) ?_
  rintro _ n2 h2 ⟨b2, rfl, hn2, e2, hM2, hF2⟩
  have hS2 := hS1.fr (fun a ha => hF2 a (by omega))
  have hf2 := (hF2 (x + 627) (by omega)).trans hf1
  have hLI : LI x h2 := ⟨_, _, _, _, _, _, _, _, _, hS2, hM2, SI_undo hI, hf2⟩
  refine V_istore 1299 C dL_law_1297 rfl (by decide) (L' := [(0, _), (1, _), (2, _), (3, _), (4, _), (5, _), (6, _)]) rfl ?_
  refine V_aload_n 1300 C dL_law_1299 rfl rfl ?_
  obtain ⟨⟨sp2, ou2, g2, hm2⟩, -⟩ := id hM2
  refine V_callVR 1303 C dL_law_1300 rfl mX10_thrown tw973 fcX10 hm2.2.1 (c_X10_thrown l G _ _ (x + 619) _ _ _ _ _ hm2.2.1) rfl rfl ⟨Nat.le_of_ble_eq_true rfl, Nat.le_of_ble_eq_true rfl⟩ ⟨by show _ ≤ 601024; omega, by show _ ≤ 7293034; omega⟩ (Nat.le_of_ble_eq_true rfl) ?_
  rintro _ _ _ ⟨rfl, rfl, rfl⟩
  refine V_iload 1305 C dL_law_1303 rfl rfl ?_
  refine V_icmp_eq 1310 1308 C dL_law_1305 (by decide) rfl (fun c1 => ?_) (fun c1 => ?_)
  · skip
    refine V_iload 1312 C dL_law_1310 rfl rfl ?_
    refine V_if_ne 1327 1315 C dL_law_1312 (by decide) rfl (fun c2 => ?_) (fun c2 => ?_)
    · refine V_goto 2094 C dL_law_1327 (by decide) ?_
      refine V_L [0, 1, 2, 3, 4] rfl ?_
      exact KL _ _ _ _ hLI (by omega) (by omega)
    · have hk0 := nz0 (by first | exact kA_le (by omega) (by omega) (by omega) | (split <;> first | omega | (split <;> first | omega | (split <;> omega)))) c2
      refine V_aload_n 1316 C dL_law_1315 rfl rfl ?_
      refine V_iconst 1317 C dL_law_1316 rfl ic0 ?_
      refine V_lald (j := 0) 1318 C dL_law_1317 rfl hf2 rfl (by omega) (by omega) ?_
      refine V_iload 1320 C dL_law_1318 rfl rfl ?_
      refine V_i2l 1321 C dL_law_1320 rfl  ?_
      refine V_lcmp 1322 C dL_law_1321 rfl  ?_
      refine V_if_eq 1327 1325 C dL_law_1322 (by decide) rfl (fun c3 => ?_) (fun c3 => ?_)
      · refine V_goto 2094 C dL_law_1327 (by decide) ?_
        refine V_L [0, 1, 2, 3, 4] rfl ?_
        exact KL _ _ _ _ hLI (by omega) (by omega)
      · exact absurd ((lg_cmp_eq _ _).mpr (by rw [e1 hk0, e2 hk0])) c3
  · exact absurd rfl c1
set_option maxRecDepth 100000 in
set_option maxHeartbeats 4000000 in
theorem lc_why {p : Program} {l : Launch} {e : Env} {s : State} {m : MethodId} {args : Array Value} {below : List Frame} {meth : Method} {c : Code} {Q : State → Prop} {G : GT} {rt : Option FieldType} (hl : l.stackTraces = false) (C : Cx p s m args meth c cL_law 7 RL rt G) {b LL : Nat} {xs : Nat → Int32} (hX : va_X b LL xs s s.heap) (hb : b < s.heap.size ∧ ¬ rg G b) (hLL : LL ≤ 2560) {x n cells slots i : Nat} {h : AH} (hi : i + 5 ≤ LL) (hc : cells + 4 ≤ 601024) (hs : slots + 24 ≤ 7293034) (hL0 : LI x h) (KL : ∀ (n1 : Nat) (h1 : AH) (cells1 slots1 : Nat), LI x h1 → cells1 ≤ cells + 4 → slots1 ≤ slots + 24 → V p l e room_1 s m args below meth c Q G 7 cells1 slots1 n1 h1 2094 (LCL b x i) []) : V p l e room_1 s m args below meth c Q G 7 cells slots n h 1330 (LCL b x i) [] := by
  obtain ⟨y, k, D, S, sv, N, T, rf, f, hS, hM, hI, hof⟩ := hL0
  refine V_aload_n 1331 C dL_law_1330 rfl rfl ?_
  refine V_aload_n 1332 C dL_law_1331 rfl rfl ?_
  refine V_iload 1334 C dL_law_1332 rfl rfl ?_
  refine V_iconst 1335 C dL_law_1334 rfl ic1 ?_
  refine V_iaddN 1336 C dL_law_1335 rfl  ?_
  refine V_sld (j := i + 1) 1337 C hX hb dL_law_1336 rfl rfl (by omega) (by omega) ?_
  refine V_aload_n 1338 C dL_law_1337 rfl rfl ?_
  refine V_callSWR 1341 C dL_law_1338 rfl mL_why tw769 (c_L_why l G _ _ hl x y k D S sv N T hS hI _ (x + 627) f hof (by omega)) rfl rfl ⟨Nat.le_of_ble_eq_true rfl, Nat.le_of_ble_eq_true rfl⟩ ⟨by show _ ≤ 601024; omega, by show _ ≤ 7293034; omega⟩ (Nat.le_of_ble_eq_true rfl) ?_
  rintro _ n1 h1 ⟨rfl, hS1, ⟨f1, hf1, e1⟩, hF1⟩
  have hM1 := hM.fr (fun a g1 g2 => hF1 a (by omega) (by omega))
  refine V_istore 1343 C dL_law_1341 rfl (by decide) (L' := [(0, _), (1, _), (2, _), (3, _), (4, _), (5, _)]) rfl ?_
  refine V_aload_n 1344 C dL_law_1343 rfl rfl ?_
  refine V_aload_n 1345 C dL_law_1344 rfl rfl ?_
  refine V_iload 1347 C dL_law_1345 rfl rfl ?_
  refine V_iconst 1348 C dL_law_1347 rfl ic1 ?_
  refine V_iaddN 1349 C dL_law_1348 rfl  ?_
  refine V_sld (j := i + 1) 1350 C hX hb dL_law_1349 rfl rfl (by omega) (by omega) ?_
  obtain ⟨⟨sp1, ou1, g1, hm1⟩, -⟩ := id hM1
  refine V_callVR 1353 C dL_law_1350 rfl mX10_why tw1255 fcX10 hm1.2.1 (c_X10_why l G _ _ (x + 619) rf y k D S sv N T hM1 hI _) rfl rfl ⟨Nat.le_of_ble_eq_true rfl, Nat.le_of_ble_eq_true rfl⟩ ⟨by show _ ≤ 601024; omega, by show _ ≤ 7293034; omega⟩ (Nat.le_of_ble_eq_true rfl) ?_
  rintro _ n2 h2 ⟨b2, rfl, hn2, e2, hM2, hF2⟩
  have hS2 := hS1.fr (fun a ha => hF2 a (by omega))
  have hf2 := (hF2 (x + 627) (by omega)).trans hf1
  have hLI : LI x h2 := ⟨_, _, _, _, _, _, _, _, _, hS2, hM2, hI, hf2⟩
  refine V_istore 1355 C dL_law_1353 rfl (by decide) (L' := [(0, _), (1, _), (2, _), (3, _), (4, _), (5, _), (6, _)]) rfl ?_
  refine V_aload_n 1356 C dL_law_1355 rfl rfl ?_
  obtain ⟨⟨sp2, ou2, g2, hm2⟩, -⟩ := id hM2
  refine V_callVR 1359 C dL_law_1356 rfl mX10_thrown tw973 fcX10 hm2.2.1 (c_X10_thrown l G _ _ (x + 619) _ _ _ _ _ hm2.2.1) rfl rfl ⟨Nat.le_of_ble_eq_true rfl, Nat.le_of_ble_eq_true rfl⟩ ⟨by show _ ≤ 601024; omega, by show _ ≤ 7293034; omega⟩ (Nat.le_of_ble_eq_true rfl) ?_
  rintro _ _ _ ⟨rfl, rfl, rfl⟩
  refine V_iload 1361 C dL_law_1359 rfl rfl ?_
  refine V_icmp_eq 1366 1364 C dL_law_1361 (by decide) rfl (fun c1 => ?_) (fun c1 => ?_)
  · skip
    refine V_iload 1368 C dL_law_1366 rfl rfl ?_
    refine V_if_ne 1383 1371 C dL_law_1368 (by decide) rfl (fun c2 => ?_) (fun c2 => ?_)
    · refine V_goto 2094 C dL_law_1383 (by decide) ?_
      refine V_L [0, 1, 2, 3, 4] rfl ?_
      exact KL _ _ _ _ hLI (by omega) (by omega)
    · have hk0 := nz0 (by first | exact kA_le (by omega) (by omega) (by omega) | (split <;> first | omega | (split <;> first | omega | (split <;> omega)))) c2
      refine V_aload_n 1372 C dL_law_1371 rfl rfl ?_
      refine V_iconst 1373 C dL_law_1372 rfl ic0 ?_
      refine V_lald (j := 0) 1374 C dL_law_1373 rfl hf2 rfl (by omega) (by omega) ?_
      refine V_iload 1376 C dL_law_1374 rfl rfl ?_
      refine V_i2l 1377 C dL_law_1376 rfl  ?_
      refine V_lcmp 1378 C dL_law_1377 rfl  ?_
      refine V_if_eq 1383 1381 C dL_law_1378 (by decide) rfl (fun c3 => ?_) (fun c3 => ?_)
      · refine V_goto 2094 C dL_law_1383 (by decide) ?_
        refine V_L [0, 1, 2, 3, 4] rfl ?_
        exact KL _ _ _ _ hLI (by omega) (by omega)
      · exact absurd ((lg_cmp_eq _ _).mpr (by rw [e1 hk0, e2 hk0])) c3
  · exact absurd rfl c1
set_option maxRecDepth 100000 in
set_option maxHeartbeats 4000000 in
theorem lc_errorsIn {p : Program} {l : Launch} {e : Env} {s : State} {m : MethodId} {args : Array Value} {below : List Frame} {meth : Method} {c : Code} {Q : State → Prop} {G : GT} {rt : Option FieldType} (hl : l.stackTraces = false) (C : Cx p s m args meth c cL_law 7 RL rt G) {b LL : Nat} {xs : Nat → Int32} (hX : va_X b LL xs s s.heap) (hb : b < s.heap.size ∧ ¬ rg G b) (hLL : LL ≤ 2560) {x n cells slots i : Nat} {h : AH} (hi : i + 5 ≤ LL) (hc : cells + 4 ≤ 601024) (hs : slots + 24 ≤ 7293034) (hL0 : LI x h) (KL : ∀ (n1 : Nat) (h1 : AH) (cells1 slots1 : Nat), LI x h1 → cells1 ≤ cells + 4 → slots1 ≤ slots + 24 → V p l e room_1 s m args below meth c Q G 7 cells1 slots1 n1 h1 2094 (LCL b x i) []) : V p l e room_1 s m args below meth c Q G 7 cells slots n h 1386 (LCL b x i) [] := by
  obtain ⟨y, k, D, S, sv, N, T, rf, f, hS, hM, hI, hof⟩ := hL0
  refine V_aload_n 1387 C dL_law_1386 rfl rfl ?_
  refine V_aload_n 1388 C dL_law_1387 rfl rfl ?_
  refine V_iload 1390 C dL_law_1388 rfl rfl ?_
  refine V_iconst 1391 C dL_law_1390 rfl ic1 ?_
  refine V_iaddN 1392 C dL_law_1391 rfl  ?_
  refine V_sld (j := i + 1) 1393 C hX hb dL_law_1392 rfl rfl (by omega) (by omega) ?_
  refine V_aload_n 1394 C dL_law_1393 rfl rfl ?_
  refine V_iload 1396 C dL_law_1394 rfl rfl ?_
  refine V_iconst 1397 C dL_law_1396 rfl ic2 ?_
  refine V_iaddN 1398 C dL_law_1397 rfl  ?_
  refine V_sld (j := i + 2) 1399 C hX hb dL_law_1398 rfl rfl (by omega) (by omega) ?_
  refine V_aload_n 1400 C dL_law_1399 rfl rfl ?_
  refine V_callSWR 1403 C dL_law_1400 rfl mL_errorsIn tw777 (c_L_errorsIn l G _ _ hl x y k D S sv N T hS hI _ _ (x + 627) f hof (by omega)) rfl rfl ⟨Nat.le_of_ble_eq_true rfl, Nat.le_of_ble_eq_true rfl⟩ ⟨by show _ ≤ 601024; omega, by show _ ≤ 7293034; omega⟩ (Nat.le_of_ble_eq_true rfl) ?_
  rintro _ n1 h1 ⟨rfl, hS1, ⟨f1, hf1, e1⟩, hF1⟩
  have hM1 := hM.fr (fun a g1 g2 => hF1 a (by omega) (by omega))
  refine V_istore 1405 C dL_law_1403 rfl (by decide) (L' := [(0, _), (1, _), (2, _), (3, _), (4, _), (5, _)]) rfl ?_
  refine V_aload_n 1406 C dL_law_1405 rfl rfl ?_
  refine V_aload_n 1407 C dL_law_1406 rfl rfl ?_
  refine V_iload 1409 C dL_law_1407 rfl rfl ?_
  refine V_iconst 1410 C dL_law_1409 rfl ic1 ?_
  refine V_iaddN 1411 C dL_law_1410 rfl  ?_
  refine V_sld (j := i + 1) 1412 C hX hb dL_law_1411 rfl rfl (by omega) (by omega) ?_
  refine V_aload_n 1413 C dL_law_1412 rfl rfl ?_
  refine V_iload 1415 C dL_law_1413 rfl rfl ?_
  refine V_iconst 1416 C dL_law_1415 rfl ic2 ?_
  refine V_iaddN 1417 C dL_law_1416 rfl  ?_
  refine V_sld (j := i + 2) 1418 C hX hb dL_law_1417 rfl rfl (by omega) (by omega) ?_
  obtain ⟨⟨sp1, ou1, g1, hm1⟩, -⟩ := id hM1
  refine V_callVR 1421 C dL_law_1418 rfl mX10_errorsIn tw1259 fcX10 hm1.2.1 (c_X10_errorsIn l G _ _ (x + 619) rf y k D S sv N T hM1 hI _ _) rfl rfl ⟨Nat.le_of_ble_eq_true rfl, Nat.le_of_ble_eq_true rfl⟩ ⟨by show _ ≤ 601024; omega, by show _ ≤ 7293034; omega⟩ (Nat.le_of_ble_eq_true rfl) ?_
  rintro _ n2 h2 ⟨b2, rfl, hn2, e2, hM2, hF2⟩
  have hS2 := hS1.fr (fun a ha => hF2 a (by omega))
  have hf2 := (hF2 (x + 627) (by omega)).trans hf1
  have hLI : LI x h2 := ⟨_, _, _, _, _, _, _, _, _, hS2, hM2, hI, hf2⟩
  refine V_istore 1423 C dL_law_1421 rfl (by decide) (L' := [(0, _), (1, _), (2, _), (3, _), (4, _), (5, _), (6, _)]) rfl ?_
  refine V_aload_n 1424 C dL_law_1423 rfl rfl ?_
  obtain ⟨⟨sp2, ou2, g2, hm2⟩, -⟩ := id hM2
  refine V_callVR 1427 C dL_law_1424 rfl mX10_thrown tw973 fcX10 hm2.2.1 (c_X10_thrown l G _ _ (x + 619) _ _ _ _ _ hm2.2.1) rfl rfl ⟨Nat.le_of_ble_eq_true rfl, Nat.le_of_ble_eq_true rfl⟩ ⟨by show _ ≤ 601024; omega, by show _ ≤ 7293034; omega⟩ (Nat.le_of_ble_eq_true rfl) ?_
  rintro _ _ _ ⟨rfl, rfl, rfl⟩
  refine V_iload 1429 C dL_law_1427 rfl rfl ?_
  refine V_icmp_eq 1434 1432 C dL_law_1429 (by decide) rfl (fun c1 => ?_) (fun c1 => ?_)
  · skip
    refine V_iload 1436 C dL_law_1434 rfl rfl ?_
    refine V_if_ne 1451 1439 C dL_law_1436 (by decide) rfl (fun c2 => ?_) (fun c2 => ?_)
    · refine V_goto 2094 C dL_law_1451 (by decide) ?_
      refine V_L [0, 1, 2, 3, 4] rfl ?_
      exact KL _ _ _ _ hLI (by omega) (by omega)
    · have hk0 := nz0 (by first | exact kA_le (by omega) (by omega) (by omega) | (split <;> first | omega | (split <;> first | omega | (split <;> omega)))) c2
      refine V_aload_n 1440 C dL_law_1439 rfl rfl ?_
      refine V_iconst 1441 C dL_law_1440 rfl ic0 ?_
      refine V_lald (j := 0) 1442 C dL_law_1441 rfl hf2 rfl (by omega) (by omega) ?_
      refine V_iload 1444 C dL_law_1442 rfl rfl ?_
      refine V_i2l 1445 C dL_law_1444 rfl  ?_
      refine V_lcmp 1446 C dL_law_1445 rfl  ?_
      refine V_if_eq 1451 1449 C dL_law_1446 (by decide) rfl (fun c3 => ?_) (fun c3 => ?_)
      · refine V_goto 2094 C dL_law_1451 (by decide) ?_
        refine V_L [0, 1, 2, 3, 4] rfl ?_
        exact KL _ _ _ _ hLI (by omega) (by omega)
      · exact absurd ((lg_cmp_eq _ _).mpr (by rw [e1 hk0, e2 hk0])) c3
  · exact absurd rfl c1
set_option maxRecDepth 100000 in
set_option maxHeartbeats 4000000 in
theorem lc_rightFor {p : Program} {l : Launch} {e : Env} {s : State} {m : MethodId} {args : Array Value} {below : List Frame} {meth : Method} {c : Code} {Q : State → Prop} {G : GT} {rt : Option FieldType} (hl : l.stackTraces = false) (C : Cx p s m args meth c cL_law 7 RL rt G) {b LL : Nat} {xs : Nat → Int32} (hX : va_X b LL xs s s.heap) (hb : b < s.heap.size ∧ ¬ rg G b) (hLL : LL ≤ 2560) {x n cells slots i : Nat} {h : AH} (hi : i + 5 ≤ LL) (hc : cells + 4 ≤ 601024) (hs : slots + 24 ≤ 7293034) (hL0 : LI x h) (KL : ∀ (n1 : Nat) (h1 : AH) (cells1 slots1 : Nat), LI x h1 → cells1 ≤ cells + 4 → slots1 ≤ slots + 24 → V p l e room_1 s m args below meth c Q G 7 cells1 slots1 n1 h1 2094 (LCL b x i) []) : V p l e room_1 s m args below meth c Q G 7 cells slots n h 1454 (LCL b x i) [] := by
  obtain ⟨y, k, D, S, sv, N, T, rf, f, hS, hM, hI, hof⟩ := hL0
  refine V_aload_n 1455 C dL_law_1454 rfl rfl ?_
  refine V_aload_n 1456 C dL_law_1455 rfl rfl ?_
  refine V_iload 1458 C dL_law_1456 rfl rfl ?_
  refine V_iconst 1459 C dL_law_1458 rfl ic1 ?_
  refine V_iaddN 1460 C dL_law_1459 rfl  ?_
  refine V_sld (j := i + 1) 1461 C hX hb dL_law_1460 rfl rfl (by omega) (by omega) ?_
  refine V_aload_n 1462 C dL_law_1461 rfl rfl ?_
  refine V_callSWR 1465 C dL_law_1462 rfl mL_rightFor tw784 (c_L_rightFor l G _ _ hl x y k D S sv N T hS hI _ (x + 627) f hof (by omega)) rfl rfl ⟨Nat.le_of_ble_eq_true rfl, Nat.le_of_ble_eq_true rfl⟩ ⟨by show _ ≤ 601024; omega, by show _ ≤ 7293034; omega⟩ (Nat.le_of_ble_eq_true rfl) ?_
  rintro _ n1 h1 ⟨rfl, hS1, ⟨f1, hf1, e1⟩, hF1⟩
  have hM1 := hM.fr (fun a g1 g2 => hF1 a (by omega) (by omega))
  refine V_istore 1467 C dL_law_1465 rfl (by decide) (L' := [(0, _), (1, _), (2, _), (3, _), (4, _), (5, _)]) rfl ?_
  refine V_aload_n 1468 C dL_law_1467 rfl rfl ?_
  refine V_aload_n 1469 C dL_law_1468 rfl rfl ?_
  refine V_iload 1471 C dL_law_1469 rfl rfl ?_
  refine V_iconst 1472 C dL_law_1471 rfl ic1 ?_
  refine V_iaddN 1473 C dL_law_1472 rfl  ?_
  refine V_sld (j := i + 1) 1474 C hX hb dL_law_1473 rfl rfl (by omega) (by omega) ?_
  obtain ⟨⟨sp1, ou1, g1, hm1⟩, -⟩ := id hM1
  refine V_callVR 1477 C dL_law_1474 rfl mX10_rightFor tw1264 fcX10 hm1.2.1 (c_X10_rightFor l G _ _ (x + 619) rf y k D S sv N T hM1 hI _) rfl rfl ⟨Nat.le_of_ble_eq_true rfl, Nat.le_of_ble_eq_true rfl⟩ ⟨by show _ ≤ 601024; omega, by show _ ≤ 7293034; omega⟩ (Nat.le_of_ble_eq_true rfl) ?_
  rintro _ n2 h2 ⟨b2, rfl, hn2, e2, hM2, hF2⟩
  have hS2 := hS1.fr (fun a ha => hF2 a (by omega))
  have hf2 := (hF2 (x + 627) (by omega)).trans hf1
  have hLI : LI x h2 := ⟨_, _, _, _, _, _, _, _, _, hS2, hM2, hI, hf2⟩
  refine V_istore 1479 C dL_law_1477 rfl (by decide) (L' := [(0, _), (1, _), (2, _), (3, _), (4, _), (5, _), (6, _)]) rfl ?_
  refine V_aload_n 1480 C dL_law_1479 rfl rfl ?_
  obtain ⟨⟨sp2, ou2, g2, hm2⟩, -⟩ := id hM2
  refine V_callVR 1483 C dL_law_1480 rfl mX10_thrown tw973 fcX10 hm2.2.1 (c_X10_thrown l G _ _ (x + 619) _ _ _ _ _ hm2.2.1) rfl rfl ⟨Nat.le_of_ble_eq_true rfl, Nat.le_of_ble_eq_true rfl⟩ ⟨by show _ ≤ 601024; omega, by show _ ≤ 7293034; omega⟩ (Nat.le_of_ble_eq_true rfl) ?_
  rintro _ _ _ ⟨rfl, rfl, rfl⟩
  refine V_iload 1485 C dL_law_1483 rfl rfl ?_
  refine V_icmp_eq 1490 1488 C dL_law_1485 (by decide) rfl (fun c1 => ?_) (fun c1 => ?_)
  · skip
    refine V_iload 1492 C dL_law_1490 rfl rfl ?_
    refine V_if_ne 1507 1495 C dL_law_1492 (by decide) rfl (fun c2 => ?_) (fun c2 => ?_)
    · refine V_goto 2094 C dL_law_1507 (by decide) ?_
      refine V_L [0, 1, 2, 3, 4] rfl ?_
      exact KL _ _ _ _ hLI (by omega) (by omega)
    · have hk0 := nz0 (by first | exact kA_le (by omega) (by omega) (by omega) | (split <;> first | omega | (split <;> first | omega | (split <;> omega)))) c2
      refine V_aload_n 1496 C dL_law_1495 rfl rfl ?_
      refine V_iconst 1497 C dL_law_1496 rfl ic0 ?_
      refine V_lald (j := 0) 1498 C dL_law_1497 rfl hf2 rfl (by omega) (by omega) ?_
      refine V_iload 1500 C dL_law_1498 rfl rfl ?_
      refine V_i2l 1501 C dL_law_1500 rfl  ?_
      refine V_lcmp 1502 C dL_law_1501 rfl  ?_
      refine V_if_eq 1507 1505 C dL_law_1502 (by decide) rfl (fun c3 => ?_) (fun c3 => ?_)
      · refine V_goto 2094 C dL_law_1507 (by decide) ?_
        refine V_L [0, 1, 2, 3, 4] rfl ?_
        exact KL _ _ _ _ hLI (by omega) (by omega)
      · exact absurd ((lg_cmp_eq _ _).mpr (by rw [e1 hk0, e2 hk0])) c3
  · exact absurd rfl c1
set_option maxRecDepth 100000 in
set_option maxHeartbeats 4000000 in
theorem lc_route {p : Program} {l : Launch} {e : Env} {s : State} {m : MethodId} {args : Array Value} {below : List Frame} {meth : Method} {c : Code} {Q : State → Prop} {G : GT} {rt : Option FieldType} (hl : l.stackTraces = false) (C : Cx p s m args meth c cL_law 7 RL rt G) {b LL : Nat} {xs : Nat → Int32} (hX : va_X b LL xs s s.heap) (hb : b < s.heap.size ∧ ¬ rg G b) (hLL : LL ≤ 2560) {x n cells slots i : Nat} {h : AH} (hi : i + 5 ≤ LL) (hc : cells + 4 ≤ 601024) (hs : slots + 24 ≤ 7293034) (hL0 : LI x h) (KL : ∀ (n1 : Nat) (h1 : AH) (cells1 slots1 : Nat), LI x h1 → cells1 ≤ cells + 4 → slots1 ≤ slots + 24 → V p l e room_1 s m args below meth c Q G 7 cells1 slots1 n1 h1 2094 (LCL b x i) []) : V p l e room_1 s m args below meth c Q G 7 cells slots n h 1510 (LCL b x i) [] := by
  obtain ⟨y, k, D, S, sv, N, T, rf, f, hS, hM, hI, hof⟩ := hL0
  refine V_aload_n 1511 C dL_law_1510 rfl rfl ?_
  refine V_aload_n 1512 C dL_law_1511 rfl rfl ?_
  refine V_iload 1514 C dL_law_1512 rfl rfl ?_
  refine V_iconst 1515 C dL_law_1514 rfl ic1 ?_
  refine V_iaddN 1516 C dL_law_1515 rfl  ?_
  refine V_sld (j := i + 1) 1517 C hX hb dL_law_1516 rfl rfl (by omega) (by omega) ?_
  refine V_aload_n 1518 C dL_law_1517 rfl rfl ?_
  refine V_iload 1520 C dL_law_1518 rfl rfl ?_
  refine V_iconst 1521 C dL_law_1520 rfl ic2 ?_
  refine V_iaddN 1522 C dL_law_1521 rfl  ?_
  refine V_sld (j := i + 2) 1523 C hX hb dL_law_1522 rfl rfl (by omega) (by omega) ?_
  refine V_aload_n 1524 C dL_law_1523 rfl rfl ?_
  refine V_iload 1526 C dL_law_1524 rfl rfl ?_
  refine V_iconst 1527 C dL_law_1526 rfl ic3 ?_
  refine V_iaddN 1528 C dL_law_1527 rfl  ?_
  refine V_sld (j := i + 3) 1529 C hX hb dL_law_1528 rfl rfl (by omega) (by omega) ?_
  refine V_aload_n 1530 C dL_law_1529 rfl rfl ?_
  refine V_callSWR 1533 C dL_law_1530 rfl mL_route tw791 (c_L_route l G _ _ hl x y k D S sv N T hS hI _ _ _ (x + 627) f hof (by omega)) rfl rfl ⟨Nat.le_of_ble_eq_true rfl, Nat.le_of_ble_eq_true rfl⟩ ⟨by show _ ≤ 601024; omega, by show _ ≤ 7293034; omega⟩ (Nat.le_of_ble_eq_true rfl) ?_
  rintro _ n1 h1 ⟨rfl, hS1, ⟨f1, hf1, e1⟩, hF1⟩
  have hM1 := hM.fr (fun a g1 g2 => hF1 a (by omega) (by omega))
  refine V_istore 1535 C dL_law_1533 rfl (by decide) (L' := [(0, _), (1, _), (2, _), (3, _), (4, _), (5, _)]) rfl ?_
  refine V_aload_n 1536 C dL_law_1535 rfl rfl ?_
  refine V_aload_n 1537 C dL_law_1536 rfl rfl ?_
  refine V_iload 1539 C dL_law_1537 rfl rfl ?_
  refine V_iconst 1540 C dL_law_1539 rfl ic1 ?_
  refine V_iaddN 1541 C dL_law_1540 rfl  ?_
  refine V_sld (j := i + 1) 1542 C hX hb dL_law_1541 rfl rfl (by omega) (by omega) ?_
  refine V_aload_n 1543 C dL_law_1542 rfl rfl ?_
  refine V_iload 1545 C dL_law_1543 rfl rfl ?_
  refine V_iconst 1546 C dL_law_1545 rfl ic2 ?_
  refine V_iaddN 1547 C dL_law_1546 rfl  ?_
  refine V_sld (j := i + 2) 1548 C hX hb dL_law_1547 rfl rfl (by omega) (by omega) ?_
  refine V_aload_n 1549 C dL_law_1548 rfl rfl ?_
  refine V_iload 1551 C dL_law_1549 rfl rfl ?_
  refine V_iconst 1552 C dL_law_1551 rfl ic3 ?_
  refine V_iaddN 1553 C dL_law_1552 rfl  ?_
  refine V_sld (j := i + 3) 1554 C hX hb dL_law_1553 rfl rfl (by omega) (by omega) ?_
  obtain ⟨⟨sp1, ou1, g1, hm1⟩, -⟩ := id hM1
  refine V_callVR 1557 C dL_law_1554 rfl mX10_route tw1268 fcX10 hm1.2.1 (c_X10_route l G _ _ (x + 619) rf y k D S sv N T hM1 hI _ _ _) rfl rfl ⟨Nat.le_of_ble_eq_true rfl, Nat.le_of_ble_eq_true rfl⟩ ⟨by show _ ≤ 601024; omega, by show _ ≤ 7293034; omega⟩ (Nat.le_of_ble_eq_true rfl) ?_
  rintro _ n2 h2 ⟨b2, rfl, hn2, e2, hM2, hF2⟩
  have hS2 := hS1.fr (fun a ha => hF2 a (by omega))
  have hf2 := (hF2 (x + 627) (by omega)).trans hf1
  have hLI : LI x h2 := ⟨_, _, _, _, _, _, _, _, _, hS2, hM2, hI, hf2⟩
  refine V_istore 1559 C dL_law_1557 rfl (by decide) (L' := [(0, _), (1, _), (2, _), (3, _), (4, _), (5, _), (6, _)]) rfl ?_
  refine V_aload_n 1560 C dL_law_1559 rfl rfl ?_
  obtain ⟨⟨sp2, ou2, g2, hm2⟩, -⟩ := id hM2
  refine V_callVR 1563 C dL_law_1560 rfl mX10_thrown tw973 fcX10 hm2.2.1 (c_X10_thrown l G _ _ (x + 619) _ _ _ _ _ hm2.2.1) rfl rfl ⟨Nat.le_of_ble_eq_true rfl, Nat.le_of_ble_eq_true rfl⟩ ⟨by show _ ≤ 601024; omega, by show _ ≤ 7293034; omega⟩ (Nat.le_of_ble_eq_true rfl) ?_
  rintro _ _ _ ⟨rfl, rfl, rfl⟩
  refine V_iload 1565 C dL_law_1563 rfl rfl ?_
  refine V_icmp_eq 1570 1568 C dL_law_1565 (by decide) rfl (fun c1 => ?_) (fun c1 => ?_)
  · skip
    refine V_iload 1572 C dL_law_1570 rfl rfl ?_
    refine V_if_ne 1587 1575 C dL_law_1572 (by decide) rfl (fun c2 => ?_) (fun c2 => ?_)
    · refine V_goto 2094 C dL_law_1587 (by decide) ?_
      refine V_L [0, 1, 2, 3, 4] rfl ?_
      exact KL _ _ _ _ hLI (by omega) (by omega)
    · have hk0 := nz0 (by first | exact kA_le (by omega) (by omega) (by omega) | (split <;> first | omega | (split <;> first | omega | (split <;> omega)))) c2
      refine V_aload_n 1576 C dL_law_1575 rfl rfl ?_
      refine V_iconst 1577 C dL_law_1576 rfl ic0 ?_
      refine V_lald (j := 0) 1578 C dL_law_1577 rfl hf2 rfl (by omega) (by omega) ?_
      refine V_iload 1580 C dL_law_1578 rfl rfl ?_
      refine V_i2l 1581 C dL_law_1580 rfl  ?_
      refine V_lcmp 1582 C dL_law_1581 rfl  ?_
      refine V_if_eq 1587 1585 C dL_law_1582 (by decide) rfl (fun c3 => ?_) (fun c3 => ?_)
      · refine V_goto 2094 C dL_law_1587 (by decide) ?_
        refine V_L [0, 1, 2, 3, 4] rfl ?_
        exact KL _ _ _ _ hLI (by omega) (by omega)
      · exact absurd ((lg_cmp_eq _ _).mpr (by rw [e1 hk0, e2 hk0])) c3
  · exact absurd rfl c1
set_option maxRecDepth 100000 in
set_option maxHeartbeats 4000000 in
theorem lc_roadTo {p : Program} {l : Launch} {e : Env} {s : State} {m : MethodId} {args : Array Value} {below : List Frame} {meth : Method} {c : Code} {Q : State → Prop} {G : GT} {rt : Option FieldType} (hl : l.stackTraces = false) (C : Cx p s m args meth c cL_law 7 RL rt G) {b LL : Nat} {xs : Nat → Int32} (hX : va_X b LL xs s s.heap) (hb : b < s.heap.size ∧ ¬ rg G b) (hLL : LL ≤ 2560) {x n cells slots i : Nat} {h : AH} (hi : i + 5 ≤ LL) (hc : cells + 4 ≤ 601024) (hs : slots + 24 ≤ 7293034) (hL0 : LI x h) (KL : ∀ (n1 : Nat) (h1 : AH) (cells1 slots1 : Nat), LI x h1 → cells1 ≤ cells + 4 → slots1 ≤ slots + 24 → V p l e room_1 s m args below meth c Q G 7 cells1 slots1 n1 h1 2094 (LCL b x i) []) : V p l e room_1 s m args below meth c Q G 7 cells slots n h 1590 (LCL b x i) [] := by
  obtain ⟨y, k, D, S, sv, N, T, rf, f, hS, hM, hI, hof⟩ := hL0
  refine V_aload_n 1591 C dL_law_1590 rfl rfl ?_
  refine V_aload_n 1592 C dL_law_1591 rfl rfl ?_
  refine V_iload 1594 C dL_law_1592 rfl rfl ?_
  refine V_iconst 1595 C dL_law_1594 rfl ic1 ?_
  refine V_iaddN 1596 C dL_law_1595 rfl  ?_
  refine V_sld (j := i + 1) 1597 C hX hb dL_law_1596 rfl rfl (by omega) (by omega) ?_
  refine V_aload_n 1598 C dL_law_1597 rfl rfl ?_
  refine V_iload 1600 C dL_law_1598 rfl rfl ?_
  refine V_iconst 1601 C dL_law_1600 rfl ic2 ?_
  refine V_iaddN 1602 C dL_law_1601 rfl  ?_
  refine V_sld (j := i + 2) 1603 C hX hb dL_law_1602 rfl rfl (by omega) (by omega) ?_
  refine V_aload_n 1604 C dL_law_1603 rfl rfl ?_
  refine V_callSWR 1607 C dL_law_1604 rfl mL_roadTo tw830 (c_L_roadTo l G _ _ hl x y k D S sv N T hS hI _ _ (x + 627) f hof (by omega)) rfl rfl ⟨Nat.le_of_ble_eq_true rfl, Nat.le_of_ble_eq_true rfl⟩ ⟨by show _ ≤ 601024; omega, by show _ ≤ 7293034; omega⟩ (Nat.le_of_ble_eq_true rfl) ?_
  rintro _ n1 h1 ⟨rfl, hS1, ⟨f1, hf1, e1⟩, hF1⟩
  have hM1 := hM.fr (fun a g1 g2 => hF1 a (by omega) (by omega))
  refine V_istore 1609 C dL_law_1607 rfl (by decide) (L' := [(0, _), (1, _), (2, _), (3, _), (4, _), (5, _)]) rfl ?_
  refine V_aload_n 1610 C dL_law_1609 rfl rfl ?_
  refine V_aload_n 1611 C dL_law_1610 rfl rfl ?_
  refine V_iload 1613 C dL_law_1611 rfl rfl ?_
  refine V_iconst 1614 C dL_law_1613 rfl ic1 ?_
  refine V_iaddN 1615 C dL_law_1614 rfl  ?_
  refine V_sld (j := i + 1) 1616 C hX hb dL_law_1615 rfl rfl (by omega) (by omega) ?_
  refine V_aload_n 1617 C dL_law_1616 rfl rfl ?_
  refine V_iload 1619 C dL_law_1617 rfl rfl ?_
  refine V_iconst 1620 C dL_law_1619 rfl ic2 ?_
  refine V_iaddN 1621 C dL_law_1620 rfl  ?_
  refine V_sld (j := i + 2) 1622 C hX hb dL_law_1621 rfl rfl (by omega) (by omega) ?_
  obtain ⟨⟨sp1, ou1, g1, hm1⟩, -⟩ := id hM1
  refine V_callVR 1625 C dL_law_1622 rfl mX10_roadTo tw1280 fcX10 hm1.2.1 (c_X10_roadTo l G _ _ (x + 619) rf y k D S sv N T hM1 hI _ _) rfl rfl ⟨Nat.le_of_ble_eq_true rfl, Nat.le_of_ble_eq_true rfl⟩ ⟨by show _ ≤ 601024; omega, by show _ ≤ 7293034; omega⟩ (Nat.le_of_ble_eq_true rfl) ?_
  rintro _ n2 h2 ⟨b2, rfl, hn2, e2, hM2, hF2⟩
  have hS2 := hS1.fr (fun a ha => hF2 a (by omega))
  have hf2 := (hF2 (x + 627) (by omega)).trans hf1
  have hLI : LI x h2 := ⟨_, _, _, _, _, _, _, _, _, hS2, hM2, hI, hf2⟩
  refine V_istore 1627 C dL_law_1625 rfl (by decide) (L' := [(0, _), (1, _), (2, _), (3, _), (4, _), (5, _), (6, _)]) rfl ?_
  refine V_aload_n 1628 C dL_law_1627 rfl rfl ?_
  obtain ⟨⟨sp2, ou2, g2, hm2⟩, -⟩ := id hM2
  refine V_callVR 1631 C dL_law_1628 rfl mX10_thrown tw973 fcX10 hm2.2.1 (c_X10_thrown l G _ _ (x + 619) _ _ _ _ _ hm2.2.1) rfl rfl ⟨Nat.le_of_ble_eq_true rfl, Nat.le_of_ble_eq_true rfl⟩ ⟨by show _ ≤ 601024; omega, by show _ ≤ 7293034; omega⟩ (Nat.le_of_ble_eq_true rfl) ?_
  rintro _ _ _ ⟨rfl, rfl, rfl⟩
  refine V_iload 1633 C dL_law_1631 rfl rfl ?_
  refine V_icmp_eq 1638 1636 C dL_law_1633 (by decide) rfl (fun c1 => ?_) (fun c1 => ?_)
  · skip
    refine V_iload 1640 C dL_law_1638 rfl rfl ?_
    refine V_if_ne 1655 1643 C dL_law_1640 (by decide) rfl (fun c2 => ?_) (fun c2 => ?_)
    · refine V_goto 2094 C dL_law_1655 (by decide) ?_
      refine V_L [0, 1, 2, 3, 4] rfl ?_
      exact KL _ _ _ _ hLI (by omega) (by omega)
    · have hk0 := nz0 (by first | exact kA_le (by omega) (by omega) (by omega) | (split <;> first | omega | (split <;> first | omega | (split <;> omega)))) c2
      refine V_aload_n 1644 C dL_law_1643 rfl rfl ?_
      refine V_iconst 1645 C dL_law_1644 rfl ic0 ?_
      refine V_lald (j := 0) 1646 C dL_law_1645 rfl hf2 rfl (by omega) (by omega) ?_
      refine V_iload 1648 C dL_law_1646 rfl rfl ?_
      refine V_i2l 1649 C dL_law_1648 rfl  ?_
      refine V_lcmp 1650 C dL_law_1649 rfl  ?_
      refine V_if_eq 1655 1653 C dL_law_1650 (by decide) rfl (fun c3 => ?_) (fun c3 => ?_)
      · refine V_goto 2094 C dL_law_1655 (by decide) ?_
        refine V_L [0, 1, 2, 3, 4] rfl ?_
        exact KL _ _ _ _ hLI (by omega) (by omega)
      · exact absurd ((lg_cmp_eq _ _).mpr (by rw [e1 hk0, e2 hk0])) c3
  · exact absurd rfl c1
set_option maxRecDepth 100000 in
set_option maxHeartbeats 4000000 in
theorem lc_ifBrought {p : Program} {l : Launch} {e : Env} {s : State} {m : MethodId} {args : Array Value} {below : List Frame} {meth : Method} {c : Code} {Q : State → Prop} {G : GT} {rt : Option FieldType} (hl : l.stackTraces = false) (C : Cx p s m args meth c cL_law 7 RL rt G) {b LL : Nat} {xs : Nat → Int32} (hX : va_X b LL xs s s.heap) (hb : b < s.heap.size ∧ ¬ rg G b) (hLL : LL ≤ 2560) {x n cells slots i : Nat} {h : AH} (hi : i + 5 ≤ LL) (hc : cells + 4 ≤ 601024) (hs : slots + 24 ≤ 7293034) (hL0 : LI x h) (KL : ∀ (n1 : Nat) (h1 : AH) (cells1 slots1 : Nat), LI x h1 → cells1 ≤ cells + 4 → slots1 ≤ slots + 24 → V p l e room_1 s m args below meth c Q G 7 cells1 slots1 n1 h1 2094 (LCL b x i) []) : V p l e room_1 s m args below meth c Q G 7 cells slots n h 1658 (LCL b x i) [] := by
  obtain ⟨y, k, D, S, sv, N, T, rf, f, hS, hM, hI, hof⟩ := hL0
  refine V_aload_n 1659 C dL_law_1658 rfl rfl ?_
  refine V_aload_n 1660 C dL_law_1659 rfl rfl ?_
  refine V_iload 1662 C dL_law_1660 rfl rfl ?_
  refine V_iconst 1663 C dL_law_1662 rfl ic1 ?_
  refine V_iaddN 1664 C dL_law_1663 rfl  ?_
  refine V_sld (j := i + 1) 1665 C hX hb dL_law_1664 rfl rfl (by omega) (by omega) ?_
  refine V_aload_n 1666 C dL_law_1665 rfl rfl ?_
  refine V_iload 1668 C dL_law_1666 rfl rfl ?_
  refine V_iconst 1669 C dL_law_1668 rfl ic2 ?_
  refine V_iaddN 1670 C dL_law_1669 rfl  ?_
  refine V_sld (j := i + 2) 1671 C hX hb dL_law_1670 rfl rfl (by omega) (by omega) ?_
  refine V_aload_n 1672 C dL_law_1671 rfl rfl ?_
  refine V_callSWR 1675 C dL_law_1672 rfl mL_ifBrought tw841 (c_L_ifBrought l G _ _ hl x y k D S sv N T hS hI _ _ (x + 627) f hof (by omega)) rfl rfl ⟨Nat.le_of_ble_eq_true rfl, Nat.le_of_ble_eq_true rfl⟩ ⟨by show _ ≤ 601024; omega, by show _ ≤ 7293034; omega⟩ (Nat.le_of_ble_eq_true rfl) ?_
  rintro _ n1 h1 ⟨rfl, hS1, ⟨f1, hf1, e1⟩, hF1⟩
  have hM1 := hM.fr (fun a g1 g2 => hF1 a (by omega) (by omega))
  refine V_istore 1677 C dL_law_1675 rfl (by decide) (L' := [(0, _), (1, _), (2, _), (3, _), (4, _), (5, _)]) rfl ?_
  refine V_aload_n 1678 C dL_law_1677 rfl rfl ?_
  refine V_aload_n 1679 C dL_law_1678 rfl rfl ?_
  refine V_iload 1681 C dL_law_1679 rfl rfl ?_
  refine V_iconst 1682 C dL_law_1681 rfl ic1 ?_
  refine V_iaddN 1683 C dL_law_1682 rfl  ?_
  refine V_sld (j := i + 1) 1684 C hX hb dL_law_1683 rfl rfl (by omega) (by omega) ?_
  refine V_aload_n 1685 C dL_law_1684 rfl rfl ?_
  refine V_iload 1687 C dL_law_1685 rfl rfl ?_
  refine V_iconst 1688 C dL_law_1687 rfl ic2 ?_
  refine V_iaddN 1689 C dL_law_1688 rfl  ?_
  refine V_sld (j := i + 2) 1690 C hX hb dL_law_1689 rfl rfl (by omega) (by omega) ?_
  obtain ⟨⟨sp1, ou1, g1, hm1⟩, -⟩ := id hM1
  refine V_callVR 1693 C dL_law_1690 rfl mX10_ifBrought tw1284 fcX10 hm1.2.1 (c_X10_ifBrought l G _ _ (x + 619) rf y k D S sv N T hM1 hI _ _) rfl rfl ⟨Nat.le_of_ble_eq_true rfl, Nat.le_of_ble_eq_true rfl⟩ ⟨by show _ ≤ 601024; omega, by show _ ≤ 7293034; omega⟩ (Nat.le_of_ble_eq_true rfl) ?_
  rintro _ n2 h2 ⟨b2, rfl, hn2, e2, hM2, hF2⟩
  have hS2 := hS1.fr (fun a ha => hF2 a (by omega))
  have hf2 := (hF2 (x + 627) (by omega)).trans hf1
  have hLI : LI x h2 := ⟨_, _, _, _, _, _, _, _, _, hS2, hM2, hI, hf2⟩
  refine V_istore 1695 C dL_law_1693 rfl (by decide) (L' := [(0, _), (1, _), (2, _), (3, _), (4, _), (5, _), (6, _)]) rfl ?_
  refine V_aload_n 1696 C dL_law_1695 rfl rfl ?_
  obtain ⟨⟨sp2, ou2, g2, hm2⟩, -⟩ := id hM2
  refine V_callVR 1699 C dL_law_1696 rfl mX10_thrown tw973 fcX10 hm2.2.1 (c_X10_thrown l G _ _ (x + 619) _ _ _ _ _ hm2.2.1) rfl rfl ⟨Nat.le_of_ble_eq_true rfl, Nat.le_of_ble_eq_true rfl⟩ ⟨by show _ ≤ 601024; omega, by show _ ≤ 7293034; omega⟩ (Nat.le_of_ble_eq_true rfl) ?_
  rintro _ _ _ ⟨rfl, rfl, rfl⟩
  refine V_iload 1701 C dL_law_1699 rfl rfl ?_
  refine V_icmp_eq 1706 1704 C dL_law_1701 (by decide) rfl (fun c1 => ?_) (fun c1 => ?_)
  · skip
    refine V_iload 1708 C dL_law_1706 rfl rfl ?_
    refine V_if_ne 1723 1711 C dL_law_1708 (by decide) rfl (fun c2 => ?_) (fun c2 => ?_)
    · refine V_goto 2094 C dL_law_1723 (by decide) ?_
      refine V_L [0, 1, 2, 3, 4] rfl ?_
      exact KL _ _ _ _ hLI (by omega) (by omega)
    · have hk0 := nz0 (by first | exact kA_le (by omega) (by omega) (by omega) | (split <;> first | omega | (split <;> first | omega | (split <;> omega)))) c2
      refine V_aload_n 1712 C dL_law_1711 rfl rfl ?_
      refine V_iconst 1713 C dL_law_1712 rfl ic0 ?_
      refine V_lald (j := 0) 1714 C dL_law_1713 rfl hf2 rfl (by omega) (by omega) ?_
      refine V_iload 1716 C dL_law_1714 rfl rfl ?_
      refine V_i2l 1717 C dL_law_1716 rfl  ?_
      refine V_lcmp 1718 C dL_law_1717 rfl  ?_
      refine V_if_eq 1723 1721 C dL_law_1718 (by decide) rfl (fun c3 => ?_) (fun c3 => ?_)
      · refine V_goto 2094 C dL_law_1723 (by decide) ?_
        refine V_L [0, 1, 2, 3, 4] rfl ?_
        exact KL _ _ _ _ hLI (by omega) (by omega)
      · exact absurd ((lg_cmp_eq _ _).mpr (by rw [e1 hk0, e2 hk0])) c3
  · exact absurd rfl c1
set_option maxRecDepth 100000 in
set_option maxHeartbeats 4000000 in
theorem lc_best {p : Program} {l : Launch} {e : Env} {s : State} {m : MethodId} {args : Array Value} {below : List Frame} {meth : Method} {c : Code} {Q : State → Prop} {G : GT} {rt : Option FieldType} (hl : l.stackTraces = false) (C : Cx p s m args meth c cL_law 7 RL rt G) {b LL : Nat} {xs : Nat → Int32} (hX : va_X b LL xs s s.heap) (hb : b < s.heap.size ∧ ¬ rg G b) (hLL : LL ≤ 2560) {x n cells slots i : Nat} {h : AH} (hi : i + 5 ≤ LL) (hc : cells + 4 ≤ 601024) (hs : slots + 24 ≤ 7293034) (hL0 : LI x h) (KL : ∀ (n1 : Nat) (h1 : AH) (cells1 slots1 : Nat), LI x h1 → cells1 ≤ cells + 4 → slots1 ≤ slots + 24 → V p l e room_1 s m args below meth c Q G 7 cells1 slots1 n1 h1 2094 (LCL b x i) []) : V p l e room_1 s m args below meth c Q G 7 cells slots n h 1726 (LCL b x i) [] := by
  obtain ⟨y, k, D, S, sv, N, T, rf, f, hS, hM, hI, hof⟩ := hL0
  refine V_aload_n 1727 C dL_law_1726 rfl rfl ?_
  refine V_aload_n 1728 C dL_law_1727 rfl rfl ?_
  refine V_iload 1730 C dL_law_1728 rfl rfl ?_
  refine V_iconst 1731 C dL_law_1730 rfl ic1 ?_
  refine V_iaddN 1732 C dL_law_1731 rfl  ?_
  refine V_sld (j := i + 1) 1733 C hX hb dL_law_1732 rfl rfl (by omega) (by omega) ?_
  refine V_aload_n 1734 C dL_law_1733 rfl rfl ?_
  refine V_callSWR 1737 C dL_law_1734 rfl mL_best tw848 (c_L_best l G _ _ hl x y k D S sv N T hS hI _ (x + 627) f hof (by omega)) rfl rfl ⟨Nat.le_of_ble_eq_true rfl, Nat.le_of_ble_eq_true rfl⟩ ⟨by show _ ≤ 601024; omega, by show _ ≤ 7293034; omega⟩ (Nat.le_of_ble_eq_true rfl) ?_
  rintro _ n1 h1 ⟨rfl, hS1, ⟨f1, hf1, e1⟩, hF1⟩
  have hM1 := hM.fr (fun a g1 g2 => hF1 a (by omega) (by omega))
  refine V_istore 1739 C dL_law_1737 rfl (by decide) (L' := [(0, _), (1, _), (2, _), (3, _), (4, _), (5, _)]) rfl ?_
  refine V_aload_n 1740 C dL_law_1739 rfl rfl ?_
  refine V_aload_n 1741 C dL_law_1740 rfl rfl ?_
  refine V_iload 1743 C dL_law_1741 rfl rfl ?_
  refine V_iconst 1744 C dL_law_1743 rfl ic1 ?_
  refine V_iaddN 1745 C dL_law_1744 rfl  ?_
  refine V_sld (j := i + 1) 1746 C hX hb dL_law_1745 rfl rfl (by omega) (by omega) ?_
  obtain ⟨⟨sp1, ou1, g1, hm1⟩, -⟩ := id hM1
  refine V_callVR 1749 C dL_law_1746 rfl mX10_best tw1288 fcX10 hm1.2.1 (c_X10_best l G _ _ (x + 619) rf y k D S sv N T hM1 hI _) rfl rfl ⟨Nat.le_of_ble_eq_true rfl, Nat.le_of_ble_eq_true rfl⟩ ⟨by show _ ≤ 601024; omega, by show _ ≤ 7293034; omega⟩ (Nat.le_of_ble_eq_true rfl) ?_
  rintro _ n2 h2 ⟨b2, rfl, hn2, e2, hM2, hF2⟩
  have hS2 := hS1.fr (fun a ha => hF2 a (by omega))
  have hf2 := (hF2 (x + 627) (by omega)).trans hf1
  have hLI : LI x h2 := ⟨_, _, _, _, _, _, _, _, _, hS2, hM2, hI, hf2⟩
  refine V_istore 1751 C dL_law_1749 rfl (by decide) (L' := [(0, _), (1, _), (2, _), (3, _), (4, _), (5, _), (6, _)]) rfl ?_
  refine V_aload_n 1752 C dL_law_1751 rfl rfl ?_
  obtain ⟨⟨sp2, ou2, g2, hm2⟩, -⟩ := id hM2
  refine V_callVR 1755 C dL_law_1752 rfl mX10_thrown tw973 fcX10 hm2.2.1 (c_X10_thrown l G _ _ (x + 619) _ _ _ _ _ hm2.2.1) rfl rfl ⟨Nat.le_of_ble_eq_true rfl, Nat.le_of_ble_eq_true rfl⟩ ⟨by show _ ≤ 601024; omega, by show _ ≤ 7293034; omega⟩ (Nat.le_of_ble_eq_true rfl) ?_
  rintro _ _ _ ⟨rfl, rfl, rfl⟩
  refine V_iload 1757 C dL_law_1755 rfl rfl ?_
  refine V_icmp_eq 1762 1760 C dL_law_1757 (by decide) rfl (fun c1 => ?_) (fun c1 => ?_)
  · skip
    refine V_iload 1764 C dL_law_1762 rfl rfl ?_
    refine V_if_ne 1779 1767 C dL_law_1764 (by decide) rfl (fun c2 => ?_) (fun c2 => ?_)
    · refine V_goto 2094 C dL_law_1779 (by decide) ?_
      refine V_L [0, 1, 2, 3, 4] rfl ?_
      exact KL _ _ _ _ hLI (by omega) (by omega)
    · have hk0 := nz0 (by first | exact kA_le (by omega) (by omega) (by omega) | (split <;> first | omega | (split <;> first | omega | (split <;> omega)))) c2
      refine V_aload_n 1768 C dL_law_1767 rfl rfl ?_
      refine V_iconst 1769 C dL_law_1768 rfl ic0 ?_
      refine V_lald (j := 0) 1770 C dL_law_1769 rfl hf2 rfl (by omega) (by omega) ?_
      refine V_iload 1772 C dL_law_1770 rfl rfl ?_
      refine V_i2l 1773 C dL_law_1772 rfl  ?_
      refine V_lcmp 1774 C dL_law_1773 rfl  ?_
      refine V_if_eq 1779 1777 C dL_law_1774 (by decide) rfl (fun c3 => ?_) (fun c3 => ?_)
      · refine V_goto 2094 C dL_law_1779 (by decide) ?_
        refine V_L [0, 1, 2, 3, 4] rfl ?_
        exact KL _ _ _ _ hLI (by omega) (by omega)
      · exact absurd ((lg_cmp_eq _ _).mpr (by rw [e1 hk0, e2 hk0])) c3
  · exact absurd rfl c1
set_option maxRecDepth 100000 in
set_option maxHeartbeats 4000000 in
theorem lc_runScript {p : Program} {l : Launch} {e : Env} {s : State} {m : MethodId} {args : Array Value} {below : List Frame} {meth : Method} {c : Code} {Q : State → Prop} {G : GT} {rt : Option FieldType} (hl : l.stackTraces = false) (C : Cx p s m args meth c cL_law 7 RL rt G) {b LL : Nat} {xs : Nat → Int32} (hX : va_X b LL xs s s.heap) (hb : b < s.heap.size ∧ ¬ rg G b) (hLL : LL ≤ 2560) {x n cells slots i : Nat} {h : AH} (hi : i + 5 ≤ LL) (hc : cells + 4 ≤ 601024) (hs : slots + 24 ≤ 7293034) (hL0 : LI x h) (KL : ∀ (n1 : Nat) (h1 : AH) (cells1 slots1 : Nat), LI x h1 → cells1 ≤ cells + 4 → slots1 ≤ slots + 24 → V p l e room_1 s m args below meth c Q G 7 cells1 slots1 n1 h1 2094 (LCL b x i) []) : V p l e room_1 s m args below meth c Q G 7 cells slots n h 1782 (LCL b x i) [] := by
  obtain ⟨y, k, D, S, sv, N, T, rf, f, hS, hM, hI, hof⟩ := hL0
  refine V_aload_n 1783 C dL_law_1782 rfl rfl ?_
  refine V_aload_n 1784 C dL_law_1783 rfl rfl ?_
  refine V_iload 1786 C dL_law_1784 rfl rfl ?_
  refine V_iconst 1787 C dL_law_1786 rfl ic1 ?_
  refine V_iaddN 1788 C dL_law_1787 rfl  ?_
  refine V_sld (j := i + 1) 1789 C hX hb dL_law_1788 rfl rfl (by omega) (by omega) ?_
  refine V_aload_n 1790 C dL_law_1789 rfl rfl ?_
  refine V_iload 1792 C dL_law_1790 rfl rfl ?_
  refine V_iconst 1793 C dL_law_1792 rfl ic2 ?_
  refine V_iaddN 1794 C dL_law_1793 rfl  ?_
  refine V_sld (j := i + 2) 1795 C hX hb dL_law_1794 rfl rfl (by omega) (by omega) ?_
  refine V_i2l 1796 C dL_law_1795 rfl  ?_
  refine V_bipush 1798 C dL_law_1796 rfl bip32 ?_
  refine V_lshl 1799 C dL_law_1798 rfl  ?_
  refine V_aload_n 1800 C dL_law_1799 rfl rfl ?_
  refine V_iload 1802 C dL_law_1800 rfl rfl ?_
  refine V_iconst 1803 C dL_law_1802 rfl ic3 ?_
  refine V_iaddN 1804 C dL_law_1803 rfl  ?_
  refine V_sld (j := i + 3) 1805 C hX hb dL_law_1804 rfl rfl (by omega) (by omega) ?_
  refine V_i2l 1806 C dL_law_1805 rfl  ?_
  refine V_ldc2 1809 C dL_law_1806 rfl tw1329 ?_
  refine V_land 1810 C dL_law_1809 rfl  ?_
  refine V_lor 1811 C dL_law_1810 rfl  ?_
  refine V_aload_n 1812 C dL_law_1811 rfl rfl ?_
  refine V_callSWR 1815 C dL_law_1812 rfl mL_runScript tw863 (c_L_runScript l G _ _ hl x y k D S sv N T hS hI _ _ (x + 627) f hof (by omega)) rfl rfl ⟨Nat.le_of_ble_eq_true rfl, Nat.le_of_ble_eq_true rfl⟩ ⟨by show _ ≤ 601024; omega, by show _ ≤ 7293034; omega⟩ (Nat.le_of_ble_eq_true rfl) ?_
  rintro _ n1 h1 ⟨rfl, hS1, ⟨f1, hf1, e1⟩, hF1⟩
  have hM1 := hM.fr (fun a g1 g2 => hF1 a (by omega) (by omega))
  refine V_istore 1817 C dL_law_1815 rfl (by decide) (L' := [(0, _), (1, _), (2, _), (3, _), (4, _), (5, _)]) rfl ?_
  refine V_aload_n 1818 C dL_law_1817 rfl rfl ?_
  refine V_aload_n 1819 C dL_law_1818 rfl rfl ?_
  refine V_iload 1821 C dL_law_1819 rfl rfl ?_
  refine V_iconst 1822 C dL_law_1821 rfl ic1 ?_
  refine V_iaddN 1823 C dL_law_1822 rfl  ?_
  refine V_sld (j := i + 1) 1824 C hX hb dL_law_1823 rfl rfl (by omega) (by omega) ?_
  refine V_aload_n 1825 C dL_law_1824 rfl rfl ?_
  refine V_iload 1827 C dL_law_1825 rfl rfl ?_
  refine V_iconst 1828 C dL_law_1827 rfl ic2 ?_
  refine V_iaddN 1829 C dL_law_1828 rfl  ?_
  refine V_sld (j := i + 2) 1830 C hX hb dL_law_1829 rfl rfl (by omega) (by omega) ?_
  refine V_i2l 1831 C dL_law_1830 rfl  ?_
  refine V_bipush 1833 C dL_law_1831 rfl bip32 ?_
  refine V_lshl 1834 C dL_law_1833 rfl  ?_
  refine V_aload_n 1835 C dL_law_1834 rfl rfl ?_
  refine V_iload 1837 C dL_law_1835 rfl rfl ?_
  refine V_iconst 1838 C dL_law_1837 rfl ic3 ?_
  refine V_iaddN 1839 C dL_law_1838 rfl  ?_
  refine V_sld (j := i + 3) 1840 C hX hb dL_law_1839 rfl rfl (by omega) (by omega) ?_
  refine V_i2l 1841 C dL_law_1840 rfl  ?_
  refine V_ldc2 1844 C dL_law_1841 rfl tw1329 ?_
  refine V_land 1845 C dL_law_1844 rfl  ?_
  refine V_lor 1846 C dL_law_1845 rfl  ?_
  obtain ⟨⟨sp1, ou1, g1, hm1⟩, -⟩ := id hM1
  refine V_callVR 1849 C dL_law_1846 rfl mX10_runScript tw1292 fcX10 hm1.2.1 (c_X10_runScript l G _ _ (x + 619) rf y k D S sv N T hM1 hI _ _) rfl rfl ⟨Nat.le_of_ble_eq_true rfl, Nat.le_of_ble_eq_true rfl⟩ ⟨by show _ ≤ 601024; omega, by show _ ≤ 7293034; omega⟩ (Nat.le_of_ble_eq_true rfl) ?_
  rintro _ n2 h2 ⟨b2, rfl, hn2, e2, hM2, hF2⟩
  have hS2 := hS1.fr (fun a ha => hF2 a (by omega))
  have hf2 := (hF2 (x + 627) (by omega)).trans hf1
  have hLI : LI x h2 := ⟨_, _, _, _, _, _, _, _, _, hS2, hM2, hI, hf2⟩
  refine V_istore 1851 C dL_law_1849 rfl (by decide) (L' := [(0, _), (1, _), (2, _), (3, _), (4, _), (5, _), (6, _)]) rfl ?_
  refine V_aload_n 1852 C dL_law_1851 rfl rfl ?_
  obtain ⟨⟨sp2, ou2, g2, hm2⟩, -⟩ := id hM2
  refine V_callVR 1855 C dL_law_1852 rfl mX10_thrown tw973 fcX10 hm2.2.1 (c_X10_thrown l G _ _ (x + 619) _ _ _ _ _ hm2.2.1) rfl rfl ⟨Nat.le_of_ble_eq_true rfl, Nat.le_of_ble_eq_true rfl⟩ ⟨by show _ ≤ 601024; omega, by show _ ≤ 7293034; omega⟩ (Nat.le_of_ble_eq_true rfl) ?_
  rintro _ _ _ ⟨rfl, rfl, rfl⟩
  refine V_iload 1857 C dL_law_1855 rfl rfl ?_
  refine V_icmp_eq 1862 1860 C dL_law_1857 (by decide) rfl (fun c1 => ?_) (fun c1 => ?_)
  · skip
    refine V_iload 1864 C dL_law_1862 rfl rfl ?_
    refine V_if_ne 1879 1867 C dL_law_1864 (by decide) rfl (fun c2 => ?_) (fun c2 => ?_)
    · refine V_goto 2094 C dL_law_1879 (by decide) ?_
      refine V_L [0, 1, 2, 3, 4] rfl ?_
      exact KL _ _ _ _ hLI (by omega) (by omega)
    · have hk0 := nz0 (by first | exact kA_le (by omega) (by omega) (by omega) | (split <;> first | omega | (split <;> first | omega | (split <;> omega)))) c2
      refine V_aload_n 1868 C dL_law_1867 rfl rfl ?_
      refine V_iconst 1869 C dL_law_1868 rfl ic0 ?_
      refine V_lald (j := 0) 1870 C dL_law_1869 rfl hf2 rfl (by omega) (by omega) ?_
      refine V_iload 1872 C dL_law_1870 rfl rfl ?_
      refine V_i2l 1873 C dL_law_1872 rfl  ?_
      refine V_lcmp 1874 C dL_law_1873 rfl  ?_
      refine V_if_eq 1879 1877 C dL_law_1874 (by decide) rfl (fun c3 => ?_) (fun c3 => ?_)
      · refine V_goto 2094 C dL_law_1879 (by decide) ?_
        refine V_L [0, 1, 2, 3, 4] rfl ?_
        exact KL _ _ _ _ hLI (by omega) (by omega)
      · exact absurd ((lg_cmp_eq _ _).mpr (by rw [e1 hk0, e2 hk0])) c3
  · exact absurd rfl c1
set_option maxRecDepth 100000 in
set_option maxHeartbeats 4000000 in
theorem lc_simulate {p : Program} {l : Launch} {e : Env} {s : State} {m : MethodId} {args : Array Value} {below : List Frame} {meth : Method} {c : Code} {Q : State → Prop} {G : GT} {rt : Option FieldType} (hl : l.stackTraces = false) (C : Cx p s m args meth c cL_law 7 RL rt G) {b LL : Nat} {xs : Nat → Int32} (hX : va_X b LL xs s s.heap) (hb : b < s.heap.size ∧ ¬ rg G b) (hLL : LL ≤ 2560) {x n cells slots i : Nat} {h : AH} (hi : i + 5 ≤ LL) (hc : cells + 4 ≤ 601024) (hs : slots + 24 ≤ 7293034) (hL0 : LI x h) (KL : ∀ (n1 : Nat) (h1 : AH) (cells1 slots1 : Nat), LI x h1 → cells1 ≤ cells + 4 → slots1 ≤ slots + 24 → V p l e room_1 s m args below meth c Q G 7 cells1 slots1 n1 h1 2094 (LCL b x i) []) : V p l e room_1 s m args below meth c Q G 7 cells slots n h 1882 (LCL b x i) [] := by
  obtain ⟨y, k, D, S, sv, N, T, rf, f, hS, hM, hI, hof⟩ := hL0
  refine V_aload_n 1883 C dL_law_1882 rfl rfl ?_
  refine V_aload_n 1884 C dL_law_1883 rfl rfl ?_
  refine V_iload 1886 C dL_law_1884 rfl rfl ?_
  refine V_iconst 1887 C dL_law_1886 rfl ic1 ?_
  refine V_iaddN 1888 C dL_law_1887 rfl  ?_
  refine V_sld (j := i + 1) 1889 C hX hb dL_law_1888 rfl rfl (by omega) (by omega) ?_
  refine V_i2l 1890 C dL_law_1889 rfl  ?_
  refine V_bipush 1892 C dL_law_1890 rfl bip32 ?_
  refine V_lshl 1893 C dL_law_1892 rfl  ?_
  refine V_aload_n 1894 C dL_law_1893 rfl rfl ?_
  refine V_iload 1896 C dL_law_1894 rfl rfl ?_
  refine V_iconst 1897 C dL_law_1896 rfl ic2 ?_
  refine V_iaddN 1898 C dL_law_1897 rfl  ?_
  refine V_sld (j := i + 2) 1899 C hX hb dL_law_1898 rfl rfl (by omega) (by omega) ?_
  refine V_i2l 1900 C dL_law_1899 rfl  ?_
  refine V_ldc2 1903 C dL_law_1900 rfl tw1329 ?_
  refine V_land 1904 C dL_law_1903 rfl  ?_
  refine V_lor 1905 C dL_law_1904 rfl  ?_
  refine V_aload_n 1906 C dL_law_1905 rfl rfl ?_
  refine V_iload 1908 C dL_law_1906 rfl rfl ?_
  refine V_iconst 1909 C dL_law_1908 rfl ic3 ?_
  refine V_iaddN 1910 C dL_law_1909 rfl  ?_
  refine V_sld (j := i + 3) 1911 C hX hb dL_law_1910 rfl rfl (by omega) (by omega) ?_
  refine V_aload_n 1912 C dL_law_1911 rfl rfl ?_
  refine V_callSWR 1915 C dL_law_1912 rfl mL_simulate tw894 (c_L_simulate l G _ _ hl x y k D S sv N T hS hI _ _ (x + 627) f hof (by omega)) rfl rfl ⟨Nat.le_of_ble_eq_true rfl, Nat.le_of_ble_eq_true rfl⟩ ⟨by show _ ≤ 601024; omega, by show _ ≤ 7293034; omega⟩ (Nat.le_of_ble_eq_true rfl) ?_
  rintro _ n1 h1 ⟨rfl, hS1, ⟨f1, hf1, e1⟩, hF1⟩
  have hM1 := hM.fr (fun a g1 g2 => hF1 a (by omega) (by omega))
  refine V_istore 1917 C dL_law_1915 rfl (by decide) (L' := [(0, _), (1, _), (2, _), (3, _), (4, _), (5, _)]) rfl ?_
  refine V_aload_n 1918 C dL_law_1917 rfl rfl ?_
  refine V_aload_n 1919 C dL_law_1918 rfl rfl ?_
  refine V_iload 1921 C dL_law_1919 rfl rfl ?_
  refine V_iconst 1922 C dL_law_1921 rfl ic1 ?_
  refine V_iaddN 1923 C dL_law_1922 rfl  ?_
  refine V_sld (j := i + 1) 1924 C hX hb dL_law_1923 rfl rfl (by omega) (by omega) ?_
  refine V_i2l 1925 C dL_law_1924 rfl  ?_
  refine V_bipush 1927 C dL_law_1925 rfl bip32 ?_
  refine V_lshl 1928 C dL_law_1927 rfl  ?_
  refine V_aload_n 1929 C dL_law_1928 rfl rfl ?_
  refine V_iload 1931 C dL_law_1929 rfl rfl ?_
  refine V_iconst 1932 C dL_law_1931 rfl ic2 ?_
  refine V_iaddN 1933 C dL_law_1932 rfl  ?_
  refine V_sld (j := i + 2) 1934 C hX hb dL_law_1933 rfl rfl (by omega) (by omega) ?_
  refine V_i2l 1935 C dL_law_1934 rfl  ?_
  refine V_ldc2 1938 C dL_law_1935 rfl tw1329 ?_
  refine V_land 1939 C dL_law_1938 rfl  ?_
  refine V_lor 1940 C dL_law_1939 rfl  ?_
  refine V_aload_n 1941 C dL_law_1940 rfl rfl ?_
  refine V_iload 1943 C dL_law_1941 rfl rfl ?_
  refine V_iconst 1944 C dL_law_1943 rfl ic3 ?_
  refine V_iaddN 1945 C dL_law_1944 rfl  ?_
  refine V_sld (j := i + 3) 1946 C hX hb dL_law_1945 rfl rfl (by omega) (by omega) ?_
  obtain ⟨⟨sp1, ou1, g1, hm1⟩, -⟩ := id hM1
  refine V_callVR 1949 C dL_law_1946 rfl mX10_simulate tw1305 fcX10 hm1.2.1 (c_X10_simulate l G _ _ (x + 619) rf y k D S sv N T hM1 hI _ _) rfl rfl ⟨Nat.le_of_ble_eq_true rfl, Nat.le_of_ble_eq_true rfl⟩ ⟨by show _ ≤ 601024; omega, by show _ ≤ 7293034; omega⟩ (Nat.le_of_ble_eq_true rfl) ?_
  rintro _ n2 h2 ⟨b2, rfl, hn2, e2, hM2, hF2⟩
  have hS2 := hS1.fr (fun a ha => hF2 a (by omega))
  have hf2 := (hF2 (x + 627) (by omega)).trans hf1
  have hLI : LI x h2 := ⟨_, _, _, _, _, _, _, _, _, hS2, hM2, hI, hf2⟩
  refine V_istore 1951 C dL_law_1949 rfl (by decide) (L' := [(0, _), (1, _), (2, _), (3, _), (4, _), (5, _), (6, _)]) rfl ?_
  refine V_aload_n 1952 C dL_law_1951 rfl rfl ?_
  obtain ⟨⟨sp2, ou2, g2, hm2⟩, -⟩ := id hM2
  refine V_callVR 1955 C dL_law_1952 rfl mX10_thrown tw973 fcX10 hm2.2.1 (c_X10_thrown l G _ _ (x + 619) _ _ _ _ _ hm2.2.1) rfl rfl ⟨Nat.le_of_ble_eq_true rfl, Nat.le_of_ble_eq_true rfl⟩ ⟨by show _ ≤ 601024; omega, by show _ ≤ 7293034; omega⟩ (Nat.le_of_ble_eq_true rfl) ?_
  rintro _ _ _ ⟨rfl, rfl, rfl⟩
  refine V_iload 1957 C dL_law_1955 rfl rfl ?_
  refine V_icmp_eq 1962 1960 C dL_law_1957 (by decide) rfl (fun c1 => ?_) (fun c1 => ?_)
  · skip
    refine V_iload 1964 C dL_law_1962 rfl rfl ?_
    refine V_if_ne 1979 1967 C dL_law_1964 (by decide) rfl (fun c2 => ?_) (fun c2 => ?_)
    · refine V_goto 2094 C dL_law_1979 (by decide) ?_
      refine V_L [0, 1, 2, 3, 4] rfl ?_
      exact KL _ _ _ _ hLI (by omega) (by omega)
    · have hk0 := nz0 (by first | exact kA_le (by omega) (by omega) (by omega) | (split <;> first | omega | (split <;> first | omega | (split <;> omega)))) c2
      refine V_aload_n 1968 C dL_law_1967 rfl rfl ?_
      refine V_iconst 1969 C dL_law_1968 rfl ic0 ?_
      refine V_lald (j := 0) 1970 C dL_law_1969 rfl hf2 rfl (by omega) (by omega) ?_
      refine V_iload 1972 C dL_law_1970 rfl rfl ?_
      refine V_i2l 1973 C dL_law_1972 rfl  ?_
      refine V_lcmp 1974 C dL_law_1973 rfl  ?_
      refine V_if_eq 1979 1977 C dL_law_1974 (by decide) rfl (fun c3 => ?_) (fun c3 => ?_)
      · refine V_goto 2094 C dL_law_1979 (by decide) ?_
        refine V_L [0, 1, 2, 3, 4] rfl ?_
        exact KL _ _ _ _ hLI (by omega) (by omega)
      · exact absurd ((lg_cmp_eq _ _).mpr (by rw [e1 hk0, e2 hk0])) c3
  · exact absurd rfl c1
set_option maxRecDepth 100000 in
set_option maxHeartbeats 4000000 in
theorem lc_save {p : Program} {l : Launch} {e : Env} {s : State} {m : MethodId} {args : Array Value} {below : List Frame} {meth : Method} {c : Code} {Q : State → Prop} {G : GT} {rt : Option FieldType} (hl : l.stackTraces = false) (C : Cx p s m args meth c cL_law 7 RL rt G) {b LL : Nat} {xs : Nat → Int32} (hX : va_X b LL xs s s.heap) (hb : b < s.heap.size ∧ ¬ rg G b) (hLL : LL ≤ 2560) {x n cells slots i : Nat} {h : AH} (hi : i + 5 ≤ LL) (hc : cells + 4 ≤ 601024) (hs : slots + 24 ≤ 7293034) (hL0 : LI x h) (KL : ∀ (n1 : Nat) (h1 : AH) (cells1 slots1 : Nat), LI x h1 → cells1 ≤ cells + 4 → slots1 ≤ slots + 24 → V p l e room_1 s m args below meth c Q G 7 cells1 slots1 n1 h1 2094 (LCL b x i) []) : V p l e room_1 s m args below meth c Q G 7 cells slots n h 1982 (LCL b x i) [] := by
  obtain ⟨y, k, D, S, sv, N, T, rf, f, hS, hM, hI, hof⟩ := hL0
  refine V_aload_n 1983 C dL_law_1982 rfl rfl ?_
  refine V_aload_n 1984 C dL_law_1983 rfl rfl ?_
  refine V_iload 1986 C dL_law_1984 rfl rfl ?_
  refine V_iconst 1987 C dL_law_1986 rfl ic1 ?_
  refine V_iaddN 1988 C dL_law_1987 rfl  ?_
  refine V_sld (j := i + 1) 1989 C hX hb dL_law_1988 rfl rfl (by omega) (by omega) ?_
  refine V_aload_n 1990 C dL_law_1989 rfl rfl ?_
  refine V_callSWR 1993 C dL_law_1990 rfl mL_save tw912 (c_L_save l G _ _ hl x y k D S sv N T hS hI _ (x + 627) f hof (by omega)) rfl rfl ⟨Nat.le_of_ble_eq_true rfl, Nat.le_of_ble_eq_true rfl⟩ ⟨by show _ ≤ 601024; omega, by show _ ≤ 7293034; omega⟩ (Nat.le_of_ble_eq_true rfl) ?_
  rintro _ n1 h1 ⟨rfl, hS1, ⟨f1, hf1, e1⟩, hF1⟩
  have hM1 := hM.fr (fun a g1 g2 => hF1 a (by omega) (by omega))
  refine V_istore 1995 C dL_law_1993 rfl (by decide) (L' := [(0, _), (1, _), (2, _), (3, _), (4, _), (5, _)]) rfl ?_
  refine V_aload_n 1996 C dL_law_1995 rfl rfl ?_
  refine V_aload_n 1997 C dL_law_1996 rfl rfl ?_
  refine V_iload 1999 C dL_law_1997 rfl rfl ?_
  refine V_iconst 2000 C dL_law_1999 rfl ic1 ?_
  refine V_iaddN 2001 C dL_law_2000 rfl  ?_
  refine V_sld (j := i + 1) 2002 C hX hb dL_law_2001 rfl rfl (by omega) (by omega) ?_
  obtain ⟨⟨sp1, ou1, g1, hm1⟩, -⟩ := id hM1
  refine V_callVR 2005 C dL_law_2002 rfl mX10_save tw1321 fcX10 hm1.2.1 (c_X10_save l G _ _ (x + 619) rf y k D S sv N T hM1 hI _) rfl rfl ⟨Nat.le_of_ble_eq_true rfl, Nat.le_of_ble_eq_true rfl⟩ ⟨by show _ ≤ 601024; omega, by show _ ≤ 7293034; omega⟩ (Nat.le_of_ble_eq_true rfl) ?_
  rintro _ n2 h2 ⟨b2, rfl, hn2, e2, hM2, hF2⟩
  have hS2 := hS1.fr (fun a ha => hF2 a (by omega))
  have hf2 := (hF2 (x + 627) (by omega)).trans hf1
  have hLI : LI x h2 := ⟨_, _, _, _, _, _, _, _, _, hS2, hM2, SI_save hI, hf2⟩
  refine V_istore 2007 C dL_law_2005 rfl (by decide) (L' := [(0, _), (1, _), (2, _), (3, _), (4, _), (5, _), (6, _)]) rfl ?_
  refine V_aload_n 2008 C dL_law_2007 rfl rfl ?_
  obtain ⟨⟨sp2, ou2, g2, hm2⟩, -⟩ := id hM2
  refine V_callVR 2011 C dL_law_2008 rfl mX10_thrown tw973 fcX10 hm2.2.1 (c_X10_thrown l G _ _ (x + 619) _ _ _ _ _ hm2.2.1) rfl rfl ⟨Nat.le_of_ble_eq_true rfl, Nat.le_of_ble_eq_true rfl⟩ ⟨by show _ ≤ 601024; omega, by show _ ≤ 7293034; omega⟩ (Nat.le_of_ble_eq_true rfl) ?_
  rintro _ _ _ ⟨rfl, rfl, rfl⟩
  refine V_iload 2013 C dL_law_2011 rfl rfl ?_
  refine V_icmp_eq 2018 2016 C dL_law_2013 (by decide) rfl (fun c1 => ?_) (fun c1 => ?_)
  · skip
    refine V_iload 2020 C dL_law_2018 rfl rfl ?_
    refine V_if_ne 2035 2023 C dL_law_2020 (by decide) rfl (fun c2 => ?_) (fun c2 => ?_)
    · refine V_goto 2094 C dL_law_2035 (by decide) ?_
      refine V_L [0, 1, 2, 3, 4] rfl ?_
      exact KL _ _ _ _ hLI (by omega) (by omega)
    · have hk0 := nz0 (by first | exact kA_le (by omega) (by omega) (by omega) | (split <;> first | omega | (split <;> first | omega | (split <;> omega)))) c2
      refine V_aload_n 2024 C dL_law_2023 rfl rfl ?_
      refine V_iconst 2025 C dL_law_2024 rfl ic0 ?_
      refine V_lald (j := 0) 2026 C dL_law_2025 rfl hf2 rfl (by omega) (by omega) ?_
      refine V_iload 2028 C dL_law_2026 rfl rfl ?_
      refine V_i2l 2029 C dL_law_2028 rfl  ?_
      refine V_lcmp 2030 C dL_law_2029 rfl  ?_
      refine V_if_eq 2035 2033 C dL_law_2030 (by decide) rfl (fun c3 => ?_) (fun c3 => ?_)
      · refine V_goto 2094 C dL_law_2035 (by decide) ?_
        refine V_L [0, 1, 2, 3, 4] rfl ?_
        exact KL _ _ _ _ hLI (by omega) (by omega)
      · exact absurd ((lg_cmp_eq _ _).mpr (by rw [e1 hk0, e2 hk0])) c3
  · exact absurd rfl c1
set_option maxRecDepth 100000 in
set_option maxHeartbeats 4000000 in
theorem lc_restore {p : Program} {l : Launch} {e : Env} {s : State} {m : MethodId} {args : Array Value} {below : List Frame} {meth : Method} {c : Code} {Q : State → Prop} {G : GT} {rt : Option FieldType} (hl : l.stackTraces = false) (C : Cx p s m args meth c cL_law 7 RL rt G) {b LL : Nat} {xs : Nat → Int32} (hX : va_X b LL xs s s.heap) (hb : b < s.heap.size ∧ ¬ rg G b) (hLL : LL ≤ 2560) {x n cells slots i : Nat} {h : AH} (hi : i + 5 ≤ LL) (hc : cells + 4 ≤ 601024) (hs : slots + 24 ≤ 7293034) (hL0 : LI x h) (KL : ∀ (n1 : Nat) (h1 : AH) (cells1 slots1 : Nat), LI x h1 → cells1 ≤ cells + 4 → slots1 ≤ slots + 24 → V p l e room_1 s m args below meth c Q G 7 cells1 slots1 n1 h1 2094 (LCL b x i) []) : V p l e room_1 s m args below meth c Q G 7 cells slots n h 2038 (LCL b x i) [] := by
  obtain ⟨y, k, D, S, sv, N, T, rf, f, hS, hM, hI, hof⟩ := hL0
  refine V_aload_n 2039 C dL_law_2038 rfl rfl ?_
  refine V_aload_n 2040 C dL_law_2039 rfl rfl ?_
  refine V_iload 2042 C dL_law_2040 rfl rfl ?_
  refine V_iconst 2043 C dL_law_2042 rfl ic1 ?_
  refine V_iaddN 2044 C dL_law_2043 rfl  ?_
  refine V_sld (j := i + 1) 2045 C hX hb dL_law_2044 rfl rfl (by omega) (by omega) ?_
  refine V_aload_n 2046 C dL_law_2045 rfl rfl ?_
  refine V_callSWR 2049 C dL_law_2046 rfl mL_restore tw919 (c_L_restore l G _ _ hl x y k D S sv N T hS hI _ (x + 627) f hof (by omega)) rfl rfl ⟨Nat.le_of_ble_eq_true rfl, Nat.le_of_ble_eq_true rfl⟩ ⟨by show _ ≤ 601024; omega, by show _ ≤ 7293034; omega⟩ (Nat.le_of_ble_eq_true rfl) ?_
  rintro _ n1 h1 ⟨rfl, hS1, ⟨f1, hf1, e1⟩, hF1⟩
  have hM1 := hM.fr (fun a g1 g2 => hF1 a (by omega) (by omega))
  refine V_istore 2051 C dL_law_2049 rfl (by decide) (L' := [(0, _), (1, _), (2, _), (3, _), (4, _), (5, _)]) rfl ?_
  refine V_aload_n 2052 C dL_law_2051 rfl rfl ?_
  refine V_aload_n 2053 C dL_law_2052 rfl rfl ?_
  refine V_iload 2055 C dL_law_2053 rfl rfl ?_
  refine V_iconst 2056 C dL_law_2055 rfl ic1 ?_
  refine V_iaddN 2057 C dL_law_2056 rfl  ?_
  refine V_sld (j := i + 1) 2058 C hX hb dL_law_2057 rfl rfl (by omega) (by omega) ?_
  obtain ⟨⟨sp1, ou1, g1, hm1⟩, -⟩ := id hM1
  refine V_callVR 2061 C dL_law_2058 rfl mX10_restore tw1325 fcX10 hm1.2.1 (c_X10_restore l G _ _ (x + 619) rf y k D S sv N T hM1 hI _) rfl rfl ⟨Nat.le_of_ble_eq_true rfl, Nat.le_of_ble_eq_true rfl⟩ ⟨by show _ ≤ 601024; omega, by show _ ≤ 7293034; omega⟩ (Nat.le_of_ble_eq_true rfl) ?_
  rintro _ n2 h2 ⟨b2, rfl, hn2, e2, hM2, hF2⟩
  have hS2 := hS1.fr (fun a ha => hF2 a (by omega))
  have hf2 := (hF2 (x + 627) (by omega)).trans hf1
  have hLI : LI x h2 := ⟨_, _, _, _, _, _, _, _, _, hS2, hM2, SI_restore hI, hf2⟩
  refine V_istore 2063 C dL_law_2061 rfl (by decide) (L' := [(0, _), (1, _), (2, _), (3, _), (4, _), (5, _), (6, _)]) rfl ?_
  refine V_aload_n 2064 C dL_law_2063 rfl rfl ?_
  obtain ⟨⟨sp2, ou2, g2, hm2⟩, -⟩ := id hM2
  refine V_callVR 2067 C dL_law_2064 rfl mX10_thrown tw973 fcX10 hm2.2.1 (c_X10_thrown l G _ _ (x + 619) _ _ _ _ _ hm2.2.1) rfl rfl ⟨Nat.le_of_ble_eq_true rfl, Nat.le_of_ble_eq_true rfl⟩ ⟨by show _ ≤ 601024; omega, by show _ ≤ 7293034; omega⟩ (Nat.le_of_ble_eq_true rfl) ?_
  rintro _ _ _ ⟨rfl, rfl, rfl⟩
  refine V_iload 2069 C dL_law_2067 rfl rfl ?_
  refine V_icmp_eq 2074 2072 C dL_law_2069 (by decide) rfl (fun c1 => ?_) (fun c1 => ?_)
  · skip
    refine V_iload 2076 C dL_law_2074 rfl rfl ?_
    refine V_if_ne 2091 2079 C dL_law_2076 (by decide) rfl (fun c2 => ?_) (fun c2 => ?_)
    · refine V_goto 2094 C dL_law_2091 (by decide) ?_
      refine V_L [0, 1, 2, 3, 4] rfl ?_
      exact KL _ _ _ _ hLI (by omega) (by omega)
    · have hk0 := nz0 (by first | exact kA_le (by omega) (by omega) (by omega) | (split <;> first | omega | (split <;> first | omega | (split <;> omega)))) c2
      refine V_aload_n 2080 C dL_law_2079 rfl rfl ?_
      refine V_iconst 2081 C dL_law_2080 rfl ic0 ?_
      refine V_lald (j := 0) 2082 C dL_law_2081 rfl hf2 rfl (by omega) (by omega) ?_
      refine V_iload 2084 C dL_law_2082 rfl rfl ?_
      refine V_i2l 2085 C dL_law_2084 rfl  ?_
      refine V_lcmp 2086 C dL_law_2085 rfl  ?_
      refine V_if_eq 2091 2089 C dL_law_2086 (by decide) rfl (fun c3 => ?_) (fun c3 => ?_)
      · refine V_goto 2094 C dL_law_2091 (by decide) ?_
        refine V_L [0, 1, 2, 3, 4] rfl ?_
        exact KL _ _ _ _ hLI (by omega) (by omega)
      · exact absurd ((lg_cmp_eq _ _).mpr (by rw [e1 hk0, e2 hk0])) c3
  · exact absurd rfl c1
set_option maxRecDepth 100000 in
set_option maxHeartbeats 4000000 in
theorem lc_clearText {p : Program} {l : Launch} {e : Env} {s : State} {m : MethodId} {args : Array Value} {below : List Frame} {meth : Method} {c : Code} {Q : State → Prop} {G : GT} {rt : Option FieldType} (hl : l.stackTraces = false) (C : Cx p s m args meth c cL_law 7 RL rt G) {b LL : Nat} {xs : Nat → Int32} (hX : va_X b LL xs s s.heap) (hb : b < s.heap.size ∧ ¬ rg G b) (hLL : LL ≤ 2560) {x n cells slots i : Nat} {h : AH} (hi : i + 5 ≤ LL) (hc : cells + 4 ≤ 601024) (hs : slots + 24 ≤ 7293034) (hL0 : LI x h) (KL : ∀ (n1 : Nat) (h1 : AH) (cells1 slots1 : Nat), LI x h1 → cells1 ≤ cells + 4 → slots1 ≤ slots + 24 → V p l e room_1 s m args below meth c Q G 7 cells1 slots1 n1 h1 2094 (LCL b x i) []) : V p l e room_1 s m args below meth c Q G 7 cells slots n h 232 (LCL b x i) [] := by
  obtain ⟨y, k, D, S, sv, N, T, rf, f, hS, hM, hI, hof⟩ := hL0
  refine V_aload_n 233 C dL_law_232 rfl rfl ?_
  refine V_callVR 236 C dL_law_233 rfl mX9_clearText tw251 fcX9 hS.1 (c_X9_clearText l G _ _ hl x y k D S sv N T hS hI) rfl rfl ⟨Nat.le_of_ble_eq_true rfl, Nat.le_of_ble_eq_true rfl⟩ ⟨by show _ ≤ 601024; omega, by show _ ≤ 7293034; omega⟩ (Nat.le_of_ble_eq_true rfl) ?_
  rintro _ n1 h1 ⟨-, rfl, hS1, hF1⟩
  have hM1 := hM.fr (fun a g1 g2 => hF1 a (by omega))
  have hf1 := (hF1 (x + 627) (by omega)).trans hof
  refine V_aload_n 237 C dL_law_236 rfl rfl ?_
  obtain ⟨⟨sp1, ou1, g1, hm1⟩, -⟩ := id hM1
  refine V_callVR 240 C dL_law_237 rfl mX10_clearText tw989 fcX10 hm1.2.1 (c_X10_clearText l G _ _ (x + 619) rf y k D S sv N T hM1 hI) rfl rfl ⟨Nat.le_of_ble_eq_true rfl, Nat.le_of_ble_eq_true rfl⟩ ⟨by show _ ≤ 601024; omega, by show _ ≤ 7293034; omega⟩ (Nat.le_of_ble_eq_true rfl) ?_
  rintro _ n2 h2 ⟨b2, rfl, hn2, e2, hM2, hF2⟩
  have hS2 := hS1.fr (fun a ha => hF2 a (by omega))
  have hf2 := (hF2 (x + 627) (by omega)).trans hf1
  have hLI : LI x h2 := ⟨_, _, _, _, _, _, _, _, _, hS2, hM2, SI_clear hI, hf2⟩
  refine V_icmp_eq 2094 243 C dL_law_240 (by decide) rfl (fun c1 => ?_) (fun c1 => ?_)
  · refine V_L [0, 1, 2, 3, 4] rfl ?_
    exact KL _ _ _ _ hLI (by omega) (by omega)
  · exact absurd (e2 rfl).symm c1
set_option maxRecDepth 100000 in
set_option maxHeartbeats 4000000 in
theorem lc_errorPosition {p : Program} {l : Launch} {e : Env} {s : State} {m : MethodId} {args : Array Value} {below : List Frame} {meth : Method} {c : Code} {Q : State → Prop} {G : GT} {rt : Option FieldType} (hl : l.stackTraces = false) (C : Cx p s m args meth c cL_law 7 RL rt G) {b LL : Nat} {xs : Nat → Int32} (hX : va_X b LL xs s s.heap) (hb : b < s.heap.size ∧ ¬ rg G b) (hLL : LL ≤ 2560) {x n cells slots i : Nat} {h : AH} (hi : i + 5 ≤ LL) (hc : cells + 4 ≤ 601024) (hs : slots + 24 ≤ 7293034) (hL0 : LI x h) (KL : ∀ (n1 : Nat) (h1 : AH) (cells1 slots1 : Nat), LI x h1 → cells1 ≤ cells + 4 → slots1 ≤ slots + 24 → V p l e room_1 s m args below meth c Q G 7 cells1 slots1 n1 h1 2094 (LCL b x i) []) : V p l e room_1 s m args below meth c Q G 7 cells slots n h 245 (LCL b x i) [] := by
  obtain ⟨y, k, D, S, sv, N, T, rf, f, hS, hM, hI, hof⟩ := hL0
  refine V_aload_n 246 C dL_law_245 rfl rfl ?_
  refine V_callVR 249 C dL_law_246 rfl mX9_errorPosition tw259 fcX9 hS.1 (c_X9_errorPosition l G _ _ hl x y k D S sv N T hS hI) rfl rfl ⟨Nat.le_of_ble_eq_true rfl, Nat.le_of_ble_eq_true rfl⟩ ⟨by show _ ≤ 601024; omega, by show _ ≤ 7293034; omega⟩ (Nat.le_of_ble_eq_true rfl) ?_
  rintro _ n1 h1 ⟨-, rfl, hS1, hF1⟩
  have hM1 := hM.fr (fun a g1 g2 => hF1 a (by omega))
  have hf1 := (hF1 (x + 627) (by omega)).trans hof
  refine V_aload_n 250 C dL_law_249 rfl rfl ?_
  obtain ⟨⟨sp1, ou1, g1, hm1⟩, -⟩ := id hM1
  refine V_callVR 253 C dL_law_250 rfl mX10_errorPosition tw993 fcX10 hm1.2.1 (c_X10_errorPosition l G _ _ (x + 619) rf y k D S sv N T hM1 hI) rfl rfl ⟨Nat.le_of_ble_eq_true rfl, Nat.le_of_ble_eq_true rfl⟩ ⟨by show _ ≤ 601024; omega, by show _ ≤ 7293034; omega⟩ (Nat.le_of_ble_eq_true rfl) ?_
  rintro _ n2 h2 ⟨b2, rfl, hn2, e2, hM2, hF2⟩
  have hS2 := hS1.fr (fun a ha => hF2 a (by omega))
  have hf2 := (hF2 (x + 627) (by omega)).trans hf1
  have hLI : LI x h2 := ⟨_, _, _, _, _, _, _, _, _, hS2, hM2, hI, hf2⟩
  refine V_icmp_eq 2094 256 C dL_law_253 (by decide) rfl (fun c1 => ?_) (fun c1 => ?_)
  · refine V_L [0, 1, 2, 3, 4] rfl ?_
    exact KL _ _ _ _ hLI (by omega) (by omega)
  · exact absurd (e2 rfl).symm c1
