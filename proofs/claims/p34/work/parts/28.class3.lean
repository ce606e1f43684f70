/-! THE CLASS: actions (2) -/
theorem dJ6_bitCount_0f7a4_0 : decode cJ6_bitCount_0f7a4 0 = .ok (.iload_n 0, 1) := by decide +kernel
theorem dJ6_bitCount_0f7a4_1 : decode cJ6_bitCount_0f7a4 1 = .ok (.iload_n 0, 1) := by decide +kernel
theorem dJ6_bitCount_0f7a4_2 : decode cJ6_bitCount_0f7a4 2 = .ok (.iconst 1, 1) := by decide +kernel
theorem dJ6_bitCount_0f7a4_3 : decode cJ6_bitCount_0f7a4 3 = .ok (.iushr, 1) := by decide +kernel
theorem dJ6_bitCount_0f7a4_4 : decode cJ6_bitCount_0f7a4 4 = .ok (.ldc_w 265, 3) := by decide +kernel
theorem dJ6_bitCount_0f7a4_7 : decode cJ6_bitCount_0f7a4 7 = .ok (.iand, 1) := by decide +kernel
theorem dJ6_bitCount_0f7a4_8 : decode cJ6_bitCount_0f7a4 8 = .ok (.isub, 1) := by decide +kernel
theorem dJ6_bitCount_0f7a4_9 : decode cJ6_bitCount_0f7a4 9 = .ok (.istore_n 0, 1) := by decide +kernel
theorem dJ6_bitCount_0f7a4_10 : decode cJ6_bitCount_0f7a4 10 = .ok (.iload_n 0, 1) := by decide +kernel
theorem dJ6_bitCount_0f7a4_11 : decode cJ6_bitCount_0f7a4 11 = .ok (.ldc_w 266, 3) := by decide +kernel
theorem dJ6_bitCount_0f7a4_14 : decode cJ6_bitCount_0f7a4 14 = .ok (.iand, 1) := by decide +kernel
theorem dJ6_bitCount_0f7a4_15 : decode cJ6_bitCount_0f7a4 15 = .ok (.iload_n 0, 1) := by decide +kernel
theorem dJ6_bitCount_0f7a4_16 : decode cJ6_bitCount_0f7a4 16 = .ok (.iconst 2, 1) := by decide +kernel
theorem dJ6_bitCount_0f7a4_17 : decode cJ6_bitCount_0f7a4 17 = .ok (.iushr, 1) := by decide +kernel
theorem dJ6_bitCount_0f7a4_18 : decode cJ6_bitCount_0f7a4 18 = .ok (.ldc_w 266, 3) := by decide +kernel
theorem dJ6_bitCount_0f7a4_21 : decode cJ6_bitCount_0f7a4 21 = .ok (.iand, 1) := by decide +kernel
theorem dJ6_bitCount_0f7a4_22 : decode cJ6_bitCount_0f7a4 22 = .ok (.iadd, 1) := by decide +kernel
theorem dJ6_bitCount_0f7a4_23 : decode cJ6_bitCount_0f7a4 23 = .ok (.istore_n 0, 1) := by decide +kernel
theorem dJ6_bitCount_0f7a4_24 : decode cJ6_bitCount_0f7a4 24 = .ok (.iload_n 0, 1) := by decide +kernel
theorem dJ6_bitCount_0f7a4_25 : decode cJ6_bitCount_0f7a4 25 = .ok (.iload_n 0, 1) := by decide +kernel
theorem dJ6_bitCount_0f7a4_26 : decode cJ6_bitCount_0f7a4 26 = .ok (.iconst 4, 1) := by decide +kernel
theorem dJ6_bitCount_0f7a4_27 : decode cJ6_bitCount_0f7a4 27 = .ok (.iushr, 1) := by decide +kernel
theorem dJ6_bitCount_0f7a4_28 : decode cJ6_bitCount_0f7a4 28 = .ok (.iadd, 1) := by decide +kernel
theorem dJ6_bitCount_0f7a4_29 : decode cJ6_bitCount_0f7a4 29 = .ok (.ldc_w 267, 3) := by decide +kernel
theorem dJ6_bitCount_0f7a4_32 : decode cJ6_bitCount_0f7a4 32 = .ok (.iand, 1) := by decide +kernel
theorem dJ6_bitCount_0f7a4_33 : decode cJ6_bitCount_0f7a4 33 = .ok (.istore_n 0, 1) := by decide +kernel
theorem dJ6_bitCount_0f7a4_34 : decode cJ6_bitCount_0f7a4 34 = .ok (.iload_n 0, 1) := by decide +kernel
theorem dJ6_bitCount_0f7a4_35 : decode cJ6_bitCount_0f7a4 35 = .ok (.iload_n 0, 1) := by decide +kernel
theorem dJ6_bitCount_0f7a4_36 : decode cJ6_bitCount_0f7a4 36 = .ok (.bipush 8, 2) := by decide +kernel
theorem dJ6_bitCount_0f7a4_38 : decode cJ6_bitCount_0f7a4 38 = .ok (.iushr, 1) := by decide +kernel
theorem dJ6_bitCount_0f7a4_39 : decode cJ6_bitCount_0f7a4 39 = .ok (.iadd, 1) := by decide +kernel
theorem dJ6_bitCount_0f7a4_40 : decode cJ6_bitCount_0f7a4 40 = .ok (.istore_n 0, 1) := by decide +kernel
theorem dJ6_bitCount_0f7a4_41 : decode cJ6_bitCount_0f7a4 41 = .ok (.iload_n 0, 1) := by decide +kernel
theorem dJ6_bitCount_0f7a4_42 : decode cJ6_bitCount_0f7a4 42 = .ok (.iload_n 0, 1) := by decide +kernel
theorem dJ6_bitCount_0f7a4_43 : decode cJ6_bitCount_0f7a4 43 = .ok (.bipush 16, 2) := by decide +kernel
theorem dJ6_bitCount_0f7a4_45 : decode cJ6_bitCount_0f7a4 45 = .ok (.iushr, 1) := by decide +kernel
theorem dJ6_bitCount_0f7a4_46 : decode cJ6_bitCount_0f7a4 46 = .ok (.iadd, 1) := by decide +kernel
theorem dJ6_bitCount_0f7a4_47 : decode cJ6_bitCount_0f7a4 47 = .ok (.istore_n 0, 1) := by decide +kernel
theorem dJ6_bitCount_0f7a4_48 : decode cJ6_bitCount_0f7a4 48 = .ok (.iload_n 0, 1) := by decide +kernel
theorem dJ6_bitCount_0f7a4_49 : decode cJ6_bitCount_0f7a4 49 = .ok (.bipush 63, 2) := by decide +kernel
theorem dJ6_bitCount_0f7a4_51 : decode cJ6_bitCount_0f7a4 51 = .ok (.iand, 1) := by decide +kernel
theorem dJ6_bitCount_0f7a4_52 : decode cJ6_bitCount_0f7a4 52 = .ok (.ireturn, 1) := by decide +kernel
set_option maxRecDepth 100000 in
set_option maxHeartbeats 4000000 in
theorem c_J6_bitCount_0f7a4 (l : Launch) (G : GT) (n : Nat) (h : AH) (x : Nat) (hx : x < 4096) : Ct l yJ6_bitCount_0f7a4 cJ6_bitCount_0f7a4 1 (some .int) 1 0 0 G n h [.int (nI x)] (Rt (nI (popk 12 x)) n h) := by
  refine Ct_of mJ6_bitCount_0f7a4.1 (Nat.le_of_ble_eq_true rfl) ?_
  intro p e s m args below meth c C hin
  refine V_Le (L' := [(0, .int (nI x))]) rfl ?_
  refine V_iload_n 1 C dJ6_bitCount_0f7a4_0 rfl rfl ?_
  refine V_iload_n 2 C dJ6_bitCount_0f7a4_1 rfl rfl ?_
  refine V_iconst 3 C dJ6_bitCount_0f7a4_2 rfl ic1 ?_
  refine V_iushr 4 C dJ6_bitCount_0f7a4_3 rfl  ?_
  refine V_ldcw 7 C dJ6_bitCount_0f7a4_4 rfl tw457 ?_
  refine V_iand 8 C dJ6_bitCount_0f7a4_7 rfl  ?_
  refine V_isub 9 C dJ6_bitCount_0f7a4_8 rfl  ?_
  refine V_istore_n 10 C dJ6_bitCount_0f7a4_9 rfl (by decide) (L' := [(0, _)]) rfl ?_
  refine V_iload_n 11 C dJ6_bitCount_0f7a4_10 rfl rfl ?_
  refine V_ldcw 14 C dJ6_bitCount_0f7a4_11 rfl tw458 ?_
  refine V_iand 15 C dJ6_bitCount_0f7a4_14 rfl  ?_
  refine V_iload_n 16 C dJ6_bitCount_0f7a4_15 rfl rfl ?_
  refine V_iconst 17 C dJ6_bitCount_0f7a4_16 rfl ic2 ?_
  refine V_iushr 18 C dJ6_bitCount_0f7a4_17 rfl  ?_
  refine V_ldcw 21 C dJ6_bitCount_0f7a4_18 rfl tw458 ?_
  refine V_iand 22 C dJ6_bitCount_0f7a4_21 rfl  ?_
  refine V_iadd 23 C dJ6_bitCount_0f7a4_22 rfl  ?_
  refine V_istore_n 24 C dJ6_bitCount_0f7a4_23 rfl (by decide) (L' := [(0, _)]) rfl ?_
  refine V_iload_n 25 C dJ6_bitCount_0f7a4_24 rfl rfl ?_
  refine V_iload_n 26 C dJ6_bitCount_0f7a4_25 rfl rfl ?_
  refine V_iconst 27 C dJ6_bitCount_0f7a4_26 rfl ic4 ?_
  refine V_iushr 28 C dJ6_bitCount_0f7a4_27 rfl  ?_
  refine V_iadd 29 C dJ6_bitCount_0f7a4_28 rfl  ?_
  refine V_ldcw 32 C dJ6_bitCount_0f7a4_29 rfl tw459 ?_
  refine V_iand 33 C dJ6_bitCount_0f7a4_32 rfl  ?_
  refine V_istore_n 34 C dJ6_bitCount_0f7a4_33 rfl (by decide) (L' := [(0, _)]) rfl ?_
  refine V_iload_n 35 C dJ6_bitCount_0f7a4_34 rfl rfl ?_
  refine V_iload_n 36 C dJ6_bitCount_0f7a4_35 rfl rfl ?_
  refine V_bipush 38 C dJ6_bitCount_0f7a4_36 rfl bip8 ?_
  refine V_iushr 39 C dJ6_bitCount_0f7a4_38 rfl  ?_
  refine V_iadd 40 C dJ6_bitCount_0f7a4_39 rfl  ?_
  refine V_istore_n 41 C dJ6_bitCount_0f7a4_40 rfl (by decide) (L' := [(0, _)]) rfl ?_
  refine V_iload_n 42 C dJ6_bitCount_0f7a4_41 rfl rfl ?_
  refine V_iload_n 43 C dJ6_bitCount_0f7a4_42 rfl rfl ?_
  refine V_bipush 45 C dJ6_bitCount_0f7a4_43 rfl bip16 ?_
  refine V_iushr 46 C dJ6_bitCount_0f7a4_45 rfl  ?_
  refine V_iadd 47 C dJ6_bitCount_0f7a4_46 rfl  ?_
  refine V_istore_n 48 C dJ6_bitCount_0f7a4_47 rfl (by decide) (L' := [(0, _)]) rfl ?_
  refine V_iload_n 49 C dJ6_bitCount_0f7a4_48 rfl rfl ?_
  refine V_bipush 51 C dJ6_bitCount_0f7a4_49 rfl bip63 ?_
  refine V_iand 52 C dJ6_bitCount_0f7a4_51 rfl  ?_
  refine V_ireturn C dJ6_bitCount_0f7a4_52 rfl rfl (by omega) (by omega) ?_
  exact (Rt_mk32 (show bcI (nI x) = nI (popk 12 x) from bcI_of hx))

theorem dX1_handOver_0 : decode cX1_handOver 0 = .ok (.aload_n 0, 1) := by decide +kernel
theorem dX1_handOver_1 : decode cX1_handOver 1 = .ok (.iload_n 1, 1) := by decide +kernel
theorem dX1_handOver_2 : decode cX1_handOver 2 = .ok (.invokevirtual 148, 3) := by decide +kernel
theorem dX1_handOver_5 : decode cX1_handOver 5 = .ok (.ifCond .eq 11, 3) := by decide +kernel
theorem dX1_handOver_8 : decode cX1_handOver 8 = .ok (.aload_n 0, 1) := by decide +kernel
theorem dX1_handOver_9 : decode cX1_handOver 9 = .ok (.iload_n 2, 1) := by decide +kernel
theorem dX1_handOver_10 : decode cX1_handOver 10 = .ok (.invokevirtual 151, 3) := by decide +kernel
theorem dX1_handOver_13 : decode cX1_handOver 13 = .ok (.ifCond .ne 6, 3) := by decide +kernel
theorem dX1_handOver_16 : decode cX1_handOver 16 = .ok (.bipush (-2), 2) := by decide +kernel
theorem dX1_handOver_18 : decode cX1_handOver 18 = .ok (.ireturn, 1) := by decide +kernel
theorem dX1_handOver_19 : decode cX1_handOver 19 = .ok (.aload_n 0, 1) := by decide +kernel
theorem dX1_handOver_20 : decode cX1_handOver 20 = .ok (.getfield 20, 3) := by decide +kernel
theorem dX1_handOver_23 : decode cX1_handOver 23 = .ok (.iload_n 1, 1) := by decide +kernel
theorem dX1_handOver_24 : decode cX1_handOver 24 = .ok (.aaload, 1) := by decide +kernel
theorem dX1_handOver_25 : decode cX1_handOver 25 = .ok (.astore_n 3, 1) := by decide +kernel
theorem dX1_handOver_26 : decode cX1_handOver 26 = .ok (.aload_n 0, 1) := by decide +kernel
theorem dX1_handOver_27 : decode cX1_handOver 27 = .ok (.getfield 31, 3) := by decide +kernel
theorem dX1_handOver_30 : decode cX1_handOver 30 = .ok (.iload_n 2, 1) := by decide +kernel
theorem dX1_handOver_31 : decode cX1_handOver 31 = .ok (.aaload, 1) := by decide +kernel
theorem dX1_handOver_32 : decode cX1_handOver 32 = .ok (.astore 4, 2) := by decide +kernel
theorem dX1_handOver_34 : decode cX1_handOver 34 = .ok (.aload_n 0, 1) := by decide +kernel
theorem dX1_handOver_35 : decode cX1_handOver 35 = .ok (.iload_n 1, 1) := by decide +kernel
theorem dX1_handOver_36 : decode cX1_handOver 36 = .ok (.invokevirtual 154, 3) := by decide +kernel
theorem dX1_handOver_39 : decode cX1_handOver 39 = .ok (.invokestatic 157, 3) := by decide +kernel
theorem dX1_handOver_42 : decode cX1_handOver 42 = .ok (.istore 5, 2) := by decide +kernel
theorem dX1_handOver_44 : decode cX1_handOver 44 = .ok (.aload_n 3, 1) := by decide +kernel
theorem dX1_handOver_45 : decode cX1_handOver 45 = .ok (.getfield 74, 3) := by decide +kernel
theorem dX1_handOver_48 : decode cX1_handOver 48 = .ok (.ifCond .gt 30, 3) := by decide +kernel
theorem dX1_handOver_51 : decode cX1_handOver 51 = .ok (.aload_n 0, 1) := by decide +kernel
theorem dX1_handOver_52 : decode cX1_handOver 52 = .ok (.iload_n 2, 1) := by decide +kernel
theorem dX1_handOver_53 : decode cX1_handOver 53 = .ok (.invokevirtual 108, 3) := by decide +kernel
theorem dX1_handOver_56 : decode cX1_handOver 56 = .ok (.aload_n 3, 1) := by decide +kernel
theorem dX1_handOver_57 : decode cX1_handOver 57 = .ok (.getfield 77, 3) := by decide +kernel
theorem dX1_handOver_60 : decode cX1_handOver 60 = .ok (.if_icmp .ne 18, 3) := by decide +kernel
theorem dX1_handOver_63 : decode cX1_handOver 63 = .ok (.aload 4, 2) := by decide +kernel
theorem dX1_handOver_65 : decode cX1_handOver 65 = .ok (.getfield 68, 3) := by decide +kernel
theorem dX1_handOver_68 : decode cX1_handOver 68 = .ok (.iload_n 1, 1) := by decide +kernel
theorem dX1_handOver_69 : decode cX1_handOver 69 = .ok (.if_icmp .eq 9, 3) := by decide +kernel
theorem dX1_handOver_72 : decode cX1_handOver 72 = .ok (.iload 5, 2) := by decide +kernel
theorem dX1_handOver_74 : decode cX1_handOver 74 = .ok (.iconst 3, 1) := by decide +kernel
theorem dX1_handOver_75 : decode cX1_handOver 75 = .ok (.if_icmp .lt 6, 3) := by decide +kernel
theorem dX1_handOver_78 : decode cX1_handOver 78 = .ok (.bipush (-4), 2) := by decide +kernel
theorem dX1_handOver_80 : decode cX1_handOver 80 = .ok (.ireturn, 1) := by decide +kernel
theorem dX1_handOver_81 : decode cX1_handOver 81 = .ok (.aload 4, 2) := by decide +kernel
theorem dX1_handOver_83 : decode cX1_handOver 83 = .ok (.iload_n 1, 1) := by decide +kernel
theorem dX1_handOver_84 : decode cX1_handOver 84 = .ok (.putfield 68, 3) := by decide +kernel
theorem dX1_handOver_87 : decode cX1_handOver 87 = .ok (.iload 5, 2) := by decide +kernel
theorem dX1_handOver_89 : decode cX1_handOver 89 = .ok (.iconst 1, 1) := by decide +kernel
theorem dX1_handOver_90 : decode cX1_handOver 90 = .ok (.iadd, 1) := by decide +kernel
theorem dX1_handOver_91 : decode cX1_handOver 91 = .ok (.ireturn, 1) := by decide +kernel
set_option maxRecDepth 100000 in
set_option maxHeartbeats 4000000 in
theorem c_X1_handOver (l : Launch) (G : GT) (n : Nat) (h : AH) (q : Nat) (y : Nat → Nat) (hC : cty q y h) (hI : Iv y) (r9 s9 : Int32) : Ct l yX1_handOver cX1_handOver 6 (some .int) 2 0 0 G n h [.ref q, .int r9, .int s9] (AP q n h (aTk y r9 s9)) := by
  obtain ⟨⟨i0, i1, i2, i3, i4⟩, iR, iU, iM, iS⟩ := id hI
  obtain ⟨hob, ⟨fR, hfR, hR⟩, ⟨fU, hfU, hU⟩, ⟨fS, hfS, hS⟩, ⟨fM, hfM, hM⟩, -, -, -⟩ := id hC
  refine Ct_of mX1_handOver.1 (Nat.le_of_ble_eq_true rfl) ?_
  intro p e s m args below meth c C hin
  refine V_Le (L' := [(0, .ref q), (1, .int r9), (2, .int s9)]) rfl ?_
  refine V_aload_n 1 C dX1_handOver_0 rfl rfl ?_
  refine V_iload_n 2 C dX1_handOver_1 rfl rfl ?_
  refine V_callV 5 C dX1_handOver_2 rfl mX1_hasRunner tw442 fcX1 hob (c_X1_hasRunner l G _ _ q y hC hI r9) rfl rfl (by decide) ⟨by omega, by omega⟩ (Nat.le_of_ble_eq_true rfl) ?_
  rintro _ _ _ ⟨rfl, rfl, rfl⟩
  refine V_if_eqB 16 8 C dX1_handOver_5 (by decide) rfl  (fun c5 => ?_) (fun c5 => ?_)
  · refine V_bipush 18 C dX1_handOver_16 rfl bipm2 ?_
    refine V_ireturn C dX1_handOver_18 rfl rfl (by omega) (by omega) ?_
    exact (AP_mk (by unfold aTk; rw [if_neg (fun e => by first | exact c5 e.1 | exact c13 e.2)]; rfl) hC FR.rf)
  · refine V_aload_n 9 C dX1_handOver_8 rfl rfl ?_
    refine V_iload_n 10 C dX1_handOver_9 rfl rfl ?_
    refine V_callV 13 C dX1_handOver_10 rfl mX1_hasSheet tw446 fcX1 hob (c_X1_hasSheet l G _ _ q y hC hI s9) rfl rfl (by decide) ⟨by omega, by omega⟩ (Nat.le_of_ble_eq_true rfl) ?_
    rintro _ _ _ ⟨rfl, rfl, rfl⟩
    refine V_if_neB 19 16 C dX1_handOver_13 (by decide) rfl  (fun c13 => ?_) (fun c13 => ?_)
    · refine V_aload_n 20 C dX1_handOver_19 rfl rfl ?_
      have cc := And.intro c5 c13
      obtain ⟨r, hr, rfl⟩ := ix_of c5 (by omega)
      obtain ⟨j9, hs, rfl⟩ := ix_of c13 (by omega)
      have zr : z (nI r) = r := zn (by omega)
      have zs : z (nI j9) = j9 := zn (by omega)
      obtain ⟨u0, u1⟩ := iU r hr
      obtain ⟨s0, s1, s2, s3, s4, s5⟩ := iS j9 hs
      unfold NO at s4
      have hru := cty_ru hC hr i2
      have hsh := cty_sh hC hs i4
      have hcb := cbk_lt y r (y 4)
      have hp12 : 2 ^ y 4 ≤ 2 ^ 12 := Nat.pow_le_pow_right (by decide) i4
      have hpc : popk 12 (cbk y r (y 4)) = car y r := popk_cbk y r (y 4) i4
      have hcl : car y r ≤ y 4 := cark_le y r (y 4)
      have hpo := pof_b hI hs
      unfold NO at hpo
      refine V_get (k := 8) 23 C dX1_handOver_20 rfl fcX1 tw140 (by decide) rfl hob rfl ?_
      refine V_iload_n 24 C dX1_handOver_23 rfl rfl ?_
      refine V_aald (j := r) 25 C dX1_handOver_24 rfl hfU rfl rfl (by omega) (by omega) (hU _ (by omega)) ?_
      refine V_astore_n 26 C dX1_handOver_25 rfl (by decide) (L' := [(0, _), (1, _), (2, _), (3, _)]) rfl ?_
      refine V_aload_n 27 C dX1_handOver_26 rfl rfl ?_
      refine V_get (k := 10) 30 C dX1_handOver_27 rfl fcX1 tw145 (by decide) rfl hob rfl ?_
      refine V_iload_n 31 C dX1_handOver_30 rfl rfl ?_
      refine V_aald (j := j9) 32 C dX1_handOver_31 rfl hfS rfl rfl (by omega) (by omega) (hS _ (by omega)) ?_
      refine V_astore 34 C dX1_handOver_32 rfl (by decide) (L' := [(0, _), (1, _), (2, _), (3, _), (4, _)]) rfl ?_
      refine V_aload_n 35 C dX1_handOver_34 rfl rfl ?_
      refine V_iload_n 36 C dX1_handOver_35 rfl rfl ?_
      refine V_callV 39 C dX1_handOver_36 rfl mX1_carriedBy tw450 fcX1 hob (c_X1_carriedBy l G _ _ q y hC hI r (by omega)) rfl rfl (by decide) ⟨by omega, by omega⟩ (Nat.le_of_ble_eq_true rfl) ?_
      rintro _ _ _ ⟨rfl, rfl, rfl⟩
      refine V_callS 42 C dX1_handOver_39 rfl mJ6_bitCount_0f7a4 tw454 (c_J6_bitCount_0f7a4 l G _ _ _ (by omega)) rfl rfl (by decide) ⟨by omega, by omega⟩ (Nat.le_of_ble_eq_true rfl) ?_
      rintro _ _ _ ⟨rfl, rfl, rfl⟩
      rw [hpc]
      refine V_istore 44 C dX1_handOver_42 rfl (by decide) (L' := [(0, _), (1, _), (2, _), (3, _), (4, _), (5, _)]) rfl ?_
      refine V_aload_n 45 C dX1_handOver_44 rfl rfl ?_
      refine V_get (k := 1) 48 C dX1_handOver_45 rfl fcX6 tw71 (by decide) rfl hru rfl ?_
      refine V_if_gtN 78 51 C dX1_handOver_48 (by decide) rfl (by omega) (fun c48 => ?_) (fun c48 => ?_)
      · have ht : ¬ (¬ tof y r = NO ∧ pof y j9 = tof y r ∧ ¬ y (58 + 6 * j9 + 4) = r ∧ car y r < 3) := fun e => e.1 (by unfold tof; rw [if_neg (by omega)])
        refine V_bipush 80 C dX1_handOver_78 rfl bipm4 ?_
        refine V_ireturn C dX1_handOver_80 rfl rfl (by omega) (by omega) ?_
        exact (AP_mk (by unfold aTk; rw [if_pos cc, zr, zs, if_neg ht]; rfl) hC FR.rf)
      · have ht0 : tof y r = y (37 + 3 * r) := by unfold tof; rw [if_pos c48]
        refine V_aload_n 52 C dX1_handOver_51 rfl rfl ?_
        refine V_iload_n 53 C dX1_handOver_52 rfl rfl ?_
        refine V_callV 56 C dX1_handOver_53 rfl mX1_placeOf tw460 fcX1 hob (c_X1_placeOf l G _ _ q y hC hI j9 hs) rfl rfl (by decide) ⟨by omega, by omega⟩ (Nat.le_of_ble_eq_true rfl) ?_
        rintro _ _ _ ⟨rfl, rfl, rfl⟩
        refine V_aload_n 57 C dX1_handOver_56 rfl rfl ?_
        refine V_get (k := 0) 60 C dX1_handOver_57 rfl fcX6 tw68 (by decide) rfl hru rfl ?_
        refine V_icmp_neN 78 63 C dX1_handOver_60 (by decide) rfl (by omega) (by omega) (fun c60 => ?_) (fun c60 => ?_)
        · have ht : ¬ (¬ tof y r = NO ∧ pof y j9 = tof y r ∧ ¬ y (58 + 6 * j9 + 4) = r ∧ car y r < 3) := fun e => c60 (by rw [← ht0]; exact e.2.1)
          refine V_bipush 80 C dX1_handOver_78 rfl bipm4 ?_
          refine V_ireturn C dX1_handOver_80 rfl rfl (by omega) (by omega) ?_
          exact (AP_mk (by unfold aTk; rw [if_pos cc, zr, zs, if_neg ht]; rfl) hC FR.rf)
        · refine V_aload 65 C dX1_handOver_63 rfl rfl ?_
          refine V_get (k := 4) 68 C dX1_handOver_65 rfl fcX8 tw103 (by decide) rfl hsh rfl ?_
          refine V_iload_n 69 C dX1_handOver_68 rfl rfl ?_
          refine V_icmp_eqN 78 72 C dX1_handOver_69 (by decide) rfl (by omega) (by omega) (fun c69 => ?_) (fun c69 => ?_)
          · have ht : ¬ (¬ tof y r = NO ∧ pof y j9 = tof y r ∧ ¬ y (58 + 6 * j9 + 4) = r ∧ car y r < 3) := fun e => e.2.2.1 c69
            refine V_bipush 80 C dX1_handOver_78 rfl bipm4 ?_
            refine V_ireturn C dX1_handOver_80 rfl rfl (by omega) (by omega) ?_
            exact (AP_mk (by unfold aTk; rw [if_pos cc, zr, zs, if_neg ht]; rfl) hC FR.rf)
          · refine V_iload 74 C dX1_handOver_72 rfl rfl ?_
            refine V_iconst 75 C dX1_handOver_74 rfl ic3 ?_
            refine V_icmp_ltN 81 78 C dX1_handOver_75 (by decide) rfl (by omega) (by omega) (fun c75 => ?_) (fun c75 => ?_)
            · have ht : ¬ tof y r = NO ∧ pof y j9 = tof y r ∧ ¬ y (58 + 6 * j9 + 4) = r ∧ car y r < 3 := ⟨by rw [ht0]; unfold NO; omega, by rw [ht0]; exact c60, c69, c75⟩
              refine V_aload 83 C dX1_handOver_81 rfl rfl ?_
              refine V_iload_n 84 C dX1_handOver_83 rfl rfl ?_
              refine V_put (fs' := [_, _, _, _, _, _]) (k := 4) 87 C dX1_handOver_84 rfl fcX8 tw103 (by decide) rfl rfl hsh rfl rfl (Nat.le_of_ble_eq_true rfl) rfl ?_
              refine V_iload 89 C dX1_handOver_87 rfl rfl ?_
              refine V_iconst 90 C dX1_handOver_89 rfl ic1 ?_
              refine V_iaddN 91 C dX1_handOver_90 rfl  ?_
              refine V_ireturn C dX1_handOver_91 rfl rfl (by omega) (by omega) ?_
              exact (AP_mk (y' := tkOn y r j9) (by unfold aTk; rw [if_pos cc, zr, zs, if_pos ht]) (cty_shp (y' := tkOn y r j9) hC (by omega) i1 i2 i3 (fun j hj => by unfold tkOn; rw [ys_n _ (by omega)]) (by unfold tkOn; rw [ys_n _ (by omega)]) (by unfold tkOn; rw [ys_n _ (by omega)]) (by unfold tkOn; rw [ys_n _ (by omega)]) (by unfold tkOn; rw [ys_n _ (by omega)]) (by unfold tkOn; rw [ys_s]) (by unfold tkOn; rw [ys_n _ (by omega)])) (FR.up FR.rf _ (by omega)))
            · have ht : ¬ (¬ tof y r = NO ∧ pof y j9 = tof y r ∧ ¬ y (58 + 6 * j9 + 4) = r ∧ car y r < 3) := fun e => absurd e.2.2.2 (by omega)
              refine V_bipush 80 C dX1_handOver_78 rfl bipm4 ?_
              refine V_ireturn C dX1_handOver_80 rfl rfl (by omega) (by omega) ?_
              exact (AP_mk (by unfold aTk; rw [if_pos cc, zr, zs, if_neg ht]; rfl) hC FR.rf)
    · refine V_bipush 18 C dX1_handOver_16 rfl bipm2 ?_
      refine V_ireturn C dX1_handOver_18 rfl rfl (by omega) (by omega) ?_
      exact (AP_mk (by unfold aTk; rw [if_neg (fun e => by first | exact c5 e.1 | exact c13 e.2)]; rfl) hC FR.rf)

theorem dX1_addProof_0 : decode cX1_addProof 0 = .ok (.aload_n 0, 1) := by decide +kernel
theorem dX1_addProof_1 : decode cX1_addProof 1 = .ok (.iload_n 1, 1) := by decide +kernel
theorem dX1_addProof_2 : decode cX1_addProof 2 = .ok (.invokevirtual 151, 3) := by decide +kernel
theorem dX1_addProof_5 : decode cX1_addProof 5 = .ok (.ifCond .eq 19, 3) := by decide +kernel
theorem dX1_addProof_8 : decode cX1_addProof 8 = .ok (.aload_n 0, 1) := by decide +kernel
theorem dX1_addProof_9 : decode cX1_addProof 9 = .ok (.iload_n 2, 1) := by decide +kernel
theorem dX1_addProof_10 : decode cX1_addProof 10 = .ok (.invokevirtual 151, 3) := by decide +kernel
theorem dX1_addProof_13 : decode cX1_addProof 13 = .ok (.ifCond .eq 11, 3) := by decide +kernel
theorem dX1_addProof_16 : decode cX1_addProof 16 = .ok (.aload_n 0, 1) := by decide +kernel
theorem dX1_addProof_17 : decode cX1_addProof 17 = .ok (.iload_n 3, 1) := by decide +kernel
theorem dX1_addProof_18 : decode cX1_addProof 18 = .ok (.invokevirtual 151, 3) := by decide +kernel
theorem dX1_addProof_21 : decode cX1_addProof 21 = .ok (.ifCond .ne 6, 3) := by decide +kernel
theorem dX1_addProof_24 : decode cX1_addProof 24 = .ok (.bipush (-2), 2) := by decide +kernel
theorem dX1_addProof_26 : decode cX1_addProof 26 = .ok (.ireturn, 1) := by decide +kernel
theorem dX1_addProof_27 : decode cX1_addProof 27 = .ok (.aload_n 0, 1) := by decide +kernel
theorem dX1_addProof_28 : decode cX1_addProof 28 = .ok (.getfield 31, 3) := by decide +kernel
theorem dX1_addProof_31 : decode cX1_addProof 31 = .ok (.iload_n 1, 1) := by decide +kernel
theorem dX1_addProof_32 : decode cX1_addProof 32 = .ok (.aaload, 1) := by decide +kernel
theorem dX1_addProof_33 : decode cX1_addProof 33 = .ok (.getfield 88, 3) := by decide +kernel
theorem dX1_addProof_36 : decode cX1_addProof 36 = .ok (.istore 5, 2) := by decide +kernel
theorem dX1_addProof_38 : decode cX1_addProof 38 = .ok (.iload_n 1, 1) := by decide +kernel
theorem dX1_addProof_39 : decode cX1_addProof 39 = .ok (.iload_n 2, 1) := by decide +kernel
theorem dX1_addProof_40 : decode cX1_addProof 40 = .ok (.if_icmp .eq 17, 3) := by decide +kernel
theorem dX1_addProof_43 : decode cX1_addProof 43 = .ok (.iload_n 1, 1) := by decide +kernel
theorem dX1_addProof_44 : decode cX1_addProof 44 = .ok (.iload_n 3, 1) := by decide +kernel
theorem dX1_addProof_45 : decode cX1_addProof 45 = .ok (.if_icmp .eq 12, 3) := by decide +kernel
theorem dX1_addProof_48 : decode cX1_addProof 48 = .ok (.iload_n 2, 1) := by decide +kernel
theorem dX1_addProof_49 : decode cX1_addProof 49 = .ok (.iload_n 3, 1) := by decide +kernel
theorem dX1_addProof_50 : decode cX1_addProof 50 = .ok (.if_icmp .eq 7, 3) := by decide +kernel
theorem dX1_addProof_53 : decode cX1_addProof 53 = .ok (.iconst 1, 1) := by decide +kernel
theorem dX1_addProof_54 : decode cX1_addProof 54 = .ok (.goto 4, 3) := by decide +kernel
theorem dX1_addProof_57 : decode cX1_addProof 57 = .ok (.iconst 0, 1) := by decide +kernel
theorem dX1_addProof_58 : decode cX1_addProof 58 = .ok (.istore 6, 2) := by decide +kernel
theorem dX1_addProof_60 : decode cX1_addProof 60 = .ok (.aload_n 0, 1) := by decide +kernel
theorem dX1_addProof_61 : decode cX1_addProof 61 = .ok (.getfield 31, 3) := by decide +kernel
theorem dX1_addProof_64 : decode cX1_addProof 64 = .ok (.iload_n 2, 1) := by decide +kernel
theorem dX1_addProof_65 : decode cX1_addProof 65 = .ok (.aaload, 1) := by decide +kernel
theorem dX1_addProof_66 : decode cX1_addProof 66 = .ok (.getfield 88, 3) := by decide +kernel
theorem dX1_addProof_69 : decode cX1_addProof 69 = .ok (.iload 5, 2) := by decide +kernel
theorem dX1_addProof_71 : decode cX1_addProof 71 = .ok (.if_icmp .ne 21, 3) := by decide +kernel
theorem dX1_addProof_74 : decode cX1_addProof 74 = .ok (.aload_n 0, 1) := by decide +kernel
theorem dX1_addProof_75 : decode cX1_addProof 75 = .ok (.getfield 31, 3) := by decide +kernel
theorem dX1_addProof_78 : decode cX1_addProof 78 = .ok (.iload_n 3, 1) := by decide +kernel
theorem dX1_addProof_79 : decode cX1_addProof 79 = .ok (.aaload, 1) := by decide +kernel
theorem dX1_addProof_80 : decode cX1_addProof 80 = .ok (.getfield 88, 3) := by decide +kernel
theorem dX1_addProof_83 : decode cX1_addProof 83 = .ok (.iload 5, 2) := by decide +kernel
theorem dX1_addProof_85 : decode cX1_addProof 85 = .ok (.if_icmp .ne 7, 3) := by decide +kernel
theorem dX1_addProof_88 : decode cX1_addProof 88 = .ok (.iconst 1, 1) := by decide +kernel
theorem dX1_addProof_89 : decode cX1_addProof 89 = .ok (.goto 4, 3) := by decide +kernel
theorem dX1_addProof_92 : decode cX1_addProof 92 = .ok (.iconst 0, 1) := by decide +kernel
theorem dX1_addProof_93 : decode cX1_addProof 93 = .ok (.istore 7, 2) := by decide +kernel
theorem dX1_addProof_95 : decode cX1_addProof 95 = .ok (.iload 6, 2) := by decide +kernel
theorem dX1_addProof_97 : decode cX1_addProof 97 = .ok (.ifCond .eq 19, 3) := by decide +kernel
theorem dX1_addProof_100 : decode cX1_addProof 100 = .ok (.iload 7, 2) := by decide +kernel
theorem dX1_addProof_102 : decode cX1_addProof 102 = .ok (.ifCond .eq 14, 3) := by decide +kernel
theorem dX1_addProof_105 : decode cX1_addProof 105 = .ok (.iload 4, 2) := by decide +kernel
theorem dX1_addProof_107 : decode cX1_addProof 107 = .ok (.iconst 0, 1) := by decide +kernel
theorem dX1_addProof_108 : decode cX1_addProof 108 = .ok (.bipush 9, 2) := by decide +kernel
theorem dX1_addProof_110 : decode cX1_addProof 110 = .ok (.invokestatic 121, 3) := by decide +kernel
theorem dX1_addProof_113 : decode cX1_addProof 113 = .ok (.ifCond .ne 6, 3) := by decide +kernel
theorem dX1_addProof_116 : decode cX1_addProof 116 = .ok (.bipush (-3), 2) := by decide +kernel
theorem dX1_addProof_118 : decode cX1_addProof 118 = .ok (.ireturn, 1) := by decide +kernel
theorem dX1_addProof_119 : decode cX1_addProof 119 = .ok (.aload_n 0, 1) := by decide +kernel
theorem dX1_addProof_120 : decode cX1_addProof 120 = .ok (.iload_n 1, 1) := by decide +kernel
theorem dX1_addProof_121 : decode cX1_addProof 121 = .ok (.iload_n 2, 1) := by decide +kernel
theorem dX1_addProof_122 : decode cX1_addProof 122 = .ok (.iload_n 3, 1) := by decide +kernel
theorem dX1_addProof_123 : decode cX1_addProof 123 = .ok (.invokevirtual 177, 3) := by decide +kernel
theorem dX1_addProof_126 : decode cX1_addProof 126 = .ok (.istore 8, 2) := by decide +kernel
theorem dX1_addProof_128 : decode cX1_addProof 128 = .ok (.iload 8, 2) := by decide +kernel
theorem dX1_addProof_130 : decode cX1_addProof 130 = .ok (.ifCond .ne 34, 3) := by decide +kernel
theorem dX1_addProof_133 : decode cX1_addProof 133 = .ok (.aload_n 0, 1) := by decide +kernel
theorem dX1_addProof_134 : decode cX1_addProof 134 = .ok (.iload 5, 2) := by decide +kernel
theorem dX1_addProof_136 : decode cX1_addProof 136 = .ok (.aload_n 0, 1) := by decide +kernel
theorem dX1_addProof_137 : decode cX1_addProof 137 = .ok (.iload_n 1, 1) := by decide +kernel
theorem dX1_addProof_138 : decode cX1_addProof 138 = .ok (.invokevirtual 174, 3) := by decide +kernel
theorem dX1_addProof_141 : decode cX1_addProof 141 = .ok (.aload_n 0, 1) := by decide +kernel
theorem dX1_addProof_142 : decode cX1_addProof 142 = .ok (.iload_n 2, 1) := by decide +kernel
theorem dX1_addProof_143 : decode cX1_addProof 143 = .ok (.invokevirtual 174, 3) := by decide +kernel
theorem dX1_addProof_146 : decode cX1_addProof 146 = .ok (.aload_n 0, 1) := by decide +kernel
theorem dX1_addProof_147 : decode cX1_addProof 147 = .ok (.iload_n 3, 1) := by decide +kernel
theorem dX1_addProof_148 : decode cX1_addProof 148 = .ok (.invokevirtual 174, 3) := by decide +kernel
theorem dX1_addProof_151 : decode cX1_addProof 151 = .ok (.invokestatic 181, 3) := by decide +kernel
theorem dX1_addProof_154 : decode cX1_addProof 154 = .ok (.iload 4, 2) := by decide +kernel
theorem dX1_addProof_156 : decode cX1_addProof 156 = .ok (.aload_n 0, 1) := by decide +kernel
theorem dX1_addProof_157 : decode cX1_addProof 157 = .ok (.iload_n 1, 1) := by decide +kernel
theorem dX1_addProof_158 : decode cX1_addProof 158 = .ok (.invokevirtual 108, 3) := by decide +kernel
theorem dX1_addProof_161 : decode cX1_addProof 161 = .ok (.invokevirtual 138, 3) := by decide +kernel
theorem dX1_addProof_164 : decode cX1_addProof 164 = .ok (.iload 8, 2) := by decide +kernel
theorem dX1_addProof_166 : decode cX1_addProof 166 = .ok (.ireturn, 1) := by decide +kernel
set_option maxRecDepth 100000 in
set_option maxHeartbeats 4000000 in
theorem c_X1_addProof (l : Launch) (G : GT) (n : Nat) (h : AH) (q : Nat) (y : Nat → Nat) (hC : cty q y h) (hI : Iv y) (a b c9 f : Int32) : Ct l yX1_addProof cX1_addProof 9 (some .int) 4 0 0 G n h [.ref q, .int a, .int b, .int c9, .int f] (AP q n h (aPr y a b c9 f)) := by
  obtain ⟨⟨i0, i1, i2, i3, i4⟩, iR, iU, iM, iS⟩ := id hI
  obtain ⟨hob, ⟨fR, hfR, hR⟩, ⟨fU, hfU, hU⟩, ⟨fS, hfS, hS⟩, ⟨fM, hfM, hM⟩, -, -, -⟩ := id hC
  refine Ct_of mX1_addProof.1 (Nat.le_of_ble_eq_true rfl) ?_
  intro p e s m args below meth c C hin
  refine V_Le (L' := [(0, .ref q), (1, .int a), (2, .int b), (3, .int c9), (4, .int f)]) rfl ?_
  refine V_aload_n 1 C dX1_addProof_0 rfl rfl ?_
  refine V_iload_n 2 C dX1_addProof_1 rfl rfl ?_
  refine V_callV 5 C dX1_addProof_2 rfl mX1_hasSheet tw446 fcX1 hob (c_X1_hasSheet l G _ _ q y hC hI a) rfl rfl (by decide) ⟨by omega, by omega⟩ (Nat.le_of_ble_eq_true rfl) ?_
  rintro _ _ _ ⟨rfl, rfl, rfl⟩
  refine V_if_eqB 24 8 C dX1_addProof_5 (by decide) rfl  (fun c5 => ?_) (fun c5 => ?_)
  · refine V_bipush 26 C dX1_addProof_24 rfl bipm2 ?_
    refine V_ireturn C dX1_addProof_26 rfl rfl (by omega) (by omega) ?_
    exact (AP_mk (by unfold aPr; rw [if_neg (fun e => by first | exact c5 e.1 | exact c13 e.2.1 | exact c21 e.2.2)]; rfl) hC FR.rf)
  · refine V_aload_n 9 C dX1_addProof_8 rfl rfl ?_
    refine V_iload_n 10 C dX1_addProof_9 rfl rfl ?_
    refine V_callV 13 C dX1_addProof_10 rfl mX1_hasSheet tw446 fcX1 hob (c_X1_hasSheet l G _ _ q y hC hI b) rfl rfl (by decide) ⟨by omega, by omega⟩ (Nat.le_of_ble_eq_true rfl) ?_
    rintro _ _ _ ⟨rfl, rfl, rfl⟩
    refine V_if_eqB 24 16 C dX1_addProof_13 (by decide) rfl  (fun c13 => ?_) (fun c13 => ?_)
    · refine V_bipush 26 C dX1_addProof_24 rfl bipm2 ?_
      refine V_ireturn C dX1_addProof_26 rfl rfl (by omega) (by omega) ?_
      exact (AP_mk (by unfold aPr; rw [if_neg (fun e => by first | exact c5 e.1 | exact c13 e.2.1 | exact c21 e.2.2)]; rfl) hC FR.rf)
    · refine V_aload_n 17 C dX1_addProof_16 rfl rfl ?_
      refine V_iload_n 18 C dX1_addProof_17 rfl rfl ?_
      refine V_callV 21 C dX1_addProof_18 rfl mX1_hasSheet tw446 fcX1 hob (c_X1_hasSheet l G _ _ q y hC hI c9) rfl rfl (by decide) ⟨by omega, by omega⟩ (Nat.le_of_ble_eq_true rfl) ?_
      rintro _ _ _ ⟨rfl, rfl, rfl⟩
      refine V_if_neB 27 24 C dX1_addProof_21 (by decide) rfl  (fun c21 => ?_) (fun c21 => ?_)
      · refine V_aload_n 28 C dX1_addProof_27 rfl rfl ?_
        have cc : ix a (y 4) ∧ ix b (y 4) ∧ ix c9 (y 4) := ⟨c5, c13, c21⟩
        obtain ⟨u, hu, rfl⟩ := ix_of c5 (by omega)
        obtain ⟨v, hv, rfl⟩ := ix_of c13 (by omega)
        obtain ⟨w, hw, rfl⟩ := ix_of c21 (by omega)
        have zu : z (nI u) = u := zn (by omega)
        have zv : z (nI v) = v := zn (by omega)
        have zw : z (nI w) = w := zn (by omega)
        obtain ⟨s0u, s1u, s2u, s3u, s4u, s5u⟩ := iS u hu
        unfold NO at s4u
        obtain ⟨s0v, s1v, s2v, s3v, s4v, s5v⟩ := iS v hv
        unfold NO at s4v
        obtain ⟨s0w, s1w, s2w, s3w, s4w, s5w⟩ := iS w hw
        unfold NO at s4w
        have hsu := cty_sh hC hu i4
        have hsv := cty_sh hC hv i4
        have hsw := cty_sh hC hw i4
        refine V_get (k := 10) 31 C dX1_addProof_28 rfl fcX1 tw145 (by decide) rfl hob rfl ?_
        refine V_iload_n 32 C dX1_addProof_31 rfl rfl ?_
        refine V_aald (j := u) 33 C dX1_addProof_32 rfl hfS rfl rfl (by omega) (by omega) (hS _ (by omega)) ?_
        refine V_get (k := 0) 36 C dX1_addProof_33 rfl fcX8 tw91 (by decide) rfl hsu rfl ?_
        refine V_istore 38 C dX1_addProof_36 rfl (by decide) (L' := [(0, _), (1, _), (2, _), (3, _), (4, _), (5, _)]) rfl ?_
        have J58 : ∀ (k : Nat) (hk : (k = 1 ∧ (¬ u = v ∧ ¬ u = w ∧ ¬ v = w)) ∨ (k = 0 ∧ ¬ (¬ u = v ∧ ¬ u = w ∧ ¬ v = w))), V p l e (rmD 4 0 0) s m args below meth c (MQ below (Po G (AP q n h (aPr y (nI u) (nI v) (nI w) f))) args s 0 0 (rg G)) G 9 0 0 n h 58 [(0, .ref q), (1, .int (nI u)), (2, .int (nI v)), (3, .int (nI w)), (4, .int f), (5, .int (nI (y (58 + 6 * u))))] [.int (nI k)] := by
          intro k hk
          refine V_istore 60 C dX1_addProof_58 rfl (by decide) (L' := [(0, _), (1, _), (2, _), (3, _), (4, _), (5, _), (6, _)]) rfl ?_
          have J93 : ∀ (k2 : Nat) (hk2 : (k2 = 1 ∧ (y (58 + 6 * u) = y (58 + 6 * v) ∧ y (58 + 6 * u) = y (58 + 6 * w))) ∨ (k2 = 0 ∧ ¬ (y (58 + 6 * u) = y (58 + 6 * v) ∧ y (58 + 6 * u) = y (58 + 6 * w)))), V p l e (rmD 4 0 0) s m args below meth c (MQ below (Po G (AP q n h (aPr y (nI u) (nI v) (nI w) f))) args s 0 0 (rg G)) G 9 0 0 n h 93 [(0, .ref q), (1, .int (nI u)), (2, .int (nI v)), (3, .int (nI w)), (4, .int f), (5, .int (nI (y (58 + 6 * u)))), (6, .int (nI k))] [.int (nI k2)] := by
            intro k2 hk2
            refine V_istore 95 C dX1_addProof_93 rfl (by decide) (L' := [(0, _), (1, _), (2, _), (3, _), (4, _), (5, _), (6, _), (7, _)]) rfl ?_
            refine V_iload 97 C dX1_addProof_95 rfl rfl ?_
            refine V_if_eqN 116 100 C dX1_addProof_97 (by decide) rfl (by omega) (fun c97 => ?_) (fun c97 => ?_)
            · refine V_bipush 118 C dX1_addProof_116 rfl bipm3 ?_
              refine V_ireturn C dX1_addProof_118 rfl rfl (by omega) (by omega) ?_
              exact (AP_mk (by unfold aPr; rw [if_pos cc, zu, zv, zw, if_neg (fun e => by first | exact hf9 e.2 | (obtain ⟨e, -⟩ := e; omega))]; rfl) hC FR.rf)
            · refine V_iload 102 C dX1_addProof_100 rfl rfl ?_
              refine V_if_eqN 116 105 C dX1_addProof_102 (by decide) rfl (by omega) (fun c102 => ?_) (fun c102 => ?_)
              · refine V_bipush 118 C dX1_addProof_116 rfl bipm3 ?_
                refine V_ireturn C dX1_addProof_118 rfl rfl (by omega) (by omega) ?_
                exact (AP_mk (by unfold aPr; rw [if_pos cc, zu, zv, zw, if_neg (fun e => by first | exact hf9 e.2 | (obtain ⟨e, -⟩ := e; omega))]; rfl) hC FR.rf)
              · refine V_iload 107 C dX1_addProof_105 rfl rfl ?_
                refine V_iconst 108 C dX1_addProof_107 rfl ic0 ?_
                refine V_bipush 110 C dX1_addProof_108 rfl bip9 ?_
                refine V_callSN (host := RX9) 113 C dX1_addProof_110 rfl mX9_inRange (by decide +kernel) (c_X9_inRange l G _ _ _ _ _) rfl rfl (by decide) ⟨by omega, by omega⟩ (Nat.le_of_ble_eq_true rfl) ?_
                rintro _ _ _ ⟨rfl, rfl, rfl⟩
                refine V_if_neB 119 116 C dX1_addProof_113 (by decide) rfl  (fun c113 => ?_) (fun c113 => ?_)
                · have hf9 : ix f 10 := by refine ⟨c113.1, ?_⟩; have := c113.2; rw [nI_toInt (by decide)] at this; omega
                  have eR : aPr y (nI u) (nI v) (nI w) f = (nI (prs y u v w), prC y u v w (z f)) := by unfold aPr; rw [if_pos cc, zu, zv, zw, if_pos ⟨by omega, hf9⟩]
                  obtain ⟨jf, hjf, rfl⟩ := ix_of hf9 (by decide)
                  rw [zn (by omega)] at eR
                  have hpl := prs_le y u v w
                  refine V_aload_n 120 C dX1_addProof_119 rfl rfl ?_
                  refine V_iload_n 121 C dX1_addProof_120 rfl rfl ?_
                  refine V_iload_n 122 C dX1_addProof_121 rfl rfl ?_
                  refine V_iload_n 123 C dX1_addProof_122 rfl rfl ?_
                  refine V_callV 126 C dX1_addProof_123 rfl mX1_proofHindrance tw874 fcX1 hob (c_X1_proofHindrance l G _ _ q y hC hI u v w hu hv hw) rfl rfl (by decide) ⟨by omega, by omega⟩ (Nat.le_of_ble_eq_true rfl) ?_
                  rintro _ _ _ ⟨rfl, rfl, rfl⟩
                  refine V_istore 128 C dX1_addProof_126 rfl (by decide) (L' := [(0, _), (1, _), (2, _), (3, _), (4, _), (5, _), (6, _), (7, _), (8, _)]) rfl ?_
                  refine V_iload 130 C dX1_addProof_128 rfl rfl ?_
                  refine V_if_neN 164 133 C dX1_addProof_130 (by decide) rfl (by omega) (fun c130 => ?_) (fun c130 => ?_)
                  · rw [show prC y u v w jf = y from by unfold prC; rw [if_neg c130]] at eR
                    have hC2 := hC
                    have hF2 : FR q h h := FR.rf
                    refine V_iload 166 C dX1_addProof_164 rfl rfl ?_
                    refine V_ireturn C dX1_addProof_166 rfl rfl (by omega) (by omega) ?_
                    exact (AP_mk eR hC2 hF2)
                  · obtain ⟨-, hk3, hk4⟩ := prs_0 c130
                    have ru : rof y u < 1000000 := rdw_lt s1u (by omega)
                    have rv : rof y v < 1000000 := rdw_lt s1v (by omega)
                    have rw9 : rof y w < 1000000 := rdw_lt s1w (by omega)
                    rw [show prC y u v w jf = shOn y (y (58 + 6 * u)) (mj (rof y u) (rof y v) (rof y w)) jf (pof y u) from by unfold prC; rw [if_pos c130]] at eR
                    refine V_aload_n 134 C dX1_addProof_133 rfl rfl ?_
                    refine V_iload 136 C dX1_addProof_134 rfl rfl ?_
                    refine V_aload_n 137 C dX1_addProof_136 rfl rfl ?_
                    refine V_iload_n 138 C dX1_addProof_137 rfl rfl ?_
                    refine V_callV 141 C dX1_addProof_138 rfl mX1_readOf tw504 fcX1 hob (c_X1_readOf l G _ _ q y hC hI u hu) rfl rfl (by decide) ⟨by omega, by omega⟩ (Nat.le_of_ble_eq_true rfl) ?_
                    rintro _ _ _ ⟨rfl, rfl, rfl⟩
                    refine V_aload_n 142 C dX1_addProof_141 rfl rfl ?_
                    refine V_iload_n 143 C dX1_addProof_142 rfl rfl ?_
                    refine V_callV 146 C dX1_addProof_143 rfl mX1_readOf tw504 fcX1 hob (c_X1_readOf l G _ _ q y hC hI v hv) rfl rfl (by decide) ⟨by omega, by omega⟩ (Nat.le_of_ble_eq_true rfl) ?_
                    rintro _ _ _ ⟨rfl, rfl, rfl⟩
                    refine V_aload_n 147 C dX1_addProof_146 rfl rfl ?_
                    refine V_iload_n 148 C dX1_addProof_147 rfl rfl ?_
                    refine V_callV 151 C dX1_addProof_148 rfl mX1_readOf tw504 fcX1 hob (c_X1_readOf l G _ _ q y hC hI w hw) rfl rfl (by decide) ⟨by omega, by omega⟩ (Nat.le_of_ble_eq_true rfl) ?_
                    rintro _ _ _ ⟨rfl, rfl, rfl⟩
                    refine V_callS 154 C dX1_addProof_151 rfl mX2_majority tw878 (c_X2_majority l G _ _ _ _ _ ru rv rw9) rfl rfl (by decide) ⟨by omega, by omega⟩ (Nat.le_of_ble_eq_true rfl) ?_
                    rintro _ _ _ ⟨rfl, rfl, rfl⟩
                    refine V_iload 156 C dX1_addProof_154 rfl rfl ?_
                    refine V_aload_n 157 C dX1_addProof_156 rfl rfl ?_
                    refine V_iload_n 158 C dX1_addProof_157 rfl rfl ?_
                    refine V_callV 161 C dX1_addProof_158 rfl mX1_placeOf tw460 fcX1 hob (c_X1_placeOf l G _ _ q y hC hI u hu) rfl rfl (by decide) ⟨by omega, by omega⟩ (Nat.le_of_ble_eq_true rfl) ?_
                    rintro _ _ _ ⟨rfl, rfl, rfl⟩
                    refine V_callV 164 C dX1_addProof_161 rfl mX1_addSheet tw434 fcX1 hob (c_X1_addSheet l G _ _ q y hC i1 i2 i3 (by omega) _ _ _ _) rfl rfl (by decide) ⟨by omega, by omega⟩ (Nat.le_of_ble_eq_true rfl) ?_
                    rintro _ _ h2 ⟨rfl, rfl, hC2, hF2⟩
                    refine V_iload 166 C dX1_addProof_164 rfl rfl ?_
                    refine V_ireturn C dX1_addProof_166 rfl rfl (by omega) (by omega) ?_
                    exact (AP_mk eR hC2 hF2)
                · have hf9 : ¬ ix f 10 := fun e => c113 ⟨e.1, by rw [nI_toInt (by decide)]; have := e.2; omega⟩
                  refine V_bipush 118 C dX1_addProof_116 rfl bipm3 ?_
                  refine V_ireturn C dX1_addProof_118 rfl rfl (by omega) (by omega) ?_
                  exact (AP_mk (by unfold aPr; rw [if_pos cc, zu, zv, zw, if_neg (fun e => by first | exact hf9 e.2 | (obtain ⟨e, -⟩ := e; omega))]; rfl) hC FR.rf)
          refine V_aload_n 61 C dX1_addProof_60 rfl rfl ?_
          refine V_get (k := 10) 64 C dX1_addProof_61 rfl fcX1 tw145 (by decide) rfl hob rfl ?_
          refine V_iload_n 65 C dX1_addProof_64 rfl rfl ?_
          refine V_aald (j := v) 66 C dX1_addProof_65 rfl hfS rfl rfl (by omega) (by omega) (hS _ (by omega)) ?_
          refine V_get (k := 0) 69 C dX1_addProof_66 rfl fcX8 tw91 (by decide) rfl hsv rfl ?_
          refine V_iload 71 C dX1_addProof_69 rfl rfl ?_
          refine V_icmp_neN 92 74 C dX1_addProof_71 (by decide) rfl (by omega) (by omega) (fun c71 => ?_) (fun c71 => ?_)
          · refine V_iconst 93 C dX1_addProof_92 rfl ic0 ?_
            refine V_L [0, 1, 2, 3, 4, 5, 6] rfl ?_
            exact J93 _ (by omega)
          · refine V_aload_n 75 C dX1_addProof_74 rfl rfl ?_
            refine V_get (k := 10) 78 C dX1_addProof_75 rfl fcX1 tw145 (by decide) rfl hob rfl ?_
            refine V_iload_n 79 C dX1_addProof_78 rfl rfl ?_
            refine V_aald (j := w) 80 C dX1_addProof_79 rfl hfS rfl rfl (by omega) (by omega) (hS _ (by omega)) ?_
            refine V_get (k := 0) 83 C dX1_addProof_80 rfl fcX8 tw91 (by decide) rfl hsw rfl ?_
            refine V_iload 85 C dX1_addProof_83 rfl rfl ?_
            refine V_icmp_neN 92 88 C dX1_addProof_85 (by decide) rfl (by omega) (by omega) (fun c85 => ?_) (fun c85 => ?_)
            · refine V_iconst 93 C dX1_addProof_92 rfl ic0 ?_
              refine V_L [0, 1, 2, 3, 4, 5, 6] rfl ?_
              exact J93 _ (by omega)
            · refine V_iconst 89 C dX1_addProof_88 rfl ic1 ?_
              refine V_goto 93 C dX1_addProof_89 (by decide) ?_
              refine V_L [0, 1, 2, 3, 4, 5, 6] rfl ?_
              exact J93 _ (by omega)
        refine V_iload_n 39 C dX1_addProof_38 rfl rfl ?_
        refine V_iload_n 40 C dX1_addProof_39 rfl rfl ?_
        refine V_icmp_eqN 57 43 C dX1_addProof_40 (by decide) rfl (by omega) (by omega) (fun c40 => ?_) (fun c40 => ?_)
        · refine V_iconst 58 C dX1_addProof_57 rfl ic0 ?_
          refine V_L [0, 1, 2, 3, 4, 5] rfl ?_
          exact J58 _ (by omega)
        · refine V_iload_n 44 C dX1_addProof_43 rfl rfl ?_
          refine V_iload_n 45 C dX1_addProof_44 rfl rfl ?_
          refine V_icmp_eqN 57 48 C dX1_addProof_45 (by decide) rfl (by omega) (by omega) (fun c45 => ?_) (fun c45 => ?_)
          · refine V_iconst 58 C dX1_addProof_57 rfl ic0 ?_
            refine V_L [0, 1, 2, 3, 4, 5] rfl ?_
            exact J58 _ (by omega)
          · refine V_iload_n 49 C dX1_addProof_48 rfl rfl ?_
            refine V_iload_n 50 C dX1_addProof_49 rfl rfl ?_
            refine V_icmp_eqN 57 53 C dX1_addProof_50 (by decide) rfl (by omega) (by omega) (fun c50 => ?_) (fun c50 => ?_)
            · refine V_iconst 58 C dX1_addProof_57 rfl ic0 ?_
              refine V_L [0, 1, 2, 3, 4, 5] rfl ?_
              exact J58 _ (by omega)
            · refine V_iconst 54 C dX1_addProof_53 rfl ic1 ?_
              refine V_goto 58 C dX1_addProof_54 (by decide) ?_
              refine V_L [0, 1, 2, 3, 4, 5] rfl ?_
              exact J58 _ (by omega)
      · refine V_bipush 26 C dX1_addProof_24 rfl bipm2 ?_
        refine V_ireturn C dX1_addProof_26 rfl rfl (by omega) (by omega) ?_
        exact (AP_mk (by unfold aPr; rw [if_neg (fun e => by first | exact c5 e.1 | exact c13 e.2.1 | exact c21 e.2.2)]; rfl) hC FR.rf)

theorem dX1_passHour_0 : decode cX1_passHour 0 = .ok (.aload_n 0, 1) := by decide +kernel
theorem dX1_passHour_1 : decode cX1_passHour 1 = .ok (.dup, 1) := by decide +kernel
theorem dX1_passHour_2 : decode cX1_passHour 2 = .ok (.getfield 52, 3) := by decide +kernel
theorem dX1_passHour_5 : decode cX1_passHour 5 = .ok (.iconst 1, 1) := by decide +kernel
theorem dX1_passHour_6 : decode cX1_passHour 6 = .ok (.iadd, 1) := by decide +kernel
theorem dX1_passHour_7 : decode cX1_passHour 7 = .ok (.putfield 52, 3) := by decide +kernel
theorem dX1_passHour_10 : decode cX1_passHour 10 = .ok (.iconst 0, 1) := by decide +kernel
theorem dX1_passHour_11 : decode cX1_passHour 11 = .ok (.istore_n 1, 1) := by decide +kernel
theorem dX1_passHour_12 : decode cX1_passHour 12 = .ok (.iload_n 1, 1) := by decide +kernel
theorem dX1_passHour_13 : decode cX1_passHour 13 = .ok (.aload_n 0, 1) := by decide +kernel
theorem dX1_passHour_14 : decode cX1_passHour 14 = .ok (.getfield 49, 3) := by decide +kernel
theorem dX1_passHour_17 : decode cX1_passHour 17 = .ok (.if_icmp .ge 28, 3) := by decide +kernel
theorem dX1_passHour_20 : decode cX1_passHour 20 = .ok (.aload_n 0, 1) := by decide +kernel
theorem dX1_passHour_21 : decode cX1_passHour 21 = .ok (.getfield 31, 3) := by decide +kernel
theorem dX1_passHour_24 : decode cX1_passHour 24 = .ok (.iload_n 1, 1) := by decide +kernel
theorem dX1_passHour_25 : decode cX1_passHour 25 = .ok (.aaload, 1) := by decide +kernel
theorem dX1_passHour_26 : decode cX1_passHour 26 = .ok (.aload_n 0, 1) := by decide +kernel
theorem dX1_passHour_27 : decode cX1_passHour 27 = .ok (.getfield 31, 3) := by decide +kernel
theorem dX1_passHour_30 : decode cX1_passHour 30 = .ok (.iload_n 1, 1) := by decide +kernel
theorem dX1_passHour_31 : decode cX1_passHour 31 = .ok (.aaload, 1) := by decide +kernel
theorem dX1_passHour_32 : decode cX1_passHour 32 = .ok (.iconst 1, 1) := by decide +kernel
theorem dX1_passHour_33 : decode cX1_passHour 33 = .ok (.invokevirtual 85, 3) := by decide +kernel
theorem dX1_passHour_36 : decode cX1_passHour 36 = .ok (.putfield 78, 3) := by decide +kernel
theorem dX1_passHour_39 : decode cX1_passHour 39 = .ok (.iinc 1 1, 3) := by decide +kernel
theorem dX1_passHour_42 : decode cX1_passHour 42 = .ok (.goto (-30), 3) := by decide +kernel
theorem dX1_passHour_45 : decode cX1_passHour 45 = .ok (.iconst 0, 1) := by decide +kernel
theorem dX1_passHour_46 : decode cX1_passHour 46 = .ok (.istore_n 1, 1) := by decide +kernel
theorem dX1_passHour_47 : decode cX1_passHour 47 = .ok (.iconst 0, 1) := by decide +kernel
theorem dX1_passHour_48 : decode cX1_passHour 48 = .ok (.istore_n 2, 1) := by decide +kernel
theorem dX1_passHour_49 : decode cX1_passHour 49 = .ok (.iload_n 2, 1) := by decide +kernel
theorem dX1_passHour_50 : decode cX1_passHour 50 = .ok (.aload_n 0, 1) := by decide +kernel
theorem dX1_passHour_51 : decode cX1_passHour 51 = .ok (.getfield 43, 3) := by decide +kernel
theorem dX1_passHour_54 : decode cX1_passHour 54 = .ok (.if_icmp .ge 24, 3) := by decide +kernel
theorem dX1_passHour_57 : decode cX1_passHour 57 = .ok (.aload_n 0, 1) := by decide +kernel
theorem dX1_passHour_58 : decode cX1_passHour 58 = .ok (.getfield 20, 3) := by decide +kernel
theorem dX1_passHour_61 : decode cX1_passHour 61 = .ok (.iload_n 2, 1) := by decide +kernel
theorem dX1_passHour_62 : decode cX1_passHour 62 = .ok (.aaload, 1) := by decide +kernel
theorem dX1_passHour_63 : decode cX1_passHour 63 = .ok (.invokevirtual 188, 3) := by decide +kernel
theorem dX1_passHour_66 : decode cX1_passHour 66 = .ok (.ifCond .eq 6, 3) := by decide +kernel
theorem dX1_passHour_69 : decode cX1_passHour 69 = .ok (.iinc 1 1, 3) := by decide +kernel
theorem dX1_passHour_72 : decode cX1_passHour 72 = .ok (.iinc 2 1, 3) := by decide +kernel
theorem dX1_passHour_75 : decode cX1_passHour 75 = .ok (.goto (-26), 3) := by decide +kernel
theorem dX1_passHour_78 : decode cX1_passHour 78 = .ok (.iload_n 1, 1) := by decide +kernel
theorem dX1_passHour_79 : decode cX1_passHour 79 = .ok (.ireturn, 1) := by decide +kernel
set_option maxRecDepth 100000 in
set_option maxHeartbeats 4000000 in
theorem c_X1_passHour (l : Launch) (G : GT) (n : Nat) (h : AH) (q : Nat) (y : Nat → Nat) (hC : cty q y h) (hI : Iv y) : Ct l yX1_passHour cX1_passHour 3 (some .int) 3 0 0 G n h [.ref q] (fun v n' h' => v = some (.int (nI (comek y (y 2)))) ∧ n = n' ∧ cty q (hr y) h' ∧ FR q h h') := by
  obtain ⟨⟨i0, i1, i2, i3, i4⟩, iR, iU, iM, iS⟩ := id hI
  obtain ⟨hob, ⟨fR, hfR, hR⟩, ⟨fU, hfU, hU⟩, ⟨fS, hfS, hS⟩, ⟨fM, hfM, hM⟩, -, -, -⟩ := id hC
  refine Ct_of mX1_passHour.1 (Nat.le_of_ble_eq_true rfl) ?_
  intro p e s m args below meth c C hin
  refine V_Le (L' := [(0, .ref q)]) rfl ?_
  refine V_aload_n 1 C dX1_passHour_0 rfl rfl ?_
  refine V_dup 2 C dX1_passHour_1 rfl rfl ?_
  refine V_get (k := 5) 5 C dX1_passHour_2 rfl fcX1 tw133 (by decide) rfl hob rfl ?_
  refine V_iconst 6 C dX1_passHour_5 rfl ic1 ?_
  refine V_iaddN 7 C dX1_passHour_6 rfl  ?_
  refine V_put (fs' := [_, _, _, _, _, _, _, _, _, _, _]) (k := 5) 10 C dX1_passHour_7 rfl fcX1 tw133 (by decide) rfl rfl hob rfl rfl (Nat.le_of_ble_eq_true rfl) rfl ?_
  have hCa : cty q (ys y 5 (y 5 + 1)) (up h q (.inr (1, [.int (nI (y 0)), .int (nI (y 1)), .int (nI (y 2)), .int (nI (y 3)), .int (nI (y 4)), .int (nI (y 5 + 1)), .int (nI (y 6)), .ref (q + 1), .ref (q + 12), .ref (q + 18), .ref (q + 19)]))) := cty_ob (y' := ys y 5 (y 5 + 1)) hC (Nat.le_refl _) (Nat.le_refl _) (Nat.le_refl _) (Nat.le_refl _) (fun j hj => ys_n _ (by omega))
  refine V_iconst 11 C dX1_passHour_10 rfl ic0 ?_
  refine V_istore_n 12 C dX1_passHour_11 rfl (by decide) (L' := [(0, _), (1, _)]) rfl ?_
  have J12 : ∀ (fuel : Nat) (i : Nat) (h1 : AH) (hi : i ≤ y 4) (hC1 : cty q (inkk (ys y 5 (y 5 + 1)) i) h1) (hF1 : FR q h h1), y 4 - i < fuel → V p l e (rmD 3 0 0) s m args below meth c (MQ below (Po G (fun v n' h' => v = some (.int (nI (comek y (y 2)))) ∧ n = n' ∧ cty q (hr y) h' ∧ FR q h h')) args s 0 0 (rg G)) G 3 0 0 n h1 12 [(0, .ref q), (1, .int (nI i))] [] := by
    intro fuel
    induction fuel with
    | zero => intro i h1 hi hC1 hF1 hf; omega
    | succ fuel ih12 =>
      intro i h1 hi hC1 hF1 hf
      have en : ∀ j, j < 5 → inkk (ys y 5 (y 5 + 1)) i j = y j := fun j hj => by rw [inkk_n (fun q hq => by omega), ys_n _ (by omega)]
      have e1 := en 1 (by omega)
      have e2 := en 2 (by omega)
      have e3 := en 3 (by omega)
      have e4 := en 4 (by omega)
      obtain ⟨hob1, -, -, ⟨fS1, hfS1, hS1⟩, -, -, -, -⟩ := id hC1
      refine V_iload_n 13 C dX1_passHour_12 rfl rfl ?_
      refine V_aload_n 14 C dX1_passHour_13 rfl rfl ?_
      refine V_get (k := 4) 17 C dX1_passHour_14 rfl fcX1 tw131 (by decide) rfl hob1 rfl ?_
      rw [e4]
      refine V_icmp_geN 45 20 C dX1_passHour_17 (by decide) rfl (by omega) (by omega) (fun c17 => ?_) (fun c17 => ?_)
      · refine V_iconst 46 C dX1_passHour_45 rfl ic0 ?_
        refine V_istore_n 47 C dX1_passHour_46 rfl (by decide) (L' := [(0, _), (1, _)]) rfl ?_
        refine V_iconst 48 C dX1_passHour_47 rfl ic0 ?_
        refine V_istore_n 49 C dX1_passHour_48 rfl (by decide) (L' := [(0, _), (1, _), (2, _)]) rfl ?_
        have J49 : ∀ (fuel : Nat) (i : Nat) (h1 : AH) (hi : i ≤ y 2) (hC1 : cty q (walkk (hrI y) i) h1) (hF1 : FR q h h1), y 2 - i < fuel → V p l e (rmD 3 0 0) s m args below meth c (MQ below (Po G (fun v n' h' => v = some (.int (nI (comek y (y 2)))) ∧ n = n' ∧ cty q (hr y) h' ∧ FR q h h')) args s 0 0 (rg G)) G 3 0 0 n h1 49 [(0, .ref q), (1, .int (nI (comek y i))), (2, .int (nI i))] [] := by
          intro fuel
          induction fuel with
          | zero => intro i h1 hi hC1 hF1 hf; omega
          | succ fuel ih49 =>
            intro i h1 hi hC1 hF1 hf
            have en : ∀ j, j < 5 → walkk (hrI y) i j = y j := fun j hj => by rw [walkk_n (fun q hq => by omega), hrI_n (by omega) (fun q hq => by omega)]
            have e1 := en 1 (by omega)
            have e2 := en 2 (by omega)
            have e3 := en 3 (by omega)
            have e4 := en 4 (by omega)
            obtain ⟨hob1, -, ⟨fU1, hfU1, hU1⟩, -, -, -, -, -⟩ := id hC1
            refine V_iload_n 50 C dX1_passHour_49 rfl rfl ?_
            refine V_aload_n 51 C dX1_passHour_50 rfl rfl ?_
            refine V_get (k := 2) 54 C dX1_passHour_51 rfl fcX1 tw127 (by decide) rfl hob1 rfl ?_
            rw [e2]
            refine V_icmp_geN 78 57 C dX1_passHour_54 (by decide) rfl (by omega) (by omega) (fun c54 => ?_) (fun c54 => ?_)
            · refine V_iload_n 79 C dX1_passHour_78 rfl rfl ?_
              refine V_ireturn C dX1_passHour_79 rfl rfl (by omega) (by omega) ?_
              exact ⟨by rw [show i = y 2 from by omega], rfl, by rw [show i = y 2 from by omega] at hC1; exact hC1, hF1⟩
            · refine V_aload_n 58 C dX1_passHour_57 rfl rfl ?_
              refine V_get (k := 8) 61 C dX1_passHour_58 rfl fcX1 tw140 (by decide) rfl hob1 rfl ?_
              refine V_iload_n 62 C dX1_passHour_61 rfl rfl ?_
              refine V_aald (j := i) 63 C dX1_passHour_62 rfl hfU1 rfl rfl (by omega) (by omega) (hU1 _ (by omega)) ?_
              have hlt : i < y 2 := by omega
              obtain ⟨u0, u1⟩ := iU i hlt
              have e7 : walkk (hrI y) i (37 + 3 * i + 1) = y (37 + 3 * i + 1) := by rw [walkk_n (fun q hq => by omega), hrI_n (by omega) (fun q hq => by omega)]
              have hru := cty_ru hC1 (i := i) (by omega) (by omega)
              refine V_callV 66 C dX1_passHour_63 rfl mX6_walkedIn tw530 fcX6 hru (c_X6_walkedIn l G _ _ _ _ _ _ hru (by omega)) rfl rfl (by decide) ⟨by omega, by omega⟩ (Nat.le_of_ble_eq_true rfl) ?_
              rintro _ _ h2 ⟨rfl, rfl, hh2⟩
              have hCF : cty q (walkk (hrI y) (i + 1)) h2 ∧ FR q h h2 := by
                subst hh2
                by_cases h0 : walkk (hrI y) i (37 + 3 * i + 1) = 0
                · rw [if_pos h0]
                  rw [show walkk (hrI y) (i + 1) = walkk (hrI y) i from by simp only [walkk]; unfold walk1; rw [if_pos h0]]
                  exact ⟨hC1, hF1⟩
                · rw [if_neg h0]
                  have ew : walkk (hrI y) (i + 1) = ys (walk0 (walkk (hrI y) i) i) (37 + 3 * i + 2) (walk0 (walkk (hrI y) i) i (37 + 3 * i + 2) + 1) := by simp only [walkk]; unfold walk1; rw [if_neg h0]
                  refine ⟨cty_rup hC1 (by omega) (by omega) (fun j hj => ?_) ?_ ?_ ?_, FR.up hF1 _ (by omega)⟩
                  · rw [ew, ys_n _ (by omega)]; unfold walk0; rw [ys_n _ (by omega)]
                  · rw [ew, ys_n _ (by omega)]; unfold walk0; rw [ys_n _ (by omega)]
                  · rw [ew, ys_n _ (by omega)]; unfold walk0; rw [ys_s]
                  · rw [ew, ys_s]; unfold walk0; rw [ys_n _ (by omega)]
              obtain ⟨hC2, hF2⟩ := hCF
              refine V_if_eqB 72 69 C dX1_passHour_66 (by decide) rfl  (fun c66 => ?_) (fun c66 => ?_)
              · have hzc : comek y i = comek y (i + 1) := comek_f (fun e => c66 (by rw [e7]; exact e))
                refine V_iinc 75 C dX1_passHour_72 rfl (by decide) rfl (ii1 _) (L' := [(0, _), (1, _), (2, _)]) rfl ?_
                refine V_goto 49 C dX1_passHour_75 (by decide) ?_
                refine V_L [0, 1, 2] rfl ?_
                rw [hzc]
                exact ih49 (i + 1) _ (by omega) hC2 hF2 (by omega)
              · have hzc : comek y i + 1 = comek y (i + 1) := comek_t (by rw [← e7]; exact c66)
                refine V_iinc 72 C dX1_passHour_69 rfl (by decide) rfl (ii1 _) (L' := [(0, _), (1, _), (2, _)]) rfl ?_
                refine V_iinc 75 C dX1_passHour_72 rfl (by decide) rfl (ii1 _) (L' := [(0, _), (1, _), (2, _)]) rfl ?_
                refine V_goto 49 C dX1_passHour_75 (by decide) ?_
                refine V_L [0, 1, 2] rfl ?_
                rw [hzc]
                exact ih49 (i + 1) _ (by omega) hC2 hF2 (by omega)
        refine V_L [0, 1, 2] rfl ?_
        exact J49 (y 2 + 1) 0 _ (by omega) (by rw [show i = y 4 from by omega] at hC1; exact hC1) hF1 (by omega)
      · refine V_aload_n 21 C dX1_passHour_20 rfl rfl ?_
        refine V_get (k := 10) 24 C dX1_passHour_21 rfl fcX1 tw145 (by decide) rfl hob1 rfl ?_
        refine V_iload_n 25 C dX1_passHour_24 rfl rfl ?_
        refine V_aald (j := i) 26 C dX1_passHour_25 rfl hfS1 rfl rfl (by omega) (by omega) (hS1 _ (by omega)) ?_
        refine V_aload_n 27 C dX1_passHour_26 rfl rfl ?_
        refine V_get (k := 10) 30 C dX1_passHour_27 rfl fcX1 tw145 (by decide) rfl hob1 rfl ?_
        refine V_iload_n 31 C dX1_passHour_30 rfl rfl ?_
        refine V_aald (j := i) 32 C dX1_passHour_31 rfl hfS1 rfl rfl (by omega) (by omega) (hS1 _ (by omega)) ?_
        refine V_iconst 33 C dX1_passHour_32 rfl ic1 ?_
        have hs : i < y 4 := by omega
        obtain ⟨s0, s1, s2, s3, s4, s5⟩ := iS i hs
        unfold NO at s4
        have e62 : inkk (ys y 5 (y 5 + 1)) i (58 + 6 * i + 2) = y (58 + 6 * i + 2) := by rw [inkk_n (fun q hq => by omega), ys_n _ (by omega)]
        have e63 : inkk (ys y 5 (y 5 + 1)) i (58 + 6 * i + 3) = y (58 + 6 * i + 3) := by rw [inkk_n (fun q hq => by omega), ys_n _ (by omega)]
        have hsh := cty_sh hC1 (i := i) (by omega) (by omega)
        refine V_callV 36 C dX1_passHour_33 rfl mX8_inkAfter tw523 fcX8 hsh (c_X8_inkAfter l G _ _ _ _ _ _ _ _ _ hsh (by rw [e62]; exact s2) (by rw [e63]; exact s3) 1 (by omega)) rfl rfl (by decide) ⟨by omega, by omega⟩ (Nat.le_of_ble_eq_true rfl) ?_
        rintro _ _ _ ⟨rfl, rfl, rfl⟩
        refine V_put (fs' := [_, _, _, _, _, _]) (k := 2) 39 C dX1_passHour_36 rfl fcX8 tw98 (by decide) rfl rfl hsh rfl rfl (Nat.le_of_ble_eq_true rfl) rfl ?_
        have hC2 : cty q (inkk (ys y 5 (y 5 + 1)) (i + 1)) (up h1 (q + 20 + i) (c6 (inkk (ys y 5 (y 5 + 1)) i (58 + 6 * i)) (inkk (ys y 5 (y 5 + 1)) i (58 + 6 * i + 1)) (inkk (ys y 5 (y 5 + 1)) i (58 + 6 * i + 2) - 1 * inkk (ys y 5 (y 5 + 1)) i (58 + 6 * i + 3)) (inkk (ys y 5 (y 5 + 1)) i (58 + 6 * i + 3)) (inkk (ys y 5 (y 5 + 1)) i (58 + 6 * i + 4)) (inkk (ys y 5 (y 5 + 1)) i (58 + 6 * i + 5)))) := cty_shp (y' := inkk (ys y 5 (y 5 + 1)) (i + 1)) hC1 (by omega) (by omega) (by omega) (by omega) (fun j hj => by simp only [inkk]; rw [ys_n _ (by omega)]) (by simp only [inkk]; rw [ys_n _ (by omega)]) (by simp only [inkk]; rw [ys_n _ (by omega)]) (by simp only [inkk]; rw [ys_s]; rfl) (by simp only [inkk]; rw [ys_n _ (by omega)]) (by simp only [inkk]; rw [ys_n _ (by omega)]) (by simp only [inkk]; rw [ys_n _ (by omega)])
        refine V_iinc 42 C dX1_passHour_39 rfl (by decide) rfl (ii1 _) (L' := [(0, _), (1, _)]) rfl ?_
        refine V_goto 12 C dX1_passHour_42 (by decide) ?_
        refine V_L [0, 1] rfl ?_
        exact ih12 (i + 1) _ (by omega) hC2 (FR.up hF1 _ (by omega)) (by omega)
  refine V_L [0, 1] rfl ?_
  exact J12 (y 4 + 1) 0 _ (by omega) hCa (FR.up FR.rf _ (by omega)) (by omega)

theorem dX1_passHours_0 : decode cX1_passHours 0 = .ok (.iload_n 1, 1) := by decide +kernel
theorem dX1_passHours_1 : decode cX1_passHours 1 = .ok (.iconst 1, 1) := by decide +kernel
theorem dX1_passHours_2 : decode cX1_passHours 2 = .ok (.bipush 60, 2) := by decide +kernel
theorem dX1_passHours_4 : decode cX1_passHours 4 = .ok (.invokestatic 121, 3) := by decide +kernel
theorem dX1_passHours_7 : decode cX1_passHours 7 = .ok (.ifCond .ne 6, 3) := by decide +kernel
theorem dX1_passHours_10 : decode cX1_passHours 10 = .ok (.bipush (-3), 2) := by decide +kernel
theorem dX1_passHours_12 : decode cX1_passHours 12 = .ok (.ireturn, 1) := by decide +kernel
theorem dX1_passHours_13 : decode cX1_passHours 13 = .ok (.iconst 0, 1) := by decide +kernel
theorem dX1_passHours_14 : decode cX1_passHours 14 = .ok (.istore_n 2, 1) := by decide +kernel
theorem dX1_passHours_15 : decode cX1_passHours 15 = .ok (.iconst 0, 1) := by decide +kernel
theorem dX1_passHours_16 : decode cX1_passHours 16 = .ok (.istore_n 3, 1) := by decide +kernel
theorem dX1_passHours_17 : decode cX1_passHours 17 = .ok (.iload_n 3, 1) := by decide +kernel
theorem dX1_passHours_18 : decode cX1_passHours 18 = .ok (.iload_n 1, 1) := by decide +kernel
theorem dX1_passHours_19 : decode cX1_passHours 19 = .ok (.if_icmp .ge 16, 3) := by decide +kernel
theorem dX1_passHours_22 : decode cX1_passHours 22 = .ok (.iload_n 2, 1) := by decide +kernel
theorem dX1_passHours_23 : decode cX1_passHours 23 = .ok (.aload_n 0, 1) := by decide +kernel
theorem dX1_passHours_24 : decode cX1_passHours 24 = .ok (.invokevirtual 184, 3) := by decide +kernel
theorem dX1_passHours_27 : decode cX1_passHours 27 = .ok (.iadd, 1) := by decide +kernel
theorem dX1_passHours_28 : decode cX1_passHours 28 = .ok (.istore_n 2, 1) := by decide +kernel
theorem dX1_passHours_29 : decode cX1_passHours 29 = .ok (.iinc 3 1, 3) := by decide +kernel
theorem dX1_passHours_32 : decode cX1_passHours 32 = .ok (.goto (-15), 3) := by decide +kernel
theorem dX1_passHours_35 : decode cX1_passHours 35 = .ok (.iload_n 2, 1) := by decide +kernel
theorem dX1_passHours_36 : decode cX1_passHours 36 = .ok (.ireturn, 1) := by decide +kernel
set_option maxRecDepth 100000 in
set_option maxHeartbeats 4000000 in
theorem c_X1_passHours (l : Launch) (G : GT) (n : Nat) (h : AH) (q : Nat) (y : Nat → Nat) (hC : cty q y h) (hI : Iv y) (k9 : Int32) : Ct l yX1_passHours cX1_passHours 4 (some .int) 4 0 0 G n h [.ref q, .int k9] (AP q n h (aHr y k9)) := by
  obtain ⟨⟨i0, i1, i2, i3, i4⟩, iR, iU, iM, iS⟩ := id hI
  obtain ⟨hob, ⟨fR, hfR, hR⟩, ⟨fU, hfU, hU⟩, ⟨fS, hfS, hS⟩, ⟨fM, hfM, hM⟩, -, -, -⟩ := id hC
  refine Ct_of mX1_passHours.1 (Nat.le_of_ble_eq_true rfl) ?_
  intro p e s m args below meth c C hin
  refine V_Le (L' := [(0, .ref q), (1, .int k9)]) rfl ?_
  refine V_iload_n 1 C dX1_passHours_0 rfl rfl ?_
  refine V_iconst 2 C dX1_passHours_1 rfl ic1 ?_
  refine V_bipush 4 C dX1_passHours_2 rfl bip60 ?_
  refine V_callSN (host := RX9) 7 C dX1_passHours_4 rfl mX9_inRange (by decide +kernel) (c_X9_inRange l G _ _ _ _ _) rfl rfl (by decide) ⟨by omega, by omega⟩ (Nat.le_of_ble_eq_true rfl) ?_
  rintro _ _ _ ⟨rfl, rfl, rfl⟩
  refine V_if_neB 13 10 C dX1_passHours_7 (by decide) rfl  (fun c7 => ?_) (fun c7 => ?_)
  · have hk9 : 1 ≤ k9.toInt ∧ k9.toInt ≤ 60 := by have := c7; rw [nI_toInt (by decide), nI_toInt (by decide)] at this; omega
    have eR : aHr y k9 = (nI (coms y (z k9)), hrs y (z k9)) := by unfold aHr; rw [if_pos hk9]
    obtain ⟨j9, hj9, rfl⟩ := ix_of (t := k9) (n := 61) ⟨by omega, by omega⟩ (by decide)
    rw [zn (by omega)] at eR
    have hQ := Iv_hrs hI
    refine V_iconst 14 C dX1_passHours_13 rfl ic0 ?_
    refine V_istore_n 15 C dX1_passHours_14 rfl (by decide) (L' := [(0, _), (1, _), (2, _)]) rfl ?_
    refine V_iconst 16 C dX1_passHours_15 rfl ic0 ?_
    refine V_istore_n 17 C dX1_passHours_16 rfl (by decide) (L' := [(0, _), (1, _), (2, _), (3, _)]) rfl ?_
    have J17 : ∀ (fuel : Nat) (i : Nat) (h1 : AH) (hi : i ≤ j9) (hC1 : cty q (hrs y i) h1) (hF1 : FR q h h1), j9 - i < fuel → V p l e (rmD 4 0 0) s m args below meth c (MQ below (Po G (AP q n h (aHr y (nI j9)))) args s 0 0 (rg G)) G 4 0 0 n h1 17 [(0, .ref q), (1, .int (nI j9)), (2, .int (nI (coms y i))), (3, .int (nI i))] [] := by
      intro fuel
      induction fuel with
      | zero => intro i h1 hi hC1 hF1 hf; omega
      | succ fuel ih17 =>
        intro i h1 hi hC1 hF1 hf
        refine V_iload_n 18 C dX1_passHours_17 rfl rfl ?_
        refine V_iload_n 19 C dX1_passHours_18 rfl rfl ?_
        refine V_icmp_geN 35 22 C dX1_passHours_19 (by decide) rfl (by omega) (by omega) (fun c19 => ?_) (fun c19 => ?_)
        · refine V_iload_n 36 C dX1_passHours_35 rfl rfl ?_
          refine V_ireturn C dX1_passHours_36 rfl rfl (by omega) (by omega) ?_
          exact (AP_mk (by rw [show i = j9 from by omega]; exact eR) (by rw [show i = j9 from by omega] at hC1; exact hC1) hF1)
        · refine V_iload_n 23 C dX1_passHours_22 rfl rfl ?_
          refine V_aload_n 24 C dX1_passHours_23 rfl rfl ?_
          refine V_callV 27 C dX1_passHours_24 rfl mX1_passHour tw519 fcX1 hC1.1 (c_X1_passHour l G _ _ q _ hC1 (hQ i)) rfl rfl (by decide) ⟨by omega, by omega⟩ (Nat.le_of_ble_eq_true rfl) ?_
          rintro _ _ h2 ⟨rfl, rfl, hC2, hF2⟩
          refine V_iaddN 28 C dX1_passHours_27 rfl  ?_
          refine V_istore_n 29 C dX1_passHours_28 rfl (by decide) (L' := [(0, _), (1, _), (2, _), (3, _)]) rfl ?_
          refine V_iinc 32 C dX1_passHours_29 rfl (by decide) rfl (ii1 _) (L' := [(0, _), (1, _), (2, _), (3, _)]) rfl ?_
          refine V_goto 17 C dX1_passHours_32 (by decide) ?_
          refine V_L [0, 1, 2, 3] rfl ?_
          exact ih17 (i + 1) _ (by omega) hC2 (hF1.tr hF2) (by omega)
    refine V_L [0, 1, 2, 3] rfl ?_
    exact J17 (j9 + 1) 0 h (by omega) hC FR.rf (by omega)
  · refine V_bipush 12 C dX1_passHours_10 rfl bipm3 ?_
    refine V_ireturn C dX1_passHours_12 rfl rfl (by omega) (by omega) ?_
    exact (AP_mk (by unfold aHr; rw [if_neg (fun e => c7 (by rw [nI_toInt (by decide), nI_toInt (by decide)]; omega))]; rfl) hC FR.rf)

theorem dX1_clear_0 : decode cX1_clear 0 = .ok (.aload_n 0, 1) := by decide +kernel
theorem dX1_clear_1 : decode cX1_clear 1 = .ok (.iconst 0, 1) := by decide +kernel
theorem dX1_clear_2 : decode cX1_clear 2 = .ok (.putfield 36, 3) := by decide +kernel
theorem dX1_clear_5 : decode cX1_clear 5 = .ok (.aload_n 0, 1) := by decide +kernel
theorem dX1_clear_6 : decode cX1_clear 6 = .ok (.iconst 0, 1) := by decide +kernel
theorem dX1_clear_7 : decode cX1_clear 7 = .ok (.putfield 40, 3) := by decide +kernel
theorem dX1_clear_10 : decode cX1_clear 10 = .ok (.aload_n 0, 1) := by decide +kernel
theorem dX1_clear_11 : decode cX1_clear 11 = .ok (.iconst 0, 1) := by decide +kernel
theorem dX1_clear_12 : decode cX1_clear 12 = .ok (.putfield 43, 3) := by decide +kernel
theorem dX1_clear_15 : decode cX1_clear 15 = .ok (.aload_n 0, 1) := by decide +kernel
theorem dX1_clear_16 : decode cX1_clear 16 = .ok (.iconst 0, 1) := by decide +kernel
theorem dX1_clear_17 : decode cX1_clear 17 = .ok (.putfield 46, 3) := by decide +kernel
theorem dX1_clear_20 : decode cX1_clear 20 = .ok (.aload_n 0, 1) := by decide +kernel
theorem dX1_clear_21 : decode cX1_clear 21 = .ok (.iconst 0, 1) := by decide +kernel
theorem dX1_clear_22 : decode cX1_clear 22 = .ok (.putfield 49, 3) := by decide +kernel
theorem dX1_clear_25 : decode cX1_clear 25 = .ok (.aload_n 0, 1) := by decide +kernel
theorem dX1_clear_26 : decode cX1_clear 26 = .ok (.iconst 0, 1) := by decide +kernel
theorem dX1_clear_27 : decode cX1_clear 27 = .ok (.putfield 52, 3) := by decide +kernel
theorem dX1_clear_30 : decode cX1_clear 30 = .ok (.aload_n 0, 1) := by decide +kernel
theorem dX1_clear_31 : decode cX1_clear 31 = .ok (.iconst 0, 1) := by decide +kernel
theorem dX1_clear_32 : decode cX1_clear 32 = .ok (.putfield 55, 3) := by decide +kernel
theorem dX1_clear_35 : decode cX1_clear 35 = .ok (.return_, 1) := by decide +kernel
set_option maxRecDepth 100000 in
set_option maxHeartbeats 4000000 in
theorem c_X1_clear (l : Launch) (G : GT) (n : Nat) (h : AH) (q : Nat) (y : Nat → Nat) (hC : cty q y h) : Ct l yX1_clear cX1_clear 1 none 1 0 0 G n h [.ref q] (Rv n (fun h' => cty q (fun j => if j < 7 then 0 else y j) h' ∧ FR q h h')) := by
  have hob := hC.1
  refine Ct_of mX1_clear.1 (Nat.le_of_ble_eq_true rfl) ?_
  intro p e s m args below meth c C hin
  refine V_Le (L' := [(0, .ref q)]) rfl ?_
  refine V_aload_n 1 C dX1_clear_0 rfl rfl ?_
  refine V_iconst 2 C dX1_clear_1 rfl ic0 ?_
  refine V_put (fs' := [_, _, _, _, _, _, _, _, _, _, _]) (k := 0) 5 C dX1_clear_2 rfl fcX1 tw122 (by decide) rfl rfl hob rfl rfl (Nat.le_of_ble_eq_true rfl) rfl ?_
  refine V_aload_n 6 C dX1_clear_5 rfl rfl ?_
  refine V_iconst 7 C dX1_clear_6 rfl ic0 ?_
  refine V_put (fs' := [_, _, _, _, _, _, _, _, _, _, _]) (k := 1) 10 C dX1_clear_7 rfl fcX1 tw124 (by decide) rfl rfl (up_s _ _ _) rfl rfl (Nat.le_of_ble_eq_true rfl) rfl ?_
  rw [up_up]
  refine V_aload_n 11 C dX1_clear_10 rfl rfl ?_
  refine V_iconst 12 C dX1_clear_11 rfl ic0 ?_
  refine V_put (fs' := [_, _, _, _, _, _, _, _, _, _, _]) (k := 2) 15 C dX1_clear_12 rfl fcX1 tw127 (by decide) rfl rfl (up_s _ _ _) rfl rfl (Nat.le_of_ble_eq_true rfl) rfl ?_
  rw [up_up]
  refine V_aload_n 16 C dX1_clear_15 rfl rfl ?_
  refine V_iconst 17 C dX1_clear_16 rfl ic0 ?_
  refine V_put (fs' := [_, _, _, _, _, _, _, _, _, _, _]) (k := 3) 20 C dX1_clear_17 rfl fcX1 tw129 (by decide) rfl rfl (up_s _ _ _) rfl rfl (Nat.le_of_ble_eq_true rfl) rfl ?_
  rw [up_up]
  refine V_aload_n 21 C dX1_clear_20 rfl rfl ?_
  refine V_iconst 22 C dX1_clear_21 rfl ic0 ?_
  refine V_put (fs' := [_, _, _, _, _, _, _, _, _, _, _]) (k := 4) 25 C dX1_clear_22 rfl fcX1 tw131 (by decide) rfl rfl (up_s _ _ _) rfl rfl (Nat.le_of_ble_eq_true rfl) rfl ?_
  rw [up_up]
  refine V_aload_n 26 C dX1_clear_25 rfl rfl ?_
  refine V_iconst 27 C dX1_clear_26 rfl ic0 ?_
  refine V_put (fs' := [_, _, _, _, _, _, _, _, _, _, _]) (k := 5) 30 C dX1_clear_27 rfl fcX1 tw133 (by decide) rfl rfl (up_s _ _ _) rfl rfl (Nat.le_of_ble_eq_true rfl) rfl ?_
  rw [up_up]
  refine V_aload_n 31 C dX1_clear_30 rfl rfl ?_
  refine V_iconst 32 C dX1_clear_31 rfl ic0 ?_
  refine V_put (fs' := [_, _, _, _, _, _, _, _, _, _, _]) (k := 6) 35 C dX1_clear_32 rfl fcX1 tw135 (by decide) rfl rfl (up_s _ _ _) rfl rfl (Nat.le_of_ble_eq_true rfl) rfl ?_
  rw [up_up]
  refine V_return C dX1_clear_35 rfl (by omega) (by omega) ?_
  exact ⟨rfl, rfl, cty_ob (y' := fun j => if j < 7 then 0 else y j) hC (Nat.zero_le _) (Nat.zero_le _) (Nat.zero_le _) (Nat.zero_le _) (fun j hj => if_neg (by omega)), FR.up FR.rf _ (by omega)⟩

theorem dX1_copyFrom_0 : decode cX1_copyFrom 0 = .ok (.aload_n 0, 1) := by decide +kernel
theorem dX1_copyFrom_1 : decode cX1_copyFrom 1 = .ok (.aload_n 1, 1) := by decide +kernel
theorem dX1_copyFrom_2 : decode cX1_copyFrom 2 = .ok (.getfield 36, 3) := by decide +kernel
theorem dX1_copyFrom_5 : decode cX1_copyFrom 5 = .ok (.putfield 36, 3) := by decide +kernel
theorem dX1_copyFrom_8 : decode cX1_copyFrom 8 = .ok (.aload_n 0, 1) := by decide +kernel
theorem dX1_copyFrom_9 : decode cX1_copyFrom 9 = .ok (.aload_n 1, 1) := by decide +kernel
theorem dX1_copyFrom_10 : decode cX1_copyFrom 10 = .ok (.getfield 40, 3) := by decide +kernel
theorem dX1_copyFrom_13 : decode cX1_copyFrom 13 = .ok (.putfield 40, 3) := by decide +kernel
theorem dX1_copyFrom_16 : decode cX1_copyFrom 16 = .ok (.aload_n 0, 1) := by decide +kernel
theorem dX1_copyFrom_17 : decode cX1_copyFrom 17 = .ok (.aload_n 1, 1) := by decide +kernel
theorem dX1_copyFrom_18 : decode cX1_copyFrom 18 = .ok (.getfield 43, 3) := by decide +kernel
theorem dX1_copyFrom_21 : decode cX1_copyFrom 21 = .ok (.putfield 43, 3) := by decide +kernel
theorem dX1_copyFrom_24 : decode cX1_copyFrom 24 = .ok (.aload_n 0, 1) := by decide +kernel
theorem dX1_copyFrom_25 : decode cX1_copyFrom 25 = .ok (.aload_n 1, 1) := by decide +kernel
theorem dX1_copyFrom_26 : decode cX1_copyFrom 26 = .ok (.getfield 46, 3) := by decide +kernel
theorem dX1_copyFrom_29 : decode cX1_copyFrom 29 = .ok (.putfield 46, 3) := by decide +kernel
theorem dX1_copyFrom_32 : decode cX1_copyFrom 32 = .ok (.aload_n 0, 1) := by decide +kernel
theorem dX1_copyFrom_33 : decode cX1_copyFrom 33 = .ok (.aload_n 1, 1) := by decide +kernel
theorem dX1_copyFrom_34 : decode cX1_copyFrom 34 = .ok (.getfield 49, 3) := by decide +kernel
theorem dX1_copyFrom_37 : decode cX1_copyFrom 37 = .ok (.putfield 49, 3) := by decide +kernel
theorem dX1_copyFrom_40 : decode cX1_copyFrom 40 = .ok (.aload_n 0, 1) := by decide +kernel
theorem dX1_copyFrom_41 : decode cX1_copyFrom 41 = .ok (.aload_n 1, 1) := by decide +kernel
theorem dX1_copyFrom_42 : decode cX1_copyFrom 42 = .ok (.getfield 52, 3) := by decide +kernel
theorem dX1_copyFrom_45 : decode cX1_copyFrom 45 = .ok (.putfield 52, 3) := by decide +kernel
theorem dX1_copyFrom_48 : decode cX1_copyFrom 48 = .ok (.aload_n 0, 1) := by decide +kernel
theorem dX1_copyFrom_49 : decode cX1_copyFrom 49 = .ok (.aload_n 1, 1) := by decide +kernel
theorem dX1_copyFrom_50 : decode cX1_copyFrom 50 = .ok (.getfield 55, 3) := by decide +kernel
theorem dX1_copyFrom_53 : decode cX1_copyFrom 53 = .ok (.putfield 55, 3) := by decide +kernel
theorem dX1_copyFrom_56 : decode cX1_copyFrom 56 = .ok (.iconst 0, 1) := by decide +kernel
theorem dX1_copyFrom_57 : decode cX1_copyFrom 57 = .ok (.istore_n 2, 1) := by decide +kernel
theorem dX1_copyFrom_58 : decode cX1_copyFrom 58 = .ok (.iload_n 2, 1) := by decide +kernel
theorem dX1_copyFrom_59 : decode cX1_copyFrom 59 = .ok (.aload_n 0, 1) := by decide +kernel
theorem dX1_copyFrom_60 : decode cX1_copyFrom 60 = .ok (.getfield 40, 3) := by decide +kernel
theorem dX1_copyFrom_63 : decode cX1_copyFrom 63 = .ok (.if_icmp .ge 24, 3) := by decide +kernel
theorem dX1_copyFrom_66 : decode cX1_copyFrom 66 = .ok (.aload_n 0, 1) := by decide +kernel
theorem dX1_copyFrom_67 : decode cX1_copyFrom 67 = .ok (.getfield 11, 3) := by decide +kernel
theorem dX1_copyFrom_70 : decode cX1_copyFrom 70 = .ok (.iload_n 2, 1) := by decide +kernel
theorem dX1_copyFrom_71 : decode cX1_copyFrom 71 = .ok (.aaload, 1) := by decide +kernel
theorem dX1_copyFrom_72 : decode cX1_copyFrom 72 = .ok (.aload_n 1, 1) := by decide +kernel
theorem dX1_copyFrom_73 : decode cX1_copyFrom 73 = .ok (.getfield 11, 3) := by decide +kernel
theorem dX1_copyFrom_76 : decode cX1_copyFrom 76 = .ok (.iload_n 2, 1) := by decide +kernel
theorem dX1_copyFrom_77 : decode cX1_copyFrom 77 = .ok (.aaload, 1) := by decide +kernel
theorem dX1_copyFrom_78 : decode cX1_copyFrom 78 = .ok (.invokevirtual 58, 3) := by decide +kernel
theorem dX1_copyFrom_81 : decode cX1_copyFrom 81 = .ok (.iinc 2 1, 3) := by decide +kernel
theorem dX1_copyFrom_84 : decode cX1_copyFrom 84 = .ok (.goto (-26), 3) := by decide +kernel
theorem dX1_copyFrom_87 : decode cX1_copyFrom 87 = .ok (.iconst 0, 1) := by decide +kernel
theorem dX1_copyFrom_88 : decode cX1_copyFrom 88 = .ok (.istore_n 2, 1) := by decide +kernel
theorem dX1_copyFrom_89 : decode cX1_copyFrom 89 = .ok (.iload_n 2, 1) := by decide +kernel
theorem dX1_copyFrom_90 : decode cX1_copyFrom 90 = .ok (.aload_n 0, 1) := by decide +kernel
theorem dX1_copyFrom_91 : decode cX1_copyFrom 91 = .ok (.getfield 43, 3) := by decide +kernel
theorem dX1_copyFrom_94 : decode cX1_copyFrom 94 = .ok (.if_icmp .ge 24, 3) := by decide +kernel
theorem dX1_copyFrom_97 : decode cX1_copyFrom 97 = .ok (.aload_n 0, 1) := by decide +kernel
theorem dX1_copyFrom_98 : decode cX1_copyFrom 98 = .ok (.getfield 20, 3) := by decide +kernel
theorem dX1_copyFrom_101 : decode cX1_copyFrom 101 = .ok (.iload_n 2, 1) := by decide +kernel
theorem dX1_copyFrom_102 : decode cX1_copyFrom 102 = .ok (.aaload, 1) := by decide +kernel
theorem dX1_copyFrom_103 : decode cX1_copyFrom 103 = .ok (.aload_n 1, 1) := by decide +kernel
theorem dX1_copyFrom_104 : decode cX1_copyFrom 104 = .ok (.getfield 20, 3) := by decide +kernel
theorem dX1_copyFrom_107 : decode cX1_copyFrom 107 = .ok (.iload_n 2, 1) := by decide +kernel
theorem dX1_copyFrom_108 : decode cX1_copyFrom 108 = .ok (.aaload, 1) := by decide +kernel
theorem dX1_copyFrom_109 : decode cX1_copyFrom 109 = .ok (.invokevirtual 62, 3) := by decide +kernel
theorem dX1_copyFrom_112 : decode cX1_copyFrom 112 = .ok (.iinc 2 1, 3) := by decide +kernel
theorem dX1_copyFrom_115 : decode cX1_copyFrom 115 = .ok (.goto (-26), 3) := by decide +kernel
theorem dX1_copyFrom_118 : decode cX1_copyFrom 118 = .ok (.iconst 0, 1) := by decide +kernel
theorem dX1_copyFrom_119 : decode cX1_copyFrom 119 = .ok (.istore_n 2, 1) := by decide +kernel
theorem dX1_copyFrom_120 : decode cX1_copyFrom 120 = .ok (.iload_n 2, 1) := by decide +kernel
theorem dX1_copyFrom_121 : decode cX1_copyFrom 121 = .ok (.aload_n 0, 1) := by decide +kernel
theorem dX1_copyFrom_122 : decode cX1_copyFrom 122 = .ok (.getfield 46, 3) := by decide +kernel
theorem dX1_copyFrom_125 : decode cX1_copyFrom 125 = .ok (.if_icmp .ge 21, 3) := by decide +kernel
theorem dX1_copyFrom_128 : decode cX1_copyFrom 128 = .ok (.aload_n 0, 1) := by decide +kernel
theorem dX1_copyFrom_129 : decode cX1_copyFrom 129 = .ok (.getfield 25, 3) := by decide +kernel
theorem dX1_copyFrom_132 : decode cX1_copyFrom 132 = .ok (.iload_n 2, 1) := by decide +kernel
theorem dX1_copyFrom_133 : decode cX1_copyFrom 133 = .ok (.aload_n 1, 1) := by decide +kernel
theorem dX1_copyFrom_134 : decode cX1_copyFrom 134 = .ok (.getfield 25, 3) := by decide +kernel
theorem dX1_copyFrom_137 : decode cX1_copyFrom 137 = .ok (.iload_n 2, 1) := by decide +kernel
theorem dX1_copyFrom_138 : decode cX1_copyFrom 138 = .ok (.iaload, 1) := by decide +kernel
theorem dX1_copyFrom_139 : decode cX1_copyFrom 139 = .ok (.iastore, 1) := by decide +kernel
theorem dX1_copyFrom_140 : decode cX1_copyFrom 140 = .ok (.iinc 2 1, 3) := by decide +kernel
theorem dX1_copyFrom_143 : decode cX1_copyFrom 143 = .ok (.goto (-23), 3) := by decide +kernel
theorem dX1_copyFrom_146 : decode cX1_copyFrom 146 = .ok (.iconst 0, 1) := by decide +kernel
theorem dX1_copyFrom_147 : decode cX1_copyFrom 147 = .ok (.istore_n 2, 1) := by decide +kernel
theorem dX1_copyFrom_148 : decode cX1_copyFrom 148 = .ok (.iload_n 2, 1) := by decide +kernel
theorem dX1_copyFrom_149 : decode cX1_copyFrom 149 = .ok (.aload_n 0, 1) := by decide +kernel
theorem dX1_copyFrom_150 : decode cX1_copyFrom 150 = .ok (.getfield 49, 3) := by decide +kernel
theorem dX1_copyFrom_153 : decode cX1_copyFrom 153 = .ok (.if_icmp .ge 24, 3) := by decide +kernel
theorem dX1_copyFrom_156 : decode cX1_copyFrom 156 = .ok (.aload_n 0, 1) := by decide +kernel
theorem dX1_copyFrom_157 : decode cX1_copyFrom 157 = .ok (.getfield 31, 3) := by decide +kernel
theorem dX1_copyFrom_160 : decode cX1_copyFrom 160 = .ok (.iload_n 2, 1) := by decide +kernel
theorem dX1_copyFrom_161 : decode cX1_copyFrom 161 = .ok (.aaload, 1) := by decide +kernel
theorem dX1_copyFrom_162 : decode cX1_copyFrom 162 = .ok (.aload_n 1, 1) := by decide +kernel
theorem dX1_copyFrom_163 : decode cX1_copyFrom 163 = .ok (.getfield 31, 3) := by decide +kernel
theorem dX1_copyFrom_166 : decode cX1_copyFrom 166 = .ok (.iload_n 2, 1) := by decide +kernel
theorem dX1_copyFrom_167 : decode cX1_copyFrom 167 = .ok (.aaload, 1) := by decide +kernel
theorem dX1_copyFrom_168 : decode cX1_copyFrom 168 = .ok (.invokevirtual 65, 3) := by decide +kernel
theorem dX1_copyFrom_171 : decode cX1_copyFrom 171 = .ok (.iinc 2 1, 3) := by decide +kernel
theorem dX1_copyFrom_174 : decode cX1_copyFrom 174 = .ok (.goto (-26), 3) := by decide +kernel
theorem dX1_copyFrom_177 : decode cX1_copyFrom 177 = .ok (.return_, 1) := by decide +kernel
set_option maxRecDepth 100000 in
set_option maxHeartbeats 4000000 in
theorem c_X1_copyFrom (l : Launch) (G : GT) (n : Nat) (h : AH) (q q2 : Nat) (x y : Nat → Nat) (hC : cty q x h) (hCo : cty q2 y h) (hI : Iv y) (hd : q2 + 32 ≤ q ∨ q + 32 ≤ q2) : Ct l yX1_copyFrom cX1_copyFrom 3 none 2 0 0 G n h [.ref q, .ref q2] (Rv n (fun h' => cty q y h' ∧ FR q h h')) := by
  obtain ⟨⟨i0, i1, i2, i3, i4⟩, iR, iU, iM, iS⟩ := id hI
  have hob := hC.1
  have hob2 := hCo.1
  refine Ct_of mX1_copyFrom.1 (Nat.le_of_ble_eq_true rfl) ?_
  intro p e s m args below meth c C hin
  refine V_Le (L' := [(0, .ref q), (1, .ref q2)]) rfl ?_
  refine V_aload_n 1 C dX1_copyFrom_0 rfl rfl ?_
  refine V_aload_n 2 C dX1_copyFrom_1 rfl rfl ?_
  refine V_get (k := 0) 5 C dX1_copyFrom_2 rfl fcX1 tw122 (by decide) rfl hob2 rfl ?_
  refine V_put (fs' := [_, _, _, _, _, _, _, _, _, _, _]) (k := 0) 8 C dX1_copyFrom_5 rfl fcX1 tw122 (by decide) rfl rfl hob rfl rfl (Nat.le_of_ble_eq_true rfl) rfl ?_
  refine V_aload_n 9 C dX1_copyFrom_8 rfl rfl ?_
  refine V_aload_n 10 C dX1_copyFrom_9 rfl rfl ?_
  refine V_get (k := 1) 13 C dX1_copyFrom_10 rfl fcX1 tw124 (by decide) rfl (show up h q _ q2 = _ from by rw [up_n _ (by omega)]; exact hob2) rfl ?_
  refine V_put (fs' := [_, _, _, _, _, _, _, _, _, _, _]) (k := 1) 16 C dX1_copyFrom_13 rfl fcX1 tw124 (by decide) rfl rfl (up_s _ _ _) rfl rfl (Nat.le_of_ble_eq_true rfl) rfl ?_
  rw [up_up]
  refine V_aload_n 17 C dX1_copyFrom_16 rfl rfl ?_
  refine V_aload_n 18 C dX1_copyFrom_17 rfl rfl ?_
  refine V_get (k := 2) 21 C dX1_copyFrom_18 rfl fcX1 tw127 (by decide) rfl (show up h q _ q2 = _ from by rw [up_n _ (by omega)]; exact hob2) rfl ?_
  refine V_put (fs' := [_, _, _, _, _, _, _, _, _, _, _]) (k := 2) 24 C dX1_copyFrom_21 rfl fcX1 tw127 (by decide) rfl rfl (up_s _ _ _) rfl rfl (Nat.le_of_ble_eq_true rfl) rfl ?_
  rw [up_up]
  refine V_aload_n 25 C dX1_copyFrom_24 rfl rfl ?_
  refine V_aload_n 26 C dX1_copyFrom_25 rfl rfl ?_
  refine V_get (k := 3) 29 C dX1_copyFrom_26 rfl fcX1 tw129 (by decide) rfl (show up h q _ q2 = _ from by rw [up_n _ (by omega)]; exact hob2) rfl ?_
  refine V_put (fs' := [_, _, _, _, _, _, _, _, _, _, _]) (k := 3) 32 C dX1_copyFrom_29 rfl fcX1 tw129 (by decide) rfl rfl (up_s _ _ _) rfl rfl (Nat.le_of_ble_eq_true rfl) rfl ?_
  rw [up_up]
  refine V_aload_n 33 C dX1_copyFrom_32 rfl rfl ?_
  refine V_aload_n 34 C dX1_copyFrom_33 rfl rfl ?_
  refine V_get (k := 4) 37 C dX1_copyFrom_34 rfl fcX1 tw131 (by decide) rfl (show up h q _ q2 = _ from by rw [up_n _ (by omega)]; exact hob2) rfl ?_
  refine V_put (fs' := [_, _, _, _, _, _, _, _, _, _, _]) (k := 4) 40 C dX1_copyFrom_37 rfl fcX1 tw131 (by decide) rfl rfl (up_s _ _ _) rfl rfl (Nat.le_of_ble_eq_true rfl) rfl ?_
  rw [up_up]
  refine V_aload_n 41 C dX1_copyFrom_40 rfl rfl ?_
  refine V_aload_n 42 C dX1_copyFrom_41 rfl rfl ?_
  refine V_get (k := 5) 45 C dX1_copyFrom_42 rfl fcX1 tw133 (by decide) rfl (show up h q _ q2 = _ from by rw [up_n _ (by omega)]; exact hob2) rfl ?_
  refine V_put (fs' := [_, _, _, _, _, _, _, _, _, _, _]) (k := 5) 48 C dX1_copyFrom_45 rfl fcX1 tw133 (by decide) rfl rfl (up_s _ _ _) rfl rfl (Nat.le_of_ble_eq_true rfl) rfl ?_
  rw [up_up]
  refine V_aload_n 49 C dX1_copyFrom_48 rfl rfl ?_
  refine V_aload_n 50 C dX1_copyFrom_49 rfl rfl ?_
  refine V_get (k := 6) 53 C dX1_copyFrom_50 rfl fcX1 tw135 (by decide) rfl (show up h q _ q2 = _ from by rw [up_n _ (by omega)]; exact hob2) rfl ?_
  refine V_put (fs' := [_, _, _, _, _, _, _, _, _, _, _]) (k := 6) 56 C dX1_copyFrom_53 rfl fcX1 tw135 (by decide) rfl rfl (up_s _ _ _) rfl rfl (Nat.le_of_ble_eq_true rfl) rfl ?_
  rw [up_up]
  have hK0 : ctyK q y 0 0 0 0 (up h q (.inr (1, [.int (nI (y 0)), .int (nI (y 1)), .int (nI (y 2)), .int (nI (y 3)), .int (nI (y 4)), .int (nI (y 5)), .int (nI (y 6)), .ref (q + 1), .ref (q + 12), .ref (q + 18), .ref (q + 19)]))) := ctyK_0 (y := y) hC
  refine V_iconst 57 C dX1_copyFrom_56 rfl ic0 ?_
  refine V_istore_n 58 C dX1_copyFrom_57 rfl (by decide) (L' := [(0, _), (1, _), (2, _)]) rfl ?_
  have J58 : ∀ (fuel : Nat) (i : Nat) (h1 : AH) (hi : i ≤ y 1) (hK1 : ctyK q y i 0 0 0 h1) (hF1 : FR q h h1), y 1 - i < fuel → V p l e (rmD 2 0 0) s m args below meth c (MQ below (Po G (Rv n (fun h' => cty q y h' ∧ FR q h h'))) args s 0 0 (rg G)) G 3 0 0 n h1 58 [(0, .ref q), (1, .ref q2), (2, .int (nI i))] [] := by
    intro fuel
    induction fuel with
    | zero => intro i h1 hi hK1 hF1 hf; omega
    | succ fuel ih58 =>
      intro i h1 hi hK1 hF1 hf
      have hC2 := hCo.fr (fun a g1 g2 => hF1 a (by omega))
      obtain ⟨hobA, ⟨fRA, hfRA, hRA⟩, ⟨fUA, hfUA, hUA⟩, ⟨fSA, hfSA, hSA⟩, ⟨fMA, hfMA, hMA⟩, -, -, -⟩ := id hC2
      obtain ⟨hob1, ⟨fR1, hfR1, hR1⟩, ⟨fU1, hfU1, hU1⟩, ⟨fS1, hfS1, hS1⟩, ⟨fM1, hfM1, hM1⟩, hRd1, hRu1, hSh1⟩ := id hK1
      refine V_iload_n 59 C dX1_copyFrom_58 rfl rfl ?_
      refine V_aload_n 60 C dX1_copyFrom_59 rfl rfl ?_
      refine V_get (k := 1) 63 C dX1_copyFrom_60 rfl fcX1 tw124 (by decide) rfl hob1 rfl ?_
      refine V_icmp_geN 87 66 C dX1_copyFrom_63 (by decide) rfl (by omega) (by omega) (fun c63 => ?_) (fun c63 => ?_)
      · refine V_iconst 88 C dX1_copyFrom_87 rfl ic0 ?_
        refine V_istore_n 89 C dX1_copyFrom_88 rfl (by decide) (L' := [(0, _), (1, _), (2, _)]) rfl ?_
        have J89 : ∀ (fuel : Nat) (i : Nat) (h1 : AH) (hi : i ≤ y 2) (hK1 : ctyK q y (y 1) i 0 0 h1) (hF1 : FR q h h1), y 2 - i < fuel → V p l e (rmD 2 0 0) s m args below meth c (MQ below (Po G (Rv n (fun h' => cty q y h' ∧ FR q h h'))) args s 0 0 (rg G)) G 3 0 0 n h1 89 [(0, .ref q), (1, .ref q2), (2, .int (nI i))] [] := by
          intro fuel
          induction fuel with
          | zero => intro i h1 hi hK1 hF1 hf; omega
          | succ fuel ih89 =>
            intro i h1 hi hK1 hF1 hf
            have hC2 := hCo.fr (fun a g1 g2 => hF1 a (by omega))
            obtain ⟨hobA, ⟨fRA, hfRA, hRA⟩, ⟨fUA, hfUA, hUA⟩, ⟨fSA, hfSA, hSA⟩, ⟨fMA, hfMA, hMA⟩, -, -, -⟩ := id hC2
            obtain ⟨hob1, ⟨fR1, hfR1, hR1⟩, ⟨fU1, hfU1, hU1⟩, ⟨fS1, hfS1, hS1⟩, ⟨fM1, hfM1, hM1⟩, hRd1, hRu1, hSh1⟩ := id hK1
            refine V_iload_n 90 C dX1_copyFrom_89 rfl rfl ?_
            refine V_aload_n 91 C dX1_copyFrom_90 rfl rfl ?_
            refine V_get (k := 2) 94 C dX1_copyFrom_91 rfl fcX1 tw127 (by decide) rfl hob1 rfl ?_
            refine V_icmp_geN 118 97 C dX1_copyFrom_94 (by decide) rfl (by omega) (by omega) (fun c94 => ?_) (fun c94 => ?_)
            · refine V_iconst 119 C dX1_copyFrom_118 rfl ic0 ?_
              refine V_istore_n 120 C dX1_copyFrom_119 rfl (by decide) (L' := [(0, _), (1, _), (2, _)]) rfl ?_
              have J120 : ∀ (fuel : Nat) (i : Nat) (h1 : AH) (hi : i ≤ y 3) (hK1 : ctyK q y (y 1) (y 2) i 0 h1) (hF1 : FR q h h1), y 3 - i < fuel → V p l e (rmD 2 0 0) s m args below meth c (MQ below (Po G (Rv n (fun h' => cty q y h' ∧ FR q h h'))) args s 0 0 (rg G)) G 3 0 0 n h1 120 [(0, .ref q), (1, .ref q2), (2, .int (nI i))] [] := by
                intro fuel
                induction fuel with
                | zero => intro i h1 hi hK1 hF1 hf; omega
                | succ fuel ih120 =>
                  intro i h1 hi hK1 hF1 hf
                  have hC2 := hCo.fr (fun a g1 g2 => hF1 a (by omega))
                  obtain ⟨hobA, ⟨fRA, hfRA, hRA⟩, ⟨fUA, hfUA, hUA⟩, ⟨fSA, hfSA, hSA⟩, ⟨fMA, hfMA, hMA⟩, -, -, -⟩ := id hC2
                  obtain ⟨hob1, ⟨fR1, hfR1, hR1⟩, ⟨fU1, hfU1, hU1⟩, ⟨fS1, hfS1, hS1⟩, ⟨fM1, hfM1, hM1⟩, hRd1, hRu1, hSh1⟩ := id hK1
                  refine V_iload_n 121 C dX1_copyFrom_120 rfl rfl ?_
                  refine V_aload_n 122 C dX1_copyFrom_121 rfl rfl ?_
                  refine V_get (k := 3) 125 C dX1_copyFrom_122 rfl fcX1 tw129 (by decide) rfl hob1 rfl ?_
                  refine V_icmp_geN 146 128 C dX1_copyFrom_125 (by decide) rfl (by omega) (by omega) (fun c125 => ?_) (fun c125 => ?_)
                  · refine V_iconst 147 C dX1_copyFrom_146 rfl ic0 ?_
                    refine V_istore_n 148 C dX1_copyFrom_147 rfl (by decide) (L' := [(0, _), (1, _), (2, _)]) rfl ?_
                    have J148 : ∀ (fuel : Nat) (i : Nat) (h1 : AH) (hi : i ≤ y 4) (hK1 : ctyK q y (y 1) (y 2) (y 3) i h1) (hF1 : FR q h h1), y 4 - i < fuel → V p l e (rmD 2 0 0) s m args below meth c (MQ below (Po G (Rv n (fun h' => cty q y h' ∧ FR q h h'))) args s 0 0 (rg G)) G 3 0 0 n h1 148 [(0, .ref q), (1, .ref q2), (2, .int (nI i))] [] := by
                      intro fuel
                      induction fuel with
                      | zero => intro i h1 hi hK1 hF1 hf; omega
                      | succ fuel ih148 =>
                        intro i h1 hi hK1 hF1 hf
                        have hC2 := hCo.fr (fun a g1 g2 => hF1 a (by omega))
                        obtain ⟨hobA, ⟨fRA, hfRA, hRA⟩, ⟨fUA, hfUA, hUA⟩, ⟨fSA, hfSA, hSA⟩, ⟨fMA, hfMA, hMA⟩, -, -, -⟩ := id hC2
                        obtain ⟨hob1, ⟨fR1, hfR1, hR1⟩, ⟨fU1, hfU1, hU1⟩, ⟨fS1, hfS1, hS1⟩, ⟨fM1, hfM1, hM1⟩, hRd1, hRu1, hSh1⟩ := id hK1
                        refine V_iload_n 149 C dX1_copyFrom_148 rfl rfl ?_
                        refine V_aload_n 150 C dX1_copyFrom_149 rfl rfl ?_
                        refine V_get (k := 4) 153 C dX1_copyFrom_150 rfl fcX1 tw131 (by decide) rfl hob1 rfl ?_
                        refine V_icmp_geN 177 156 C dX1_copyFrom_153 (by decide) rfl (by omega) (by omega) (fun c153 => ?_) (fun c153 => ?_)
                        · refine V_return C dX1_copyFrom_177 rfl (by omega) (by omega) ?_
                          exact ⟨rfl, rfl, by rw [show i = y 4 from by omega] at hK1; exact ctyK_cty hK1, hF1⟩
                        · refine V_aload_n 157 C dX1_copyFrom_156 rfl rfl ?_
                          refine V_get (k := 10) 160 C dX1_copyFrom_157 rfl fcX1 tw145 (by decide) rfl hob1 rfl ?_
                          refine V_iload_n 161 C dX1_copyFrom_160 rfl rfl ?_
                          refine V_aald (j := i) 162 C dX1_copyFrom_161 rfl hfS1 rfl rfl (by omega) (by omega) (hS1 _ (by omega)) ?_
                          refine V_aload_n 163 C dX1_copyFrom_162 rfl rfl ?_
                          refine V_get (k := 10) 166 C dX1_copyFrom_163 rfl fcX1 tw145 (by decide) rfl hobA rfl ?_
                          refine V_iload_n 167 C dX1_copyFrom_166 rfl rfl ?_
                          refine V_aald (j := i) 168 C dX1_copyFrom_167 rfl hfSA rfl rfl (by omega) (by omega) (hSA _ (by omega)) ?_
                          obtain ⟨x0, x1, x2, x3, x4, x5, hro, -⟩ := hSh1 i (by omega)
                          have hrA := cty_sh hC2 (i := i) (by omega) i4
                          refine V_callV 171 C dX1_copyFrom_168 rfl mX8_copyFrom tw650 fcX8 hro (c_X8_copyFrom l G _ _ _ _ _ _ _ _ _ _ _ _ _ _ _ _ hro hrA (by omega)) rfl rfl (by decide) ⟨by omega, by omega⟩ (Nat.le_of_ble_eq_true rfl) ?_
                          rintro _ _ h2 ⟨rfl, rfl, hh2⟩
                          subst hh2
                          refine V_iinc 174 C dX1_copyFrom_171 rfl (by decide) rfl (ii1 _) (L' := [(0, _), (1, _), (2, _)]) rfl ?_
                          refine V_goto 148 C dX1_copyFrom_174 (by decide) ?_
                          refine V_L [0, 1, 2] rfl ?_
                          exact ih148 (i + 1) _ (by omega) (ctyK_4 hK1 (by omega)) (FR.up hF1 _ (by omega)) (by omega)
                    refine V_L [0, 1, 2] rfl ?_
                    exact J148 (y 4 + 1) 0 _ (by omega) (by rw [show i = y 3 from by omega] at hK1; exact hK1) hF1 (by omega)
                  · refine V_aload_n 129 C dX1_copyFrom_128 rfl rfl ?_
                    refine V_get (k := 9) 132 C dX1_copyFrom_129 rfl fcX1 tw143 (by decide) rfl hob1 rfl ?_
                    refine V_iload_n 133 C dX1_copyFrom_132 rfl rfl ?_
                    refine V_aload_n 134 C dX1_copyFrom_133 rfl rfl ?_
                    refine V_get (k := 9) 137 C dX1_copyFrom_134 rfl fcX1 tw143 (by decide) rfl hobA rfl ?_
                    refine V_iload_n 138 C dX1_copyFrom_137 rfl rfl ?_
                    refine V_iald (j := i) 139 C dX1_copyFrom_138 rfl hfMA rfl (by omega) (by omega) ?_
                    rw [hMA _ (by omega)]
                    refine V_iast (j := i) 140 C dX1_copyFrom_139 rfl hfM1 rfl (by omega) (by omega) ?_
                    refine V_iinc 143 C dX1_copyFrom_140 rfl (by decide) rfl (ii1 _) (L' := [(0, _), (1, _), (2, _)]) rfl ?_
                    refine V_goto 120 C dX1_copyFrom_143 (by decide) ?_
                    refine V_L [0, 1, 2] rfl ?_
                    exact ih120 (i + 1) _ (by omega) (ctyK_3 hK1 hfM1) (FR.up hF1 _ (by omega)) (by omega)
              refine V_L [0, 1, 2] rfl ?_
              exact J120 (y 3 + 1) 0 _ (by omega) (by rw [show i = y 2 from by omega] at hK1; exact hK1) hF1 (by omega)
            · refine V_aload_n 98 C dX1_copyFrom_97 rfl rfl ?_
              refine V_get (k := 8) 101 C dX1_copyFrom_98 rfl fcX1 tw140 (by decide) rfl hob1 rfl ?_
              refine V_iload_n 102 C dX1_copyFrom_101 rfl rfl ?_
              refine V_aald (j := i) 103 C dX1_copyFrom_102 rfl hfU1 rfl rfl (by omega) (by omega) (hU1 _ (by omega)) ?_
              refine V_aload_n 104 C dX1_copyFrom_103 rfl rfl ?_
              refine V_get (k := 8) 107 C dX1_copyFrom_104 rfl fcX1 tw140 (by decide) rfl hobA rfl ?_
              refine V_iload_n 108 C dX1_copyFrom_107 rfl rfl ?_
              refine V_aald (j := i) 109 C dX1_copyFrom_108 rfl hfUA rfl rfl (by omega) (by omega) (hUA _ (by omega)) ?_
              obtain ⟨x0, x1, x2, hro, -⟩ := hRu1 i (by omega)
              have hrA := cty_ru hC2 (i := i) (by omega) i2
              refine V_callV 112 C dX1_copyFrom_109 rfl mX6_copyFrom tw646 fcX6 hro (c_X6_copyFrom l G _ _ _ _ _ _ _ _ _ _ hro hrA (by omega)) rfl rfl (by decide) ⟨by omega, by omega⟩ (Nat.le_of_ble_eq_true rfl) ?_
              rintro _ _ h2 ⟨rfl, rfl, hh2⟩
              subst hh2
              refine V_iinc 115 C dX1_copyFrom_112 rfl (by decide) rfl (ii1 _) (L' := [(0, _), (1, _), (2, _)]) rfl ?_
              refine V_goto 89 C dX1_copyFrom_115 (by decide) ?_
              refine V_L [0, 1, 2] rfl ?_
              exact ih89 (i + 1) _ (by omega) (ctyK_2 hK1 (by omega)) (FR.up hF1 _ (by omega)) (by omega)
        refine V_L [0, 1, 2] rfl ?_
        exact J89 (y 2 + 1) 0 _ (by omega) (by rw [show i = y 1 from by omega] at hK1; exact hK1) hF1 (by omega)
      · refine V_aload_n 67 C dX1_copyFrom_66 rfl rfl ?_
        refine V_get (k := 7) 70 C dX1_copyFrom_67 rfl fcX1 tw137 (by decide) rfl hob1 rfl ?_
        refine V_iload_n 71 C dX1_copyFrom_70 rfl rfl ?_
        refine V_aald (j := i) 72 C dX1_copyFrom_71 rfl hfR1 rfl rfl (by omega) (by omega) (hR1 _ (by omega)) ?_
        refine V_aload_n 73 C dX1_copyFrom_72 rfl rfl ?_
        refine V_get (k := 7) 76 C dX1_copyFrom_73 rfl fcX1 tw137 (by decide) rfl hobA rfl ?_
        refine V_iload_n 77 C dX1_copyFrom_76 rfl rfl ?_
        refine V_aald (j := i) 78 C dX1_copyFrom_77 rfl hfRA rfl rfl (by omega) (by omega) (hRA _ (by omega)) ?_
        obtain ⟨x0, x1, x2, hro, -⟩ := hRd1 i (by omega)
        have hrA := cty_rd hC2 (i := i) (by omega) i1
        refine V_callV 81 C dX1_copyFrom_78 rfl mX5_copyFrom tw642 fcX5 hro (c_X5_copyFrom l G _ _ _ _ _ _ _ _ _ _ hro hrA (by omega)) rfl rfl (by decide) ⟨by omega, by omega⟩ (Nat.le_of_ble_eq_true rfl) ?_
        rintro _ _ h2 ⟨rfl, rfl, hh2⟩
        subst hh2
        refine V_iinc 84 C dX1_copyFrom_81 rfl (by decide) rfl (ii1 _) (L' := [(0, _), (1, _), (2, _)]) rfl ?_
        refine V_goto 58 C dX1_copyFrom_84 (by decide) ?_
        refine V_L [0, 1, 2] rfl ?_
        exact ih58 (i + 1) _ (by omega) (ctyK_1 hK1 (by omega)) (FR.up hF1 _ (by omega)) (by omega)
  refine V_L [0, 1, 2] rfl ?_
  exact J58 (y 1 + 1) 0 _ (by omega) hK0 (FR.up FR.rf _ (by omega)) (by omega)


