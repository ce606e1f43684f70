/-! THE REFERENCE: reads -/
theorem dX10_in_0 : decode cX10_in 0 = .ok (.lload_n 0, 1) := by decide +kernel
theorem dX10_in_1 : decode cX10_in 1 = .ok (.lload_n 2, 1) := by decide +kernel
theorem dX10_in_2 : decode cX10_in 2 = .ok (.lcmp, 1) := by decide +kernel
theorem dX10_in_3 : decode cX10_in 3 = .ok (.ifCond .lt 14, 3) := by decide +kernel
theorem dX10_in_6 : decode cX10_in 6 = .ok (.lload_n 0, 1) := by decide +kernel
theorem dX10_in_7 : decode cX10_in 7 = .ok (.lload 4, 2) := by decide +kernel
theorem dX10_in_9 : decode cX10_in 9 = .ok (.lcmp, 1) := by decide +kernel
theorem dX10_in_10 : decode cX10_in 10 = .ok (.ifCond .gt 7, 3) := by decide +kernel
theorem dX10_in_13 : decode cX10_in 13 = .ok (.iconst 1, 1) := by decide +kernel
theorem dX10_in_14 : decode cX10_in 14 = .ok (.goto 4, 3) := by decide +kernel
theorem dX10_in_17 : decode cX10_in 17 = .ok (.iconst 0, 1) := by decide +kernel
theorem dX10_in_18 : decode cX10_in 18 = .ok (.ireturn, 1) := by decide +kernel
set_option maxRecDepth 100000 in
set_option maxHeartbeats 4000000 in
theorem c_X10_in (l : Launch) (G : GT) (n : Nat) (h : AH) (v lo hi : Int64) : Ct l yX10_in cX10_in 6 (some .boolean) 1 0 0 G n h [.long v, .long lo, .long hi] (Rt (nI (bp (lo.toInt ≤ v.toInt ∧ v.toInt ≤ hi.toInt))) n h) := by
  refine Ct_of mX10_in.1 (Nat.le_of_ble_eq_true rfl) ?_
  intro p e s m args below meth c C hin
  refine V_Le (L' := [(0, .long v), (2, .long lo), (4, .long hi)]) rfl ?_
  refine V_lload_n 1 C dX10_in_0 rfl rfl ?_
  refine V_lload_n 2 C dX10_in_1 rfl rfl ?_
  refine V_lcmp 3 C dX10_in_2 rfl  ?_
  refine V_if_lt 17 6 C dX10_in_3 (by decide) rfl  (fun c3 => ?_) (fun c3 => ?_)
  · rw [← Int32.not_le, lg_cmp_ge, Int64.le_iff_toInt_le] at c3
    refine V_iconst 18 C dX10_in_17 rfl ic0 ?_
    refine V_ireturn C dX10_in_18 rfl (by decide) (by omega) (by omega) ?_
    exact (Rt_mk (by first | exact (bp_t (by omega)).symm | exact (bp_f (by omega)).symm))
  · rw [← Int32.not_le, lg_cmp_ge, Int64.le_iff_toInt_le] at c3
    refine V_lload_n 7 C dX10_in_6 rfl rfl ?_
    refine V_lload 9 C dX10_in_7 rfl rfl ?_
    refine V_lcmp 10 C dX10_in_9 rfl  ?_
    refine V_if_gt 17 13 C dX10_in_10 (by decide) rfl  (fun c10 => ?_) (fun c10 => ?_)
    · rw [lg_cmp_gt, Int64.lt_iff_toInt_lt] at c10
      refine V_iconst 18 C dX10_in_17 rfl ic0 ?_
      refine V_ireturn C dX10_in_18 rfl (by decide) (by omega) (by omega) ?_
      exact (Rt_mk (by first | exact (bp_t (by omega)).symm | exact (bp_f (by omega)).symm))
    · rw [lg_cmp_gt, Int64.lt_iff_toInt_lt] at c10
      refine V_iconst 14 C dX10_in_13 rfl ic1 ?_
      refine V_goto 18 C dX10_in_14 (by decide) ?_
      refine V_ireturn C dX10_in_18 rfl (by decide) (by omega) (by omega) ?_
      exact (Rt_mk (by first | exact (bp_t (by omega)).symm | exact (bp_f (by omega)).symm))

theorem dX10_isTown_0 : decode cX10_isTown 0 = .ok (.iload_n 1, 1) := by decide +kernel
theorem dX10_isTown_1 : decode cX10_isTown 1 = .ok (.i2l, 1) := by decide +kernel
theorem dX10_isTown_2 : decode cX10_isTown 2 = .ok (.lconst 0, 1) := by decide +kernel
theorem dX10_isTown_3 : decode cX10_isTown 3 = .ok (.aload_n 0, 1) := by decide +kernel
theorem dX10_isTown_4 : decode cX10_isTown 4 = .ok (.iconst 0, 1) := by decide +kernel
theorem dX10_isTown_5 : decode cX10_isTown 5 = .ok (.iaload, 1) := by decide +kernel
theorem dX10_isTown_6 : decode cX10_isTown 6 = .ok (.iconst 1, 1) := by decide +kernel
theorem dX10_isTown_7 : decode cX10_isTown 7 = .ok (.isub, 1) := by decide +kernel
theorem dX10_isTown_8 : decode cX10_isTown 8 = .ok (.i2l, 1) := by decide +kernel
theorem dX10_isTown_9 : decode cX10_isTown 9 = .ok (.invokestatic 40, 3) := by decide +kernel
theorem dX10_isTown_12 : decode cX10_isTown 12 = .ok (.ireturn, 1) := by decide +kernel
set_option maxRecDepth 100000 in
set_option maxHeartbeats 4000000 in
theorem c_X10_isTown (l : Launch) (G : GT) (n : Nat) (h : AH) (a : Nat) (y : Nat → Nat) (hx : Row a y h) (hI : Iv y) (t : Int32) : Ct l yX10_isTown cX10_isTown 2 (some .boolean) 2 0 0 G n h [.ref a, .int t] (Rt (nI (bp (ix t (y 0)))) n h) := by
  obtain ⟨⟨i0, i1, i2, i3, i4⟩, iR, iU, iM, iS⟩ := id hI
  refine Ct_of mX10_isTown.1 (Nat.le_of_ble_eq_true rfl) ?_
  intro p e s m args below meth c C hin
  refine V_Le (L' := [(0, .ref a), (1, .int t)]) rfl ?_
  refine V_iload_n 1 C dX10_isTown_0 rfl rfl ?_
  refine V_i2l 2 C dX10_isTown_1 rfl  ?_
  refine V_lconst 3 C dX10_isTown_2 rfl rfl ?_
  refine V_aload_n 4 C dX10_isTown_3 rfl rfl ?_
  refine V_iconst 5 C dX10_isTown_4 rfl ic0 ?_
  refine V_iald (j := 0) 6 C dX10_isTown_5 rfl hx rfl (by omega) (by omega) ?_
  refine V_iconst 7 C dX10_isTown_6 rfl ic1 ?_
  refine V_isub 8 C dX10_isTown_7 rfl  ?_
  refine V_i2l 9 C dX10_isTown_8 rfl  ?_
  refine V_callS 12 C dX10_isTown_9 rfl mX10_in tw982 (c_X10_in l G _ _ _ _ _) rfl rfl (by decide) ⟨by omega, by omega⟩ (Nat.le_of_ble_eq_true rfl) ?_
  rintro _ _ _ ⟨rfl, rfl, rfl⟩
  refine V_ireturn C dX10_isTown_12 rfl (nar_b _) (by omega) (by omega) ?_
  exact (Rt_mk (bp_c (by rw [toI64 (by omega), Int32.toInt_toInt64]; show (0 : Int) ≤ _ ∧ _ ↔ _; unfold ix; omega)))

theorem dX10_isRoad_0 : decode cX10_isRoad 0 = .ok (.iload_n 1, 1) := by decide +kernel
theorem dX10_isRoad_1 : decode cX10_isRoad 1 = .ok (.i2l, 1) := by decide +kernel
theorem dX10_isRoad_2 : decode cX10_isRoad 2 = .ok (.lconst 0, 1) := by decide +kernel
theorem dX10_isRoad_3 : decode cX10_isRoad 3 = .ok (.aload_n 0, 1) := by decide +kernel
theorem dX10_isRoad_4 : decode cX10_isRoad 4 = .ok (.iconst 1, 1) := by decide +kernel
theorem dX10_isRoad_5 : decode cX10_isRoad 5 = .ok (.iaload, 1) := by decide +kernel
theorem dX10_isRoad_6 : decode cX10_isRoad 6 = .ok (.iconst 1, 1) := by decide +kernel
theorem dX10_isRoad_7 : decode cX10_isRoad 7 = .ok (.isub, 1) := by decide +kernel
theorem dX10_isRoad_8 : decode cX10_isRoad 8 = .ok (.i2l, 1) := by decide +kernel
theorem dX10_isRoad_9 : decode cX10_isRoad 9 = .ok (.invokestatic 40, 3) := by decide +kernel
theorem dX10_isRoad_12 : decode cX10_isRoad 12 = .ok (.ireturn, 1) := by decide +kernel
set_option maxRecDepth 100000 in
set_option maxHeartbeats 4000000 in
theorem c_X10_isRoad (l : Launch) (G : GT) (n : Nat) (h : AH) (a : Nat) (y : Nat → Nat) (hx : Row a y h) (hI : Iv y) (t : Int32) : Ct l yX10_isRoad cX10_isRoad 2 (some .boolean) 2 0 0 G n h [.ref a, .int t] (Rt (nI (bp (ix t (y 1)))) n h) := by
  obtain ⟨⟨i0, i1, i2, i3, i4⟩, iR, iU, iM, iS⟩ := id hI
  refine Ct_of mX10_isRoad.1 (Nat.le_of_ble_eq_true rfl) ?_
  intro p e s m args below meth c C hin
  refine V_Le (L' := [(0, .ref a), (1, .int t)]) rfl ?_
  refine V_iload_n 1 C dX10_isRoad_0 rfl rfl ?_
  refine V_i2l 2 C dX10_isRoad_1 rfl  ?_
  refine V_lconst 3 C dX10_isRoad_2 rfl rfl ?_
  refine V_aload_n 4 C dX10_isRoad_3 rfl rfl ?_
  refine V_iconst 5 C dX10_isRoad_4 rfl ic1 ?_
  refine V_iald (j := 1) 6 C dX10_isRoad_5 rfl hx rfl (by omega) (by omega) ?_
  refine V_iconst 7 C dX10_isRoad_6 rfl ic1 ?_
  refine V_isub 8 C dX10_isRoad_7 rfl  ?_
  refine V_i2l 9 C dX10_isRoad_8 rfl  ?_
  refine V_callS 12 C dX10_isRoad_9 rfl mX10_in tw982 (c_X10_in l G _ _ _ _ _) rfl rfl (by decide) ⟨by omega, by omega⟩ (Nat.le_of_ble_eq_true rfl) ?_
  rintro _ _ _ ⟨rfl, rfl, rfl⟩
  refine V_ireturn C dX10_isRoad_12 rfl (nar_b _) (by omega) (by omega) ?_
  exact (Rt_mk (bp_c (by rw [toI64 (by omega), Int32.toInt_toInt64]; show (0 : Int) ≤ _ ∧ _ ↔ _; unfold ix; omega)))

theorem dX10_isRunner_0 : decode cX10_isRunner 0 = .ok (.iload_n 1, 1) := by decide +kernel
theorem dX10_isRunner_1 : decode cX10_isRunner 1 = .ok (.i2l, 1) := by decide +kernel
theorem dX10_isRunner_2 : decode cX10_isRunner 2 = .ok (.lconst 0, 1) := by decide +kernel
theorem dX10_isRunner_3 : decode cX10_isRunner 3 = .ok (.aload_n 0, 1) := by decide +kernel
theorem dX10_isRunner_4 : decode cX10_isRunner 4 = .ok (.iconst 2, 1) := by decide +kernel
theorem dX10_isRunner_5 : decode cX10_isRunner 5 = .ok (.iaload, 1) := by decide +kernel
theorem dX10_isRunner_6 : decode cX10_isRunner 6 = .ok (.iconst 1, 1) := by decide +kernel
theorem dX10_isRunner_7 : decode cX10_isRunner 7 = .ok (.isub, 1) := by decide +kernel
theorem dX10_isRunner_8 : decode cX10_isRunner 8 = .ok (.i2l, 1) := by decide +kernel
theorem dX10_isRunner_9 : decode cX10_isRunner 9 = .ok (.invokestatic 40, 3) := by decide +kernel
theorem dX10_isRunner_12 : decode cX10_isRunner 12 = .ok (.ireturn, 1) := by decide +kernel
set_option maxRecDepth 100000 in
set_option maxHeartbeats 4000000 in
theorem c_X10_isRunner (l : Launch) (G : GT) (n : Nat) (h : AH) (a : Nat) (y : Nat → Nat) (hx : Row a y h) (hI : Iv y) (t : Int32) : Ct l yX10_isRunner cX10_isRunner 2 (some .boolean) 2 0 0 G n h [.ref a, .int t] (Rt (nI (bp (ix t (y 2)))) n h) := by
  obtain ⟨⟨i0, i1, i2, i3, i4⟩, iR, iU, iM, iS⟩ := id hI
  refine Ct_of mX10_isRunner.1 (Nat.le_of_ble_eq_true rfl) ?_
  intro p e s m args below meth c C hin
  refine V_Le (L' := [(0, .ref a), (1, .int t)]) rfl ?_
  refine V_iload_n 1 C dX10_isRunner_0 rfl rfl ?_
  refine V_i2l 2 C dX10_isRunner_1 rfl  ?_
  refine V_lconst 3 C dX10_isRunner_2 rfl rfl ?_
  refine V_aload_n 4 C dX10_isRunner_3 rfl rfl ?_
  refine V_iconst 5 C dX10_isRunner_4 rfl ic2 ?_
  refine V_iald (j := 2) 6 C dX10_isRunner_5 rfl hx rfl (by omega) (by omega) ?_
  refine V_iconst 7 C dX10_isRunner_6 rfl ic1 ?_
  refine V_isub 8 C dX10_isRunner_7 rfl  ?_
  refine V_i2l 9 C dX10_isRunner_8 rfl  ?_
  refine V_callS 12 C dX10_isRunner_9 rfl mX10_in tw982 (c_X10_in l G _ _ _ _ _) rfl rfl (by decide) ⟨by omega, by omega⟩ (Nat.le_of_ble_eq_true rfl) ?_
  rintro _ _ _ ⟨rfl, rfl, rfl⟩
  refine V_ireturn C dX10_isRunner_12 rfl (nar_b _) (by omega) (by omega) ?_
  exact (Rt_mk (bp_c (by rw [toI64 (by omega), Int32.toInt_toInt64]; show (0 : Int) ≤ _ ∧ _ ↔ _; unfold ix; omega)))

theorem dX10_isSheet_0 : decode cX10_isSheet 0 = .ok (.iload_n 1, 1) := by decide +kernel
theorem dX10_isSheet_1 : decode cX10_isSheet 1 = .ok (.i2l, 1) := by decide +kernel
theorem dX10_isSheet_2 : decode cX10_isSheet 2 = .ok (.lconst 0, 1) := by decide +kernel
theorem dX10_isSheet_3 : decode cX10_isSheet 3 = .ok (.aload_n 0, 1) := by decide +kernel
theorem dX10_isSheet_4 : decode cX10_isSheet 4 = .ok (.iconst 4, 1) := by decide +kernel
theorem dX10_isSheet_5 : decode cX10_isSheet 5 = .ok (.iaload, 1) := by decide +kernel
theorem dX10_isSheet_6 : decode cX10_isSheet 6 = .ok (.iconst 1, 1) := by decide +kernel
theorem dX10_isSheet_7 : decode cX10_isSheet 7 = .ok (.isub, 1) := by decide +kernel
theorem dX10_isSheet_8 : decode cX10_isSheet 8 = .ok (.i2l, 1) := by decide +kernel
theorem dX10_isSheet_9 : decode cX10_isSheet 9 = .ok (.invokestatic 40, 3) := by decide +kernel
theorem dX10_isSheet_12 : decode cX10_isSheet 12 = .ok (.ireturn, 1) := by decide +kernel
set_option maxRecDepth 100000 in
set_option maxHeartbeats 4000000 in
theorem c_X10_isSheet (l : Launch) (G : GT) (n : Nat) (h : AH) (a : Nat) (y : Nat → Nat) (hx : Row a y h) (hI : Iv y) (t : Int32) : Ct l yX10_isSheet cX10_isSheet 2 (some .boolean) 2 0 0 G n h [.ref a, .int t] (Rt (nI (bp (ix t (y 4)))) n h) := by
  obtain ⟨⟨i0, i1, i2, i3, i4⟩, iR, iU, iM, iS⟩ := id hI
  refine Ct_of mX10_isSheet.1 (Nat.le_of_ble_eq_true rfl) ?_
  intro p e s m args below meth c C hin
  refine V_Le (L' := [(0, .ref a), (1, .int t)]) rfl ?_
  refine V_iload_n 1 C dX10_isSheet_0 rfl rfl ?_
  refine V_i2l 2 C dX10_isSheet_1 rfl  ?_
  refine V_lconst 3 C dX10_isSheet_2 rfl rfl ?_
  refine V_aload_n 4 C dX10_isSheet_3 rfl rfl ?_
  refine V_iconst 5 C dX10_isSheet_4 rfl ic4 ?_
  refine V_iald (j := 4) 6 C dX10_isSheet_5 rfl hx rfl (by omega) (by omega) ?_
  refine V_iconst 7 C dX10_isSheet_6 rfl ic1 ?_
  refine V_isub 8 C dX10_isSheet_7 rfl  ?_
  refine V_i2l 9 C dX10_isSheet_8 rfl  ?_
  refine V_callS 12 C dX10_isSheet_9 rfl mX10_in tw982 (c_X10_in l G _ _ _ _ _) rfl rfl (by decide) ⟨by omega, by omega⟩ (Nat.le_of_ble_eq_true rfl) ?_
  rintro _ _ _ ⟨rfl, rfl, rfl⟩
  refine V_ireturn C dX10_isSheet_12 rfl (nar_b _) (by omega) (by omega) ?_
  exact (Rt_mk (bp_c (by rw [toI64 (by omega), Int32.toInt_toInt64]; show (0 : Int) ≤ _ ∧ _ ↔ _; unfold ix; omega)))

theorem dX10_isMessage_0 : decode cX10_isMessage 0 = .ok (.iload_n 1, 1) := by decide +kernel
theorem dX10_isMessage_1 : decode cX10_isMessage 1 = .ok (.i2l, 1) := by decide +kernel
theorem dX10_isMessage_2 : decode cX10_isMessage 2 = .ok (.lconst 0, 1) := by decide +kernel
theorem dX10_isMessage_3 : decode cX10_isMessage 3 = .ok (.aload_n 0, 1) := by decide +kernel
theorem dX10_isMessage_4 : decode cX10_isMessage 4 = .ok (.iconst 3, 1) := by decide +kernel
theorem dX10_isMessage_5 : decode cX10_isMessage 5 = .ok (.iaload, 1) := by decide +kernel
theorem dX10_isMessage_6 : decode cX10_isMessage 6 = .ok (.iconst 1, 1) := by decide +kernel
theorem dX10_isMessage_7 : decode cX10_isMessage 7 = .ok (.isub, 1) := by decide +kernel
theorem dX10_isMessage_8 : decode cX10_isMessage 8 = .ok (.i2l, 1) := by decide +kernel
theorem dX10_isMessage_9 : decode cX10_isMessage 9 = .ok (.invokestatic 40, 3) := by decide +kernel
theorem dX10_isMessage_12 : decode cX10_isMessage 12 = .ok (.ireturn, 1) := by decide +kernel
set_option maxRecDepth 100000 in
set_option maxHeartbeats 4000000 in
theorem c_X10_isMessage (l : Launch) (G : GT) (n : Nat) (h : AH) (a : Nat) (y : Nat → Nat) (hx : Row a y h) (hI : Iv y) (t : Int32) : Ct l yX10_isMessage cX10_isMessage 2 (some .boolean) 2 0 0 G n h [.ref a, .int t] (Rt (nI (bp (ix t (y 3)))) n h) := by
  obtain ⟨⟨i0, i1, i2, i3, i4⟩, iR, iU, iM, iS⟩ := id hI
  refine Ct_of mX10_isMessage.1 (Nat.le_of_ble_eq_true rfl) ?_
  intro p e s m args below meth c C hin
  refine V_Le (L' := [(0, .ref a), (1, .int t)]) rfl ?_
  refine V_iload_n 1 C dX10_isMessage_0 rfl rfl ?_
  refine V_i2l 2 C dX10_isMessage_1 rfl  ?_
  refine V_lconst 3 C dX10_isMessage_2 rfl rfl ?_
  refine V_aload_n 4 C dX10_isMessage_3 rfl rfl ?_
  refine V_iconst 5 C dX10_isMessage_4 rfl ic3 ?_
  refine V_iald (j := 3) 6 C dX10_isMessage_5 rfl hx rfl (by omega) (by omega) ?_
  refine V_iconst 7 C dX10_isMessage_6 rfl ic1 ?_
  refine V_isub 8 C dX10_isMessage_7 rfl  ?_
  refine V_i2l 9 C dX10_isMessage_8 rfl  ?_
  refine V_callS 12 C dX10_isMessage_9 rfl mX10_in tw982 (c_X10_in l G _ _ _ _ _) rfl rfl (by decide) ⟨by omega, by omega⟩ (Nat.le_of_ble_eq_true rfl) ?_
  rintro _ _ _ ⟨rfl, rfl, rfl⟩
  refine V_ireturn C dX10_isMessage_12 rfl (nar_b _) (by omega) (by omega) ?_
  exact (Rt_mk (bp_c (by rw [toI64 (by omega), Int32.toInt_toInt64]; show (0 : Int) ≤ _ ∧ _ ↔ _; unfold ix; omega)))

theorem dX10_ofRoad_0 : decode cX10_ofRoad 0 = .ok (.aload_n 0, 1) := by decide +kernel
theorem dX10_ofRoad_1 : decode cX10_ofRoad 1 = .ok (.bipush 7, 2) := by decide +kernel
theorem dX10_ofRoad_3 : decode cX10_ofRoad 3 = .ok (.iconst 3, 1) := by decide +kernel
theorem dX10_ofRoad_4 : decode cX10_ofRoad 4 = .ok (.iload_n 1, 1) := by decide +kernel
theorem dX10_ofRoad_5 : decode cX10_ofRoad 5 = .ok (.imul, 1) := by decide +kernel
theorem dX10_ofRoad_6 : decode cX10_ofRoad 6 = .ok (.iadd, 1) := by decide +kernel
theorem dX10_ofRoad_7 : decode cX10_ofRoad 7 = .ok (.iload_n 2, 1) := by decide +kernel
theorem dX10_ofRoad_8 : decode cX10_ofRoad 8 = .ok (.iadd, 1) := by decide +kernel
theorem dX10_ofRoad_9 : decode cX10_ofRoad 9 = .ok (.iaload, 1) := by decide +kernel
theorem dX10_ofRoad_10 : decode cX10_ofRoad 10 = .ok (.ireturn, 1) := by decide +kernel
set_option maxRecDepth 100000 in
set_option maxHeartbeats 4000000 in
theorem c_X10_ofRoad (l : Launch) (G : GT) (n : Nat) (h : AH) (a : Nat) (y : Nat → Nat) (hx : Row a y h) (i w k : Nat) (hk : k = 7 + 3 * i + w) (hl : k < 130) (hi : i < 100) (hw : w < 10) : Ct l yX10_ofRoad cX10_ofRoad 3 (some .int) 1 0 0 G n h [.ref a, .int (nI i), .int (nI w)] (Rt (nI (y k)) n h) := by
  refine Ct_of mX10_ofRoad.1 (Nat.le_of_ble_eq_true rfl) ?_
  intro p e s m args below meth c C hin
  refine V_Le (L' := [(0, .ref a), (1, .int (nI i)), (2, .int (nI w))]) rfl ?_
  refine V_aload_n 1 C dX10_ofRoad_0 rfl rfl ?_
  refine V_bipush 3 C dX10_ofRoad_1 rfl bip7 ?_
  refine V_iconst 4 C dX10_ofRoad_3 rfl ic3 ?_
  refine V_iload_n 5 C dX10_ofRoad_4 rfl rfl ?_
  refine V_imulN 6 C dX10_ofRoad_5 rfl  ?_
  refine V_iaddN 7 C dX10_ofRoad_6 rfl  ?_
  refine V_iload_n 8 C dX10_ofRoad_7 rfl rfl ?_
  refine V_iaddN 9 C dX10_ofRoad_8 rfl  ?_
  refine V_iald (j := k) 10 C dX10_ofRoad_9 rfl hx (congrArg nI (by omega)) (by omega) (by omega) ?_
  refine V_ireturn C dX10_ofRoad_10 rfl rfl (by omega) (by omega) ?_
  exact (Rt_mk rfl)

theorem dX10_ofRunner_0 : decode cX10_ofRunner 0 = .ok (.aload_n 0, 1) := by decide +kernel
theorem dX10_ofRunner_1 : decode cX10_ofRunner 1 = .ok (.bipush 37, 2) := by decide +kernel
theorem dX10_ofRunner_3 : decode cX10_ofRunner 3 = .ok (.iconst 3, 1) := by decide +kernel
theorem dX10_ofRunner_4 : decode cX10_ofRunner 4 = .ok (.iload_n 1, 1) := by decide +kernel
theorem dX10_ofRunner_5 : decode cX10_ofRunner 5 = .ok (.imul, 1) := by decide +kernel
theorem dX10_ofRunner_6 : decode cX10_ofRunner 6 = .ok (.iadd, 1) := by decide +kernel
theorem dX10_ofRunner_7 : decode cX10_ofRunner 7 = .ok (.iload_n 2, 1) := by decide +kernel
theorem dX10_ofRunner_8 : decode cX10_ofRunner 8 = .ok (.iadd, 1) := by decide +kernel
theorem dX10_ofRunner_9 : decode cX10_ofRunner 9 = .ok (.iaload, 1) := by decide +kernel
theorem dX10_ofRunner_10 : decode cX10_ofRunner 10 = .ok (.ireturn, 1) := by decide +kernel
set_option maxRecDepth 100000 in
set_option maxHeartbeats 4000000 in
theorem c_X10_ofRunner (l : Launch) (G : GT) (n : Nat) (h : AH) (a : Nat) (y : Nat → Nat) (hx : Row a y h) (i w k : Nat) (hk : k = 37 + 3 * i + w) (hl : k < 130) (hi : i < 100) (hw : w < 10) : Ct l yX10_ofRunner cX10_ofRunner 3 (some .int) 1 0 0 G n h [.ref a, .int (nI i), .int (nI w)] (Rt (nI (y k)) n h) := by
  refine Ct_of mX10_ofRunner.1 (Nat.le_of_ble_eq_true rfl) ?_
  intro p e s m args below meth c C hin
  refine V_Le (L' := [(0, .ref a), (1, .int (nI i)), (2, .int (nI w))]) rfl ?_
  refine V_aload_n 1 C dX10_ofRunner_0 rfl rfl ?_
  refine V_bipush 3 C dX10_ofRunner_1 rfl bip37 ?_
  refine V_iconst 4 C dX10_ofRunner_3 rfl ic3 ?_
  refine V_iload_n 5 C dX10_ofRunner_4 rfl rfl ?_
  refine V_imulN 6 C dX10_ofRunner_5 rfl  ?_
  refine V_iaddN 7 C dX10_ofRunner_6 rfl  ?_
  refine V_iload_n 8 C dX10_ofRunner_7 rfl rfl ?_
  refine V_iaddN 9 C dX10_ofRunner_8 rfl  ?_
  refine V_iald (j := k) 10 C dX10_ofRunner_9 rfl hx (congrArg nI (by omega)) (by omega) (by omega) ?_
  refine V_ireturn C dX10_ofRunner_10 rfl rfl (by omega) (by omega) ?_
  exact (Rt_mk rfl)

theorem dX10_ofSheet_0 : decode cX10_ofSheet 0 = .ok (.aload_n 0, 1) := by decide +kernel
theorem dX10_ofSheet_1 : decode cX10_ofSheet 1 = .ok (.bipush 58, 2) := by decide +kernel
theorem dX10_ofSheet_3 : decode cX10_ofSheet 3 = .ok (.bipush 6, 2) := by decide +kernel
theorem dX10_ofSheet_5 : decode cX10_ofSheet 5 = .ok (.iload_n 1, 1) := by decide +kernel
theorem dX10_ofSheet_6 : decode cX10_ofSheet 6 = .ok (.imul, 1) := by decide +kernel
theorem dX10_ofSheet_7 : decode cX10_ofSheet 7 = .ok (.iadd, 1) := by decide +kernel
theorem dX10_ofSheet_8 : decode cX10_ofSheet 8 = .ok (.iload_n 2, 1) := by decide +kernel
theorem dX10_ofSheet_9 : decode cX10_ofSheet 9 = .ok (.iadd, 1) := by decide +kernel
theorem dX10_ofSheet_10 : decode cX10_ofSheet 10 = .ok (.iaload, 1) := by decide +kernel
theorem dX10_ofSheet_11 : decode cX10_ofSheet 11 = .ok (.ireturn, 1) := by decide +kernel
set_option maxRecDepth 100000 in
set_option maxHeartbeats 4000000 in
theorem c_X10_ofSheet (l : Launch) (G : GT) (n : Nat) (h : AH) (a : Nat) (y : Nat → Nat) (hx : Row a y h) (i w k : Nat) (hk : k = 58 + 6 * i + w) (hl : k < 130) (hi : i < 100) (hw : w < 10) : Ct l yX10_ofSheet cX10_ofSheet 3 (some .int) 1 0 0 G n h [.ref a, .int (nI i), .int (nI w)] (Rt (nI (y k)) n h) := by
  refine Ct_of mX10_ofSheet.1 (Nat.le_of_ble_eq_true rfl) ?_
  intro p e s m args below meth c C hin
  refine V_Le (L' := [(0, .ref a), (1, .int (nI i)), (2, .int (nI w))]) rfl ?_
  refine V_aload_n 1 C dX10_ofSheet_0 rfl rfl ?_
  refine V_bipush 3 C dX10_ofSheet_1 rfl bip58 ?_
  refine V_bipush 5 C dX10_ofSheet_3 rfl bip6 ?_
  refine V_iload_n 6 C dX10_ofSheet_5 rfl rfl ?_
  refine V_imulN 7 C dX10_ofSheet_6 rfl  ?_
  refine V_iaddN 8 C dX10_ofSheet_7 rfl  ?_
  refine V_iload_n 9 C dX10_ofSheet_8 rfl rfl ?_
  refine V_iaddN 10 C dX10_ofSheet_9 rfl  ?_
  refine V_iald (j := k) 11 C dX10_ofSheet_10 rfl hx (congrArg nI (by omega)) (by omega) (by omega) ?_
  refine V_ireturn C dX10_ofSheet_11 rfl rfl (by omega) (by omega) ?_
  exact (Rt_mk rfl)

theorem dX10_townOf_0 : decode cX10_townOf 0 = .ok (.aload_n 0, 1) := by decide +kernel
theorem dX10_townOf_1 : decode cX10_townOf 1 = .ok (.iload_n 1, 1) := by decide +kernel
theorem dX10_townOf_2 : decode cX10_townOf 2 = .ok (.iconst 1, 1) := by decide +kernel
theorem dX10_townOf_3 : decode cX10_townOf 3 = .ok (.invokestatic 44, 3) := by decide +kernel
theorem dX10_townOf_6 : decode cX10_townOf 6 = .ok (.ifCond .ne 12, 3) := by decide +kernel
theorem dX10_townOf_9 : decode cX10_townOf 9 = .ok (.aload_n 0, 1) := by decide +kernel
theorem dX10_townOf_10 : decode cX10_townOf 10 = .ok (.iload_n 1, 1) := by decide +kernel
theorem dX10_townOf_11 : decode cX10_townOf 11 = .ok (.iconst 0, 1) := by decide +kernel
theorem dX10_townOf_12 : decode cX10_townOf 12 = .ok (.invokestatic 44, 3) := by decide +kernel
theorem dX10_townOf_15 : decode cX10_townOf 15 = .ok (.goto 4, 3) := by decide +kernel
theorem dX10_townOf_18 : decode cX10_townOf 18 = .ok (.iconst (-1), 1) := by decide +kernel
theorem dX10_townOf_19 : decode cX10_townOf 19 = .ok (.ireturn, 1) := by decide +kernel
set_option maxRecDepth 100000 in
set_option maxHeartbeats 4000000 in
theorem c_X10_townOf (l : Launch) (G : GT) (n : Nat) (h : AH) (a : Nat) (y : Nat → Nat) (hx : Row a y h) (hI : Iv y) (r : Nat) (hr : r < y 2) : Ct l yX10_townOf cX10_townOf 2 (some .int) 2 0 0 G n h [.ref a, .int (nI r)] (Rt (nI (tof y r)) n h) := by
  obtain ⟨⟨i0, i1, i2, i3, i4⟩, iR, iU, iM, iS⟩ := id hI
  obtain ⟨u0, u1⟩ := iU r hr
  refine Ct_of mX10_townOf.1 (Nat.le_of_ble_eq_true rfl) ?_
  intro p e s m args below meth c C hin
  refine V_Le (L' := [(0, .ref a), (1, .int (nI r))]) rfl ?_
  refine V_aload_n 1 C dX10_townOf_0 rfl rfl ?_
  refine V_iload_n 2 C dX10_townOf_1 rfl rfl ?_
  refine V_iconst 3 C dX10_townOf_2 rfl ic1 ?_
  refine V_callS 6 C dX10_townOf_3 rfl mX10_ofRunner tw1076 (c_X10_ofRunner l G _ _ a y hx r 1 (37 + 3 * r + 1) rfl (by omega) (by omega) (by omega)) rfl rfl (by decide) ⟨by omega, by omega⟩ (Nat.le_of_ble_eq_true rfl) ?_
  rintro _ _ _ ⟨rfl, rfl, rfl⟩
  refine V_if_neN 18 9 C dX10_townOf_6 (by decide) rfl (by omega) (fun c6 => ?_) (fun c6 => ?_)
  · refine V_iconst 19 C dX10_townOf_18 rfl icm1 ?_
    refine V_ireturn C dX10_townOf_19 rfl rfl (by omega) (by omega) ?_
    exact (Rt_mk (by unfold tof; first | rw [if_pos c6] | rw [if_neg c6]; rfl))
  · refine V_aload_n 10 C dX10_townOf_9 rfl rfl ?_
    refine V_iload_n 11 C dX10_townOf_10 rfl rfl ?_
    refine V_iconst 12 C dX10_townOf_11 rfl ic0 ?_
    refine V_callS 15 C dX10_townOf_12 rfl mX10_ofRunner tw1076 (c_X10_ofRunner l G _ _ a y hx r 0 (37 + 3 * r) rfl (by omega) (by omega) (by omega)) rfl rfl (by decide) ⟨by omega, by omega⟩ (Nat.le_of_ble_eq_true rfl) ?_
    rintro _ _ _ ⟨rfl, rfl, rfl⟩
    refine V_goto 19 C dX10_townOf_15 (by decide) ?_
    refine V_ireturn C dX10_townOf_19 rfl rfl (by omega) (by omega) ?_
    exact (Rt_mk (by unfold tof; first | rw [if_pos c6] | rw [if_neg c6]; rfl))

theorem dX10_placeOf_0 : decode cX10_placeOf 0 = .ok (.aload_n 0, 1) := by decide +kernel
theorem dX10_placeOf_1 : decode cX10_placeOf 1 = .ok (.iload_n 1, 1) := by decide +kernel
theorem dX10_placeOf_2 : decode cX10_placeOf 2 = .ok (.iconst 4, 1) := by decide +kernel
theorem dX10_placeOf_3 : decode cX10_placeOf 3 = .ok (.invokestatic 48, 3) := by decide +kernel
theorem dX10_placeOf_6 : decode cX10_placeOf 6 = .ok (.istore_n 2, 1) := by decide +kernel
theorem dX10_placeOf_7 : decode cX10_placeOf 7 = .ok (.iload_n 2, 1) := by decide +kernel
theorem dX10_placeOf_8 : decode cX10_placeOf 8 = .ok (.iconst (-1), 1) := by decide +kernel
theorem dX10_placeOf_9 : decode cX10_placeOf 9 = .ok (.if_icmp .ne 12, 3) := by decide +kernel
theorem dX10_placeOf_12 : decode cX10_placeOf 12 = .ok (.aload_n 0, 1) := by decide +kernel
theorem dX10_placeOf_13 : decode cX10_placeOf 13 = .ok (.iload_n 1, 1) := by decide +kernel
theorem dX10_placeOf_14 : decode cX10_placeOf 14 = .ok (.iconst 5, 1) := by decide +kernel
theorem dX10_placeOf_15 : decode cX10_placeOf 15 = .ok (.invokestatic 48, 3) := by decide +kernel
theorem dX10_placeOf_18 : decode cX10_placeOf 18 = .ok (.goto 8, 3) := by decide +kernel
theorem dX10_placeOf_21 : decode cX10_placeOf 21 = .ok (.aload_n 0, 1) := by decide +kernel
theorem dX10_placeOf_22 : decode cX10_placeOf 22 = .ok (.iload_n 2, 1) := by decide +kernel
theorem dX10_placeOf_23 : decode cX10_placeOf 23 = .ok (.invokestatic 51, 3) := by decide +kernel
theorem dX10_placeOf_26 : decode cX10_placeOf 26 = .ok (.ireturn, 1) := by decide +kernel
set_option maxRecDepth 100000 in
set_option maxHeartbeats 4000000 in
theorem c_X10_placeOf (l : Launch) (G : GT) (n : Nat) (h : AH) (a : Nat) (y : Nat → Nat) (hx : Row a y h) (hI : Iv y) (s9 : Nat) (hs : s9 < y 4) : Ct l yX10_placeOf cX10_placeOf 3 (some .int) 3 0 0 G n h [.ref a, .int (nI s9)] (Rt (nI (pof y s9)) n h) := by
  obtain ⟨⟨i0, i1, i2, i3, i4⟩, iR, iU, iM, iS⟩ := id hI
  obtain ⟨s0, s1, s2, s3, s4, s5⟩ := iS s9 hs
  unfold NO at s4
  refine Ct_of mX10_placeOf.1 (Nat.le_of_ble_eq_true rfl) ?_
  intro p e s m args below meth c C hin
  refine V_Le (L' := [(0, .ref a), (1, .int (nI s9))]) rfl ?_
  refine V_aload_n 1 C dX10_placeOf_0 rfl rfl ?_
  refine V_iload_n 2 C dX10_placeOf_1 rfl rfl ?_
  refine V_iconst 3 C dX10_placeOf_2 rfl ic4 ?_
  refine V_callS 6 C dX10_placeOf_3 rfl mX10_ofSheet tw1082 (c_X10_ofSheet l G _ _ a y hx s9 4 (58 + 6 * s9 + 4) rfl (by omega) (by omega) (by omega)) rfl rfl (by decide) ⟨by omega, by omega⟩ (Nat.le_of_ble_eq_true rfl) ?_
  rintro _ _ _ ⟨rfl, rfl, rfl⟩
  refine V_istore_n 7 C dX10_placeOf_6 rfl (by decide) (L' := [(0, _), (1, _), (2, _)]) rfl ?_
  refine V_iload_n 8 C dX10_placeOf_7 rfl rfl ?_
  refine V_iconst 9 C dX10_placeOf_8 rfl icm1 ?_
  refine V_icmp_neN 21 12 C dX10_placeOf_9 (by decide) rfl (by omega) (by omega) (fun c9 => ?_) (fun c9 => ?_)
  · refine V_aload_n 22 C dX10_placeOf_21 rfl rfl ?_
    refine V_iload_n 23 C dX10_placeOf_22 rfl rfl ?_
    refine V_callS 26 C dX10_placeOf_23 rfl mX10_townOf tw1073 (c_X10_townOf l G _ _ a y hx hI _ (by omega)) rfl rfl (by decide) ⟨by omega, by omega⟩ (Nat.le_of_ble_eq_true rfl) ?_
    rintro _ _ _ ⟨rfl, rfl, rfl⟩
    refine V_ireturn C dX10_placeOf_26 rfl rfl (by omega) (by omega) ?_
    exact (Rt_mk (by unfold pof NO; first | rw [if_pos c9] | rw [if_neg c9]))
  · refine V_aload_n 13 C dX10_placeOf_12 rfl rfl ?_
    refine V_iload_n 14 C dX10_placeOf_13 rfl rfl ?_
    refine V_iconst 15 C dX10_placeOf_14 rfl ic5 ?_
    refine V_callS 18 C dX10_placeOf_15 rfl mX10_ofSheet tw1082 (c_X10_ofSheet l G _ _ a y hx s9 5 (58 + 6 * s9 + 5) rfl (by omega) (by omega) (by omega)) rfl rfl (by decide) ⟨by omega, by omega⟩ (Nat.le_of_ble_eq_true rfl) ?_
    rintro _ _ _ ⟨rfl, rfl, rfl⟩
    refine V_goto 26 C dX10_placeOf_18 (by decide) ?_
    refine V_ireturn C dX10_placeOf_26 rfl rfl (by omega) (by omega) ?_
    exact (Rt_mk (by unfold pof NO; first | rw [if_pos c9] | rw [if_neg c9]))

theorem dX10_carried_0 : decode cX10_carried 0 = .ok (.iconst 0, 1) := by decide +kernel
theorem dX10_carried_1 : decode cX10_carried 1 = .ok (.istore_n 2, 1) := by decide +kernel
theorem dX10_carried_2 : decode cX10_carried 2 = .ok (.iconst 0, 1) := by decide +kernel
theorem dX10_carried_3 : decode cX10_carried 3 = .ok (.istore_n 3, 1) := by decide +kernel
theorem dX10_carried_4 : decode cX10_carried 4 = .ok (.iload_n 3, 1) := by decide +kernel
theorem dX10_carried_5 : decode cX10_carried 5 = .ok (.aload_n 0, 1) := by decide +kernel
theorem dX10_carried_6 : decode cX10_carried 6 = .ok (.iconst 4, 1) := by decide +kernel
theorem dX10_carried_7 : decode cX10_carried 7 = .ok (.iaload, 1) := by decide +kernel
theorem dX10_carried_8 : decode cX10_carried 8 = .ok (.if_icmp .ge 27, 3) := by decide +kernel
theorem dX10_carried_11 : decode cX10_carried 11 = .ok (.iload_n 2, 1) := by decide +kernel
theorem dX10_carried_12 : decode cX10_carried 12 = .ok (.aload_n 0, 1) := by decide +kernel
theorem dX10_carried_13 : decode cX10_carried 13 = .ok (.iload_n 3, 1) := by decide +kernel
theorem dX10_carried_14 : decode cX10_carried 14 = .ok (.iconst 4, 1) := by decide +kernel
theorem dX10_carried_15 : decode cX10_carried 15 = .ok (.invokestatic 48, 3) := by decide +kernel
theorem dX10_carried_18 : decode cX10_carried 18 = .ok (.iload_n 1, 1) := by decide +kernel
theorem dX10_carried_19 : decode cX10_carried 19 = .ok (.if_icmp .ne 7, 3) := by decide +kernel
theorem dX10_carried_22 : decode cX10_carried 22 = .ok (.iconst 1, 1) := by decide +kernel
theorem dX10_carried_23 : decode cX10_carried 23 = .ok (.goto 4, 3) := by decide +kernel
theorem dX10_carried_26 : decode cX10_carried 26 = .ok (.iconst 0, 1) := by decide +kernel
theorem dX10_carried_27 : decode cX10_carried 27 = .ok (.iadd, 1) := by decide +kernel
theorem dX10_carried_28 : decode cX10_carried 28 = .ok (.istore_n 2, 1) := by decide +kernel
theorem dX10_carried_29 : decode cX10_carried 29 = .ok (.iinc 3 1, 3) := by decide +kernel
theorem dX10_carried_32 : decode cX10_carried 32 = .ok (.goto (-28), 3) := by decide +kernel
theorem dX10_carried_35 : decode cX10_carried 35 = .ok (.iload_n 2, 1) := by decide +kernel
theorem dX10_carried_36 : decode cX10_carried 36 = .ok (.ireturn, 1) := by decide +kernel
set_option maxRecDepth 100000 in
set_option maxHeartbeats 4000000 in
theorem c_X10_carried (l : Launch) (G : GT) (n : Nat) (h : AH) (a : Nat) (y : Nat → Nat) (hx : Row a y h) (h4 : y 4 ≤ 12) (hcr : ∀ i, i < y 4 → y (58 + 6 * i + 4) < 2 ^ 32) (r : Nat) (hr : r < 100) : Ct l yX10_carried cX10_carried 4 (some .int) 2 0 0 G n h [.ref a, .int (nI r)] (Rt (nI (car y r)) n h) := by
  refine Ct_of mX10_carried.1 (Nat.le_of_ble_eq_true rfl) ?_
  intro p e s m args below meth c C hin
  refine V_Le (L' := [(0, .ref a), (1, .int (nI r))]) rfl ?_
  refine V_iconst 1 C dX10_carried_0 rfl ic0 ?_
  refine V_istore_n 2 C dX10_carried_1 rfl (by decide) (L' := [(0, _), (1, _), (2, _)]) rfl ?_
  refine V_iconst 3 C dX10_carried_2 rfl ic0 ?_
  refine V_istore_n 4 C dX10_carried_3 rfl (by decide) (L' := [(0, _), (1, _), (2, _), (3, _)]) rfl ?_
  have J4 : ∀ (fuel : Nat) (i : Nat) (hi : i ≤ y 4), y 4 - i < fuel → V p l e (rmD 2 0 0) s m args below meth c (MQ below (Po G (Rt (nI (car y r)) n h)) args s 0 0 (rg G)) G 4 0 0 n h 4 [(0, .ref a), (1, .int (nI r)), (2, .int (nI (cark y r i))), (3, .int (nI i))] [] := by
    intro fuel
    induction fuel with
    | zero => intro i hi hf; omega
    | succ fuel ih4 =>
      intro i hi hf
      refine V_iload_n 5 C dX10_carried_4 rfl rfl ?_
      refine V_aload_n 6 C dX10_carried_5 rfl rfl ?_
      refine V_iconst 7 C dX10_carried_6 rfl ic4 ?_
      refine V_iald (j := 4) 8 C dX10_carried_7 rfl hx rfl (by omega) (by omega) ?_
      refine V_icmp_geN 35 11 C dX10_carried_8 (by decide) rfl (by omega) (by omega) (fun c8 => ?_) (fun c8 => ?_)
      · refine V_iload_n 36 C dX10_carried_35 rfl rfl ?_
        refine V_ireturn C dX10_carried_36 rfl rfl (by omega) (by omega) ?_
        exact (Rt_mk (by rw [show i = y 4 from by omega]; rfl))
      · refine V_iload_n 12 C dX10_carried_11 rfl rfl ?_
        refine V_aload_n 13 C dX10_carried_12 rfl rfl ?_
        refine V_iload_n 14 C dX10_carried_13 rfl rfl ?_
        refine V_iconst 15 C dX10_carried_14 rfl ic4 ?_
        have hs : i < y 4 := by omega
        have hcc := hcr i hs
        refine V_callS 18 C dX10_carried_15 rfl mX10_ofSheet tw1082 (c_X10_ofSheet l G _ _ a y hx i 4 (58 + 6 * i + 4) rfl (by omega) (by omega) (by omega)) rfl rfl (by decide) ⟨by omega, by omega⟩ (Nat.le_of_ble_eq_true rfl) ?_
        rintro _ _ _ ⟨rfl, rfl, rfl⟩
        refine V_iload_n 19 C dX10_carried_18 rfl rfl ?_
        refine V_icmp_neN 26 22 C dX10_carried_19 (by decide) rfl (by omega) (by omega) (fun c19 => ?_) (fun c19 => ?_)
        · have hz : cark y r i + 0 = cark y r (i + 1) := by simp only [cark]; rw [bp_f c19]
          refine V_iconst 27 C dX10_carried_26 rfl ic0 ?_
          refine V_iaddN 28 C dX10_carried_27 rfl  ?_
          refine V_istore_n 29 C dX10_carried_28 rfl (by decide) (L' := [(0, _), (1, _), (2, _), (3, _)]) rfl ?_
          refine V_iinc 32 C dX10_carried_29 rfl (by decide) rfl (ii1 _) (L' := [(0, _), (1, _), (2, _), (3, _)]) rfl ?_
          refine V_goto 4 C dX10_carried_32 (by decide) ?_
          refine V_L [0, 1, 2, 3] rfl ?_
          rw [hz]; exact ih4 (i + 1) (by omega) (by omega)
        · have hz : cark y r i + 1 = cark y r (i + 1) := by simp only [cark]; rw [bp_t c19]
          refine V_iconst 23 C dX10_carried_22 rfl ic1 ?_
          refine V_goto 27 C dX10_carried_23 (by decide) ?_
          refine V_iaddN 28 C dX10_carried_27 rfl  ?_
          refine V_istore_n 29 C dX10_carried_28 rfl (by decide) (L' := [(0, _), (1, _), (2, _), (3, _)]) rfl ?_
          refine V_iinc 32 C dX10_carried_29 rfl (by decide) rfl (ii1 _) (L' := [(0, _), (1, _), (2, _), (3, _)]) rfl ?_
          refine V_goto 4 C dX10_carried_32 (by decide) ?_
          refine V_L [0, 1, 2, 3] rfl ?_
          rw [hz]; exact ih4 (i + 1) (by omega) (by omega)
  refine V_L [0, 1, 2, 3] rfl ?_
  exact J4 (y 4 + 1) 0 (by omega) (by omega)

theorem dX10_isRunnerIn_0 : decode cX10_isRunnerIn 0 = .ok (.iconst 0, 1) := by decide +kernel
theorem dX10_isRunnerIn_1 : decode cX10_isRunnerIn 1 = .ok (.istore_n 3, 1) := by decide +kernel
theorem dX10_isRunnerIn_2 : decode cX10_isRunnerIn 2 = .ok (.iload_n 3, 1) := by decide +kernel
theorem dX10_isRunnerIn_3 : decode cX10_isRunnerIn 3 = .ok (.aload_n 0, 1) := by decide +kernel
theorem dX10_isRunnerIn_4 : decode cX10_isRunnerIn 4 = .ok (.iconst 2, 1) := by decide +kernel
theorem dX10_isRunnerIn_5 : decode cX10_isRunnerIn 5 = .ok (.iaload, 1) := by decide +kernel
theorem dX10_isRunnerIn_6 : decode cX10_isRunnerIn 6 = .ok (.if_icmp .ge 25, 3) := by decide +kernel
theorem dX10_isRunnerIn_9 : decode cX10_isRunnerIn 9 = .ok (.iload_n 3, 1) := by decide +kernel
theorem dX10_isRunnerIn_10 : decode cX10_isRunnerIn 10 = .ok (.iload_n 2, 1) := by decide +kernel
theorem dX10_isRunnerIn_11 : decode cX10_isRunnerIn 11 = .ok (.if_icmp .eq 14, 3) := by decide +kernel
theorem dX10_isRunnerIn_14 : decode cX10_isRunnerIn 14 = .ok (.aload_n 0, 1) := by decide +kernel
theorem dX10_isRunnerIn_15 : decode cX10_isRunnerIn 15 = .ok (.iload_n 3, 1) := by decide +kernel
theorem dX10_isRunnerIn_16 : decode cX10_isRunnerIn 16 = .ok (.invokestatic 51, 3) := by decide +kernel
theorem dX10_isRunnerIn_19 : decode cX10_isRunnerIn 19 = .ok (.iload_n 1, 1) := by decide +kernel
theorem dX10_isRunnerIn_20 : decode cX10_isRunnerIn 20 = .ok (.if_icmp .ne 5, 3) := by decide +kernel
theorem dX10_isRunnerIn_23 : decode cX10_isRunnerIn 23 = .ok (.iconst 1, 1) := by decide +kernel
theorem dX10_isRunnerIn_24 : decode cX10_isRunnerIn 24 = .ok (.ireturn, 1) := by decide +kernel
theorem dX10_isRunnerIn_25 : decode cX10_isRunnerIn 25 = .ok (.iinc 3 1, 3) := by decide +kernel
theorem dX10_isRunnerIn_28 : decode cX10_isRunnerIn 28 = .ok (.goto (-26), 3) := by decide +kernel
theorem dX10_isRunnerIn_31 : decode cX10_isRunnerIn 31 = .ok (.iconst 0, 1) := by decide +kernel
theorem dX10_isRunnerIn_32 : decode cX10_isRunnerIn 32 = .ok (.ireturn, 1) := by decide +kernel
set_option maxRecDepth 100000 in
set_option maxHeartbeats 4000000 in
theorem c_X10_isRunnerIn (l : Launch) (G : GT) (n : Nat) (h : AH) (a : Nat) (y : Nat → Nat) (hx : Row a y h) (hI : Iv y) (t bt : Nat) (ht : t < 2 ^ 32) (hb : bt < 2 ^ 32) : Ct l yX10_isRunnerIn cX10_isRunnerIn 4 (some .boolean) 3 0 0 G n h [.ref a, .int (nI t), .int (nI bt)] (fun v n' h' => ∃ b, ((b = 1 ∧ rin y t bt (y 2)) ∨ (b = 0 ∧ ¬ rin y t bt (y 2))) ∧ v = some (.int (nI b)) ∧ n = n' ∧ h = h') := by
  obtain ⟨⟨i0, i1, i2, i3, i4⟩, iR, iU, iM, iS⟩ := id hI
  refine Ct_of mX10_isRunnerIn.1 (Nat.le_of_ble_eq_true rfl) ?_
  intro p e s m args below meth c C hin
  refine V_Le (L' := [(0, .ref a), (1, .int (nI t)), (2, .int (nI bt))]) rfl ?_
  refine V_iconst 1 C dX10_isRunnerIn_0 rfl ic0 ?_
  refine V_istore_n 2 C dX10_isRunnerIn_1 rfl (by decide) (L' := [(0, _), (1, _), (2, _), (3, _)]) rfl ?_
  have J2 : ∀ (fuel : Nat) (i : Nat) (hi : i ≤ y 2) (hn : ¬ rin y t bt i), y 2 - i < fuel → V p l e (rmD 3 0 0) s m args below meth c (MQ below (Po G (fun v n' h' => ∃ b, ((b = 1 ∧ rin y t bt (y 2)) ∨ (b = 0 ∧ ¬ rin y t bt (y 2))) ∧ v = some (.int (nI b)) ∧ n = n' ∧ h = h')) args s 0 0 (rg G)) G 4 0 0 n h 2 [(0, .ref a), (1, .int (nI t)), (2, .int (nI bt)), (3, .int (nI i))] [] := by
    intro fuel
    induction fuel with
    | zero => intro i hi hn hf; omega
    | succ fuel ih2 =>
      intro i hi hn hf
      refine V_iload_n 3 C dX10_isRunnerIn_2 rfl rfl ?_
      refine V_aload_n 4 C dX10_isRunnerIn_3 rfl rfl ?_
      refine V_iconst 5 C dX10_isRunnerIn_4 rfl ic2 ?_
      refine V_iald (j := 2) 6 C dX10_isRunnerIn_5 rfl hx rfl (by omega) (by omega) ?_
      refine V_icmp_geN 31 9 C dX10_isRunnerIn_6 (by decide) rfl (by omega) (by omega) (fun c6 => ?_) (fun c6 => ?_)
      · refine V_iconst 32 C dX10_isRunnerIn_31 rfl ic0 ?_
        refine V_ireturn C dX10_isRunnerIn_32 rfl (by decide) (by omega) (by omega) ?_
        exact ⟨0, Or.inr ⟨rfl, by rw [show y 2 = i from by omega]; exact hn⟩, rfl, rfl, rfl⟩
      · refine V_iload_n 10 C dX10_isRunnerIn_9 rfl rfl ?_
        refine V_iload_n 11 C dX10_isRunnerIn_10 rfl rfl ?_
        refine V_icmp_eqN 25 14 C dX10_isRunnerIn_11 (by decide) rfl (by omega) (by omega) (fun c11 => ?_) (fun c11 => ?_)
        · refine V_iinc 28 C dX10_isRunnerIn_25 rfl (by decide) rfl (ii1 _) (L' := [(0, _), (1, _), (2, _), (3, _)]) rfl ?_
          refine V_goto 2 C dX10_isRunnerIn_28 (by decide) ?_
          refine V_L [0, 1, 2, 3] rfl ?_
          first | exact ih2 (i + 1) (by omega) (rin_s hn (Or.inl c11)) (by omega) | exact ih2 (i + 1) (by omega) (rin_s hn (Or.inr c20)) (by omega)
        · refine V_aload_n 15 C dX10_isRunnerIn_14 rfl rfl ?_
          refine V_iload_n 16 C dX10_isRunnerIn_15 rfl rfl ?_
          refine V_callS 19 C dX10_isRunnerIn_16 rfl mX10_townOf tw1073 (c_X10_townOf l G _ _ a y hx hI i (by omega)) rfl rfl (by decide) ⟨by omega, by omega⟩ (Nat.le_of_ble_eq_true rfl) ?_
          rintro _ _ _ ⟨rfl, rfl, rfl⟩
          obtain ⟨u0, u1⟩ := iU i (by omega)
          have tb : tof y i < 2 ^ 32 := by unfold tof NO; split <;> omega
          refine V_iload_n 20 C dX10_isRunnerIn_19 rfl rfl ?_
          refine V_icmp_neN 25 23 C dX10_isRunnerIn_20 (by decide) rfl (by omega) (by omega) (fun c20 => ?_) (fun c20 => ?_)
          · refine V_iinc 28 C dX10_isRunnerIn_25 rfl (by decide) rfl (ii1 _) (L' := [(0, _), (1, _), (2, _), (3, _)]) rfl ?_
            refine V_goto 2 C dX10_isRunnerIn_28 (by decide) ?_
            refine V_L [0, 1, 2, 3] rfl ?_
            first | exact ih2 (i + 1) (by omega) (rin_s hn (Or.inl c11)) (by omega) | exact ih2 (i + 1) (by omega) (rin_s hn (Or.inr c20)) (by omega)
          · refine V_iconst 24 C dX10_isRunnerIn_23 rfl ic1 ?_
            refine V_ireturn C dX10_isRunnerIn_24 rfl (by decide) (by omega) (by omega) ?_
            exact ⟨1, Or.inl ⟨rfl, i, by omega, c11, c20⟩, rfl, rfl, rfl⟩
  refine V_L [0, 1, 2, 3] rfl ?_
  exact J2 (y 2 + 1) 0 (by omega) rin_0 (by omega)

