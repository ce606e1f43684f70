/-! THE REFERENCE: writes -/
theorem dX10_clear_0 : decode cX10_clear 0 = .ok (.iconst 0, 1) := by decide +kernel
theorem dX10_clear_1 : decode cX10_clear 1 = .ok (.istore_n 1, 1) := by decide +kernel
theorem dX10_clear_2 : decode cX10_clear 2 = .ok (.iload_n 1, 1) := by decide +kernel
theorem dX10_clear_3 : decode cX10_clear 3 = .ok (.sipush 130, 3) := by decide +kernel
theorem dX10_clear_6 : decode cX10_clear 6 = .ok (.if_icmp .ge 13, 3) := by decide +kernel
theorem dX10_clear_9 : decode cX10_clear 9 = .ok (.aload_n 0, 1) := by decide +kernel
theorem dX10_clear_10 : decode cX10_clear 10 = .ok (.iload_n 1, 1) := by decide +kernel
theorem dX10_clear_11 : decode cX10_clear 11 = .ok (.iconst 0, 1) := by decide +kernel
theorem dX10_clear_12 : decode cX10_clear 12 = .ok (.iastore, 1) := by decide +kernel
theorem dX10_clear_13 : decode cX10_clear 13 = .ok (.iinc 1 1, 3) := by decide +kernel
theorem dX10_clear_16 : decode cX10_clear 16 = .ok (.goto (-14), 3) := by decide +kernel
theorem dX10_clear_19 : decode cX10_clear 19 = .ok (.return_, 1) := by decide +kernel
set_option maxRecDepth 100000 in
set_option maxHeartbeats 4000000 in
theorem c_X10_clear (l : Launch) (G : GT) (n : Nat) (h : AH) (a : Nat) (y : Nat → Nat) (hx : Row a y h) : Ct l yX10_clear cX10_clear 2 none 1 0 0 G n h [.ref a] (Rv n (fun h' => h' = HR h a (fun j => if j < 130 then 0 else y j))) := by
  refine Ct_of mX10_clear.1 (Nat.le_of_ble_eq_true rfl) ?_
  intro p e s m args below meth c C hin
  refine V_Le (L' := [(0, .ref a)]) rfl ?_
  refine V_iconst 1 C dX10_clear_0 rfl ic0 ?_
  refine V_istore_n 2 C dX10_clear_1 rfl (by decide) (L' := [(0, _), (1, _)]) rfl ?_
  have J2 : ∀ (fuel : Nat) (i : Nat) (hi : i ≤ 130), 130 - i < fuel → V p l e (rmD 1 0 0) s m args below meth c (MQ below (Po G (Rv n (fun h' => h' = HR h a (fun j => if j < 130 then 0 else y j)))) args s 0 0 (rg G)) G 2 0 0 n ((HR h a (fun j => if j < i then 0 else y j))) 2 [(0, .ref a), (1, .int (nI i))] [] := by
    intro fuel
    induction fuel with
    | zero => intro i hi hf; omega
    | succ fuel ih2 =>
      intro i hi hf
      refine V_iload_n 3 C dX10_clear_2 rfl rfl ?_
      refine V_sipush 6 C dX10_clear_3 rfl sip130 ?_
      refine V_icmp_geN 19 9 C dX10_clear_6 (by decide) rfl (by omega) (by omega) (fun c6 => ?_) (fun c6 => ?_)
      · refine V_return C dX10_clear_19 rfl (by omega) (by omega) ?_
        exact ⟨rfl, rfl, by rw [show i = 130 from by omega]⟩
      · refine V_aload_n 10 C dX10_clear_9 rfl rfl ?_
        refine V_iload_n 11 C dX10_clear_10 rfl rfl ?_
        refine V_iconst 12 C dX10_clear_11 rfl ic0 ?_
        refine V_iast (j := i) 13 C dX10_clear_12 rfl (HR_row _ _ _) rfl (by omega) (by omega) ?_
        rw [HR_st, HR_HR]
        refine V_iinc 16 C dX10_clear_13 rfl (by decide) rfl (ii1 _) (L' := [(0, _), (1, _)]) rfl ?_
        refine V_goto 2 C dX10_clear_16 (by decide) ?_
        refine V_L [0, 1] rfl ?_
        have ez : ys (fun j => if j < i then 0 else y j) i 0 = (fun j => if j < i + 1 then 0 else y j) := by
          funext j
          unfold ys
          by_cases h1 : j = i
          · rw [if_pos h1, if_pos (by omega)]
          · rw [if_neg h1]
            show (if j < i then 0 else y j) = _
            by_cases h2 : j < i
            · rw [if_pos h2, if_pos (by omega)]
            · rw [if_neg h2, if_neg (by omega)]
        rw [ez]
        exact ih2 (i + 1) (by omega) (by omega)
  refine V_L [0, 1] rfl ?_
  have J := J2 131 0 (by omega) (by omega)
  rw [show (fun j => if j < 0 then 0 else y j) = y from by funext j; rw [if_neg (by omega)], HR_id hx] at J
  exact J

theorem dX10_areProof_0 : decode cX10_areProof 0 = .ok (.iload_n 1, 1) := by decide +kernel
theorem dX10_areProof_1 : decode cX10_areProof 1 = .ok (.iload_n 2, 1) := by decide +kernel
theorem dX10_areProof_2 : decode cX10_areProof 2 = .ok (.if_icmp .eq 60, 3) := by decide +kernel
theorem dX10_areProof_5 : decode cX10_areProof 5 = .ok (.iload_n 1, 1) := by decide +kernel
theorem dX10_areProof_6 : decode cX10_areProof 6 = .ok (.iload_n 3, 1) := by decide +kernel
theorem dX10_areProof_7 : decode cX10_areProof 7 = .ok (.if_icmp .eq 55, 3) := by decide +kernel
theorem dX10_areProof_10 : decode cX10_areProof 10 = .ok (.iload_n 2, 1) := by decide +kernel
theorem dX10_areProof_11 : decode cX10_areProof 11 = .ok (.iload_n 3, 1) := by decide +kernel
theorem dX10_areProof_12 : decode cX10_areProof 12 = .ok (.if_icmp .eq 50, 3) := by decide +kernel
theorem dX10_areProof_15 : decode cX10_areProof 15 = .ok (.aload_n 0, 1) := by decide +kernel
theorem dX10_areProof_16 : decode cX10_areProof 16 = .ok (.iload_n 1, 1) := by decide +kernel
theorem dX10_areProof_17 : decode cX10_areProof 17 = .ok (.iconst 0, 1) := by decide +kernel
theorem dX10_areProof_18 : decode cX10_areProof 18 = .ok (.invokestatic 48, 3) := by decide +kernel
theorem dX10_areProof_21 : decode cX10_areProof 21 = .ok (.aload_n 0, 1) := by decide +kernel
theorem dX10_areProof_22 : decode cX10_areProof 22 = .ok (.iload_n 2, 1) := by decide +kernel
theorem dX10_areProof_23 : decode cX10_areProof 23 = .ok (.iconst 0, 1) := by decide +kernel
theorem dX10_areProof_24 : decode cX10_areProof 24 = .ok (.invokestatic 48, 3) := by decide +kernel
theorem dX10_areProof_27 : decode cX10_areProof 27 = .ok (.if_icmp .ne 35, 3) := by decide +kernel
theorem dX10_areProof_30 : decode cX10_areProof 30 = .ok (.aload_n 0, 1) := by decide +kernel
theorem dX10_areProof_31 : decode cX10_areProof 31 = .ok (.iload_n 1, 1) := by decide +kernel
theorem dX10_areProof_32 : decode cX10_areProof 32 = .ok (.iconst 0, 1) := by decide +kernel
theorem dX10_areProof_33 : decode cX10_areProof 33 = .ok (.invokestatic 48, 3) := by decide +kernel
theorem dX10_areProof_36 : decode cX10_areProof 36 = .ok (.aload_n 0, 1) := by decide +kernel
theorem dX10_areProof_37 : decode cX10_areProof 37 = .ok (.iload_n 3, 1) := by decide +kernel
theorem dX10_areProof_38 : decode cX10_areProof 38 = .ok (.iconst 0, 1) := by decide +kernel
theorem dX10_areProof_39 : decode cX10_areProof 39 = .ok (.invokestatic 48, 3) := by decide +kernel
theorem dX10_areProof_42 : decode cX10_areProof 42 = .ok (.if_icmp .ne 20, 3) := by decide +kernel
theorem dX10_areProof_45 : decode cX10_areProof 45 = .ok (.iload 4, 2) := by decide +kernel
theorem dX10_areProof_47 : decode cX10_areProof 47 = .ok (.i2l, 1) := by decide +kernel
theorem dX10_areProof_48 : decode cX10_areProof 48 = .ok (.lconst 0, 1) := by decide +kernel
theorem dX10_areProof_49 : decode cX10_areProof 49 = .ok (.ldc2_w 92, 3) := by decide +kernel
theorem dX10_areProof_52 : decode cX10_areProof 52 = .ok (.invokestatic 40, 3) := by decide +kernel
theorem dX10_areProof_55 : decode cX10_areProof 55 = .ok (.ifCond .eq 7, 3) := by decide +kernel
theorem dX10_areProof_58 : decode cX10_areProof 58 = .ok (.iconst 1, 1) := by decide +kernel
theorem dX10_areProof_59 : decode cX10_areProof 59 = .ok (.goto 4, 3) := by decide +kernel
theorem dX10_areProof_62 : decode cX10_areProof 62 = .ok (.iconst 0, 1) := by decide +kernel
theorem dX10_areProof_63 : decode cX10_areProof 63 = .ok (.ireturn, 1) := by decide +kernel
set_option maxRecDepth 100000 in
set_option maxHeartbeats 4000000 in
theorem c_X10_areProof (l : Launch) (G : GT) (n : Nat) (h : AH) (a : Nat) (y : Nat → Nat) (hx : Row a y h) (hI : Iv y) (u v w : Nat) (f : Int32) (hu : u < y 4) (hv : v < y 4) (hw : w < y 4) : Ct l yX10_areProof cX10_areProof 5 (some .boolean) 2 0 0 G n h [.ref a, .int (nI u), .int (nI v), .int (nI w), .int f] (Rt (nI (bp ((¬ u = v ∧ ¬ u = w ∧ ¬ v = w ∧ y (58 + 6 * u) = y (58 + 6 * v) ∧ y (58 + 6 * u) = y (58 + 6 * w)) ∧ ix f 10))) n h) := by
  obtain ⟨⟨i0, i1, i2, i3, i4⟩, iR, iU, iM, iS⟩ := id hI
  obtain ⟨s0u, s1u, s2u, s3u, s4u, s5u⟩ := iS u hu
  unfold NO at s4u
  obtain ⟨s0v, s1v, s2v, s3v, s4v, s5v⟩ := iS v hv
  unfold NO at s4v
  obtain ⟨s0w, s1w, s2w, s3w, s4w, s5w⟩ := iS w hw
  unfold NO at s4w
  refine Ct_of mX10_areProof.1 (Nat.le_of_ble_eq_true rfl) ?_
  intro p e s m args below meth c C hin
  refine V_Le (L' := [(0, .ref a), (1, .int (nI u)), (2, .int (nI v)), (3, .int (nI w)), (4, .int f)]) rfl ?_
  refine V_iload_n 1 C dX10_areProof_0 rfl rfl ?_
  refine V_iload_n 2 C dX10_areProof_1 rfl rfl ?_
  refine V_icmp_eqN 62 5 C dX10_areProof_2 (by decide) rfl (by omega) (by omega) (fun c2 => ?_) (fun c2 => ?_)
  · refine V_iconst 63 C dX10_areProof_62 rfl ic0 ?_
    refine V_ireturn C dX10_areProof_63 rfl (by decide) (by omega) (by omega) ?_
    exact (Rt_mk (by first | exact (bp_t ⟨⟨c2, c7, c12, c27, c42⟩, c55⟩).symm | exact (bp_f (fun z => c55 z.2)).symm | exact (bp_f (fun z => by obtain ⟨z, -⟩ := z; omega)).symm))
  · refine V_iload_n 6 C dX10_areProof_5 rfl rfl ?_
    refine V_iload_n 7 C dX10_areProof_6 rfl rfl ?_
    refine V_icmp_eqN 62 10 C dX10_areProof_7 (by decide) rfl (by omega) (by omega) (fun c7 => ?_) (fun c7 => ?_)
    · refine V_iconst 63 C dX10_areProof_62 rfl ic0 ?_
      refine V_ireturn C dX10_areProof_63 rfl (by decide) (by omega) (by omega) ?_
      exact (Rt_mk (by first | exact (bp_t ⟨⟨c2, c7, c12, c27, c42⟩, c55⟩).symm | exact (bp_f (fun z => c55 z.2)).symm | exact (bp_f (fun z => by obtain ⟨z, -⟩ := z; omega)).symm))
    · refine V_iload_n 11 C dX10_areProof_10 rfl rfl ?_
      refine V_iload_n 12 C dX10_areProof_11 rfl rfl ?_
      refine V_icmp_eqN 62 15 C dX10_areProof_12 (by decide) rfl (by omega) (by omega) (fun c12 => ?_) (fun c12 => ?_)
      · refine V_iconst 63 C dX10_areProof_62 rfl ic0 ?_
        refine V_ireturn C dX10_areProof_63 rfl (by decide) (by omega) (by omega) ?_
        exact (Rt_mk (by first | exact (bp_t ⟨⟨c2, c7, c12, c27, c42⟩, c55⟩).symm | exact (bp_f (fun z => c55 z.2)).symm | exact (bp_f (fun z => by obtain ⟨z, -⟩ := z; omega)).symm))
      · refine V_aload_n 16 C dX10_areProof_15 rfl rfl ?_
        refine V_iload_n 17 C dX10_areProof_16 rfl rfl ?_
        refine V_iconst 18 C dX10_areProof_17 rfl ic0 ?_
        refine V_callS 21 C dX10_areProof_18 rfl mX10_ofSheet tw1082 (c_X10_ofSheet l G _ _ a y hx u 0 (58 + 6 * u) rfl (by omega) (by omega) (by omega)) rfl rfl (by decide) ⟨by omega, by omega⟩ (Nat.le_of_ble_eq_true rfl) ?_
        rintro _ _ _ ⟨rfl, rfl, rfl⟩
        refine V_aload_n 22 C dX10_areProof_21 rfl rfl ?_
        refine V_iload_n 23 C dX10_areProof_22 rfl rfl ?_
        refine V_iconst 24 C dX10_areProof_23 rfl ic0 ?_
        refine V_callS 27 C dX10_areProof_24 rfl mX10_ofSheet tw1082 (c_X10_ofSheet l G _ _ a y hx v 0 (58 + 6 * v) rfl (by omega) (by omega) (by omega)) rfl rfl (by decide) ⟨by omega, by omega⟩ (Nat.le_of_ble_eq_true rfl) ?_
        rintro _ _ _ ⟨rfl, rfl, rfl⟩
        refine V_icmp_neN 62 30 C dX10_areProof_27 (by decide) rfl (by omega) (by omega) (fun c27 => ?_) (fun c27 => ?_)
        · refine V_iconst 63 C dX10_areProof_62 rfl ic0 ?_
          refine V_ireturn C dX10_areProof_63 rfl (by decide) (by omega) (by omega) ?_
          exact (Rt_mk (by first | exact (bp_t ⟨⟨c2, c7, c12, c27, c42⟩, c55⟩).symm | exact (bp_f (fun z => c55 z.2)).symm | exact (bp_f (fun z => by obtain ⟨z, -⟩ := z; omega)).symm))
        · refine V_aload_n 31 C dX10_areProof_30 rfl rfl ?_
          refine V_iload_n 32 C dX10_areProof_31 rfl rfl ?_
          refine V_iconst 33 C dX10_areProof_32 rfl ic0 ?_
          refine V_callS 36 C dX10_areProof_33 rfl mX10_ofSheet tw1082 (c_X10_ofSheet l G _ _ a y hx u 0 (58 + 6 * u) rfl (by omega) (by omega) (by omega)) rfl rfl (by decide) ⟨by omega, by omega⟩ (Nat.le_of_ble_eq_true rfl) ?_
          rintro _ _ _ ⟨rfl, rfl, rfl⟩
          refine V_aload_n 37 C dX10_areProof_36 rfl rfl ?_
          refine V_iload_n 38 C dX10_areProof_37 rfl rfl ?_
          refine V_iconst 39 C dX10_areProof_38 rfl ic0 ?_
          refine V_callS 42 C dX10_areProof_39 rfl mX10_ofSheet tw1082 (c_X10_ofSheet l G _ _ a y hx w 0 (58 + 6 * w) rfl (by omega) (by omega) (by omega)) rfl rfl (by decide) ⟨by omega, by omega⟩ (Nat.le_of_ble_eq_true rfl) ?_
          rintro _ _ _ ⟨rfl, rfl, rfl⟩
          refine V_icmp_neN 62 45 C dX10_areProof_42 (by decide) rfl (by omega) (by omega) (fun c42 => ?_) (fun c42 => ?_)
          · refine V_iconst 63 C dX10_areProof_62 rfl ic0 ?_
            refine V_ireturn C dX10_areProof_63 rfl (by decide) (by omega) (by omega) ?_
            exact (Rt_mk (by first | exact (bp_t ⟨⟨c2, c7, c12, c27, c42⟩, c55⟩).symm | exact (bp_f (fun z => c55 z.2)).symm | exact (bp_f (fun z => by obtain ⟨z, -⟩ := z; omega)).symm))
          · refine V_iload 47 C dX10_areProof_45 rfl rfl ?_
            refine V_i2l 48 C dX10_areProof_47 rfl  ?_
            refine V_lconst 49 C dX10_areProof_48 rfl rfl ?_
            refine V_ldc2 52 C dX10_areProof_49 rfl tw1024 ?_
            refine V_callS 55 C dX10_areProof_52 rfl mX10_in tw982 (c_X10_in l G _ _ _ _ _) rfl rfl (by decide) ⟨by omega, by omega⟩ (Nat.le_of_ble_eq_true rfl) ?_
            rintro _ _ _ ⟨rfl, rfl, rfl⟩
            rw [bp_c (show ((Int64.ofNat ((0 : Fin 2) : Nat)).toInt ≤ f.toInt64.toInt ∧ f.toInt64.toInt ≤ (9 : Int64).toInt) ↔ ix f 10 from by rw [Int32.toInt_toInt64]; show (0 : Int) ≤ _ ∧ _ ≤ (9 : Int) ↔ 0 ≤ _ ∧ _ < ((10 : Nat) : Int); omega)]
            refine V_if_eqB 62 58 C dX10_areProof_55 (by decide) rfl  (fun c55 => ?_) (fun c55 => ?_)
            · refine V_iconst 63 C dX10_areProof_62 rfl ic0 ?_
              refine V_ireturn C dX10_areProof_63 rfl (by decide) (by omega) (by omega) ?_
              exact (Rt_mk (by first | exact (bp_t ⟨⟨c2, c7, c12, c27, c42⟩, c55⟩).symm | exact (bp_f (fun z => c55 z.2)).symm | exact (bp_f (fun z => by obtain ⟨z, -⟩ := z; omega)).symm))
            · refine V_iconst 59 C dX10_areProof_58 rfl ic1 ?_
              refine V_goto 63 C dX10_areProof_59 (by decide) ?_
              refine V_ireturn C dX10_areProof_63 rfl (by decide) (by omega) (by omega) ?_
              exact (Rt_mk (by first | exact (bp_t ⟨⟨c2, c7, c12, c27, c42⟩, c55⟩).symm | exact (bp_f (fun z => c55 z.2)).symm | exact (bp_f (fun z => by obtain ⟨z, -⟩ := z; omega)).symm))

theorem dX10_proofReason_0 : decode cX10_proofReason 0 = .ok (.aload_n 0, 1) := by decide +kernel
theorem dX10_proofReason_1 : decode cX10_proofReason 1 = .ok (.iload_n 1, 1) := by decide +kernel
theorem dX10_proofReason_2 : decode cX10_proofReason 2 = .ok (.invokestatic 82, 3) := by decide +kernel
theorem dX10_proofReason_5 : decode cX10_proofReason 5 = .ok (.istore 4, 2) := by decide +kernel
theorem dX10_proofReason_7 : decode cX10_proofReason 7 = .ok (.iload 4, 2) := by decide +kernel
theorem dX10_proofReason_9 : decode cX10_proofReason 9 = .ok (.iconst (-1), 1) := by decide +kernel
theorem dX10_proofReason_10 : decode cX10_proofReason 10 = .ok (.if_icmp .eq 27, 3) := by decide +kernel
theorem dX10_proofReason_13 : decode cX10_proofReason 13 = .ok (.aload_n 0, 1) := by decide +kernel
theorem dX10_proofReason_14 : decode cX10_proofReason 14 = .ok (.iload_n 2, 1) := by decide +kernel
theorem dX10_proofReason_15 : decode cX10_proofReason 15 = .ok (.invokestatic 82, 3) := by decide +kernel
theorem dX10_proofReason_18 : decode cX10_proofReason 18 = .ok (.iload 4, 2) := by decide +kernel
theorem dX10_proofReason_20 : decode cX10_proofReason 20 = .ok (.if_icmp .ne 17, 3) := by decide +kernel
theorem dX10_proofReason_23 : decode cX10_proofReason 23 = .ok (.aload_n 0, 1) := by decide +kernel
theorem dX10_proofReason_24 : decode cX10_proofReason 24 = .ok (.iload_n 3, 1) := by decide +kernel
theorem dX10_proofReason_25 : decode cX10_proofReason 25 = .ok (.invokestatic 82, 3) := by decide +kernel
theorem dX10_proofReason_28 : decode cX10_proofReason 28 = .ok (.iload 4, 2) := by decide +kernel
theorem dX10_proofReason_30 : decode cX10_proofReason 30 = .ok (.if_icmp .ne 7, 3) := by decide +kernel
theorem dX10_proofReason_33 : decode cX10_proofReason 33 = .ok (.iconst 1, 1) := by decide +kernel
theorem dX10_proofReason_34 : decode cX10_proofReason 34 = .ok (.goto 4, 3) := by decide +kernel
theorem dX10_proofReason_37 : decode cX10_proofReason 37 = .ok (.iconst 0, 1) := by decide +kernel
theorem dX10_proofReason_38 : decode cX10_proofReason 38 = .ok (.istore 5, 2) := by decide +kernel
theorem dX10_proofReason_40 : decode cX10_proofReason 40 = .ok (.aload_n 0, 1) := by decide +kernel
theorem dX10_proofReason_41 : decode cX10_proofReason 41 = .ok (.iload_n 1, 1) := by decide +kernel
theorem dX10_proofReason_42 : decode cX10_proofReason 42 = .ok (.invokestatic 89, 3) := by decide +kernel
theorem dX10_proofReason_45 : decode cX10_proofReason 45 = .ok (.iconst (-1), 1) := by decide +kernel
theorem dX10_proofReason_46 : decode cX10_proofReason 46 = .ok (.if_icmp .eq 25, 3) := by decide +kernel
theorem dX10_proofReason_49 : decode cX10_proofReason 49 = .ok (.aload_n 0, 1) := by decide +kernel
theorem dX10_proofReason_50 : decode cX10_proofReason 50 = .ok (.iload_n 2, 1) := by decide +kernel
theorem dX10_proofReason_51 : decode cX10_proofReason 51 = .ok (.invokestatic 89, 3) := by decide +kernel
theorem dX10_proofReason_54 : decode cX10_proofReason 54 = .ok (.iconst (-1), 1) := by decide +kernel
theorem dX10_proofReason_55 : decode cX10_proofReason 55 = .ok (.if_icmp .eq 16, 3) := by decide +kernel
theorem dX10_proofReason_58 : decode cX10_proofReason 58 = .ok (.aload_n 0, 1) := by decide +kernel
theorem dX10_proofReason_59 : decode cX10_proofReason 59 = .ok (.iload_n 3, 1) := by decide +kernel
theorem dX10_proofReason_60 : decode cX10_proofReason 60 = .ok (.invokestatic 89, 3) := by decide +kernel
theorem dX10_proofReason_63 : decode cX10_proofReason 63 = .ok (.iconst (-1), 1) := by decide +kernel
theorem dX10_proofReason_64 : decode cX10_proofReason 64 = .ok (.if_icmp .eq 7, 3) := by decide +kernel
theorem dX10_proofReason_67 : decode cX10_proofReason 67 = .ok (.iconst 1, 1) := by decide +kernel
theorem dX10_proofReason_68 : decode cX10_proofReason 68 = .ok (.goto 4, 3) := by decide +kernel
theorem dX10_proofReason_71 : decode cX10_proofReason 71 = .ok (.iconst 0, 1) := by decide +kernel
theorem dX10_proofReason_72 : decode cX10_proofReason 72 = .ok (.istore 6, 2) := by decide +kernel
theorem dX10_proofReason_74 : decode cX10_proofReason 74 = .ok (.iload 5, 2) := by decide +kernel
theorem dX10_proofReason_76 : decode cX10_proofReason 76 = .ok (.ifCond .ne 7, 3) := by decide +kernel
theorem dX10_proofReason_79 : decode cX10_proofReason 79 = .ok (.iconst 1, 1) := by decide +kernel
theorem dX10_proofReason_80 : decode cX10_proofReason 80 = .ok (.goto 39, 3) := by decide +kernel
theorem dX10_proofReason_83 : decode cX10_proofReason 83 = .ok (.iload 6, 2) := by decide +kernel
theorem dX10_proofReason_85 : decode cX10_proofReason 85 = .ok (.ifCond .ne 7, 3) := by decide +kernel
theorem dX10_proofReason_88 : decode cX10_proofReason 88 = .ok (.iconst 2, 1) := by decide +kernel
theorem dX10_proofReason_89 : decode cX10_proofReason 89 = .ok (.goto 30, 3) := by decide +kernel
theorem dX10_proofReason_92 : decode cX10_proofReason 92 = .ok (.aload_n 0, 1) := by decide +kernel
theorem dX10_proofReason_93 : decode cX10_proofReason 93 = .ok (.iload 4, 2) := by decide +kernel
theorem dX10_proofReason_95 : decode cX10_proofReason 95 = .ok (.iconst (-1), 1) := by decide +kernel
theorem dX10_proofReason_96 : decode cX10_proofReason 96 = .ok (.invokestatic 85, 3) := by decide +kernel
theorem dX10_proofReason_99 : decode cX10_proofReason 99 = .ok (.ifCond .ne 7, 3) := by decide +kernel
theorem dX10_proofReason_102 : decode cX10_proofReason 102 = .ok (.iconst 3, 1) := by decide +kernel
theorem dX10_proofReason_103 : decode cX10_proofReason 103 = .ok (.goto 16, 3) := by decide +kernel
theorem dX10_proofReason_106 : decode cX10_proofReason 106 = .ok (.aload_n 0, 1) := by decide +kernel
theorem dX10_proofReason_107 : decode cX10_proofReason 107 = .ok (.iconst 4, 1) := by decide +kernel
theorem dX10_proofReason_108 : decode cX10_proofReason 108 = .ok (.iaload, 1) := by decide +kernel
theorem dX10_proofReason_109 : decode cX10_proofReason 109 = .ok (.bipush 12, 2) := by decide +kernel
theorem dX10_proofReason_111 : decode cX10_proofReason 111 = .ok (.if_icmp .ne 7, 3) := by decide +kernel
theorem dX10_proofReason_114 : decode cX10_proofReason 114 = .ok (.iconst 4, 1) := by decide +kernel
theorem dX10_proofReason_115 : decode cX10_proofReason 115 = .ok (.goto 4, 3) := by decide +kernel
theorem dX10_proofReason_118 : decode cX10_proofReason 118 = .ok (.iconst 0, 1) := by decide +kernel
theorem dX10_proofReason_119 : decode cX10_proofReason 119 = .ok (.ireturn, 1) := by decide +kernel
set_option maxRecDepth 100000 in
set_option maxHeartbeats 4000000 in
theorem c_X10_proofReason (l : Launch) (G : GT) (n : Nat) (h : AH) (a : Nat) (y : Nat → Nat) (hx : Row a y h) (hI : Iv y) (u v w : Nat) (hu : u < y 4) (hv : v < y 4) (hw : w < y 4) : Ct l yX10_proofReason cX10_proofReason 7 (some .int) 6 0 0 G n h [.ref a, .int (nI u), .int (nI v), .int (nI w)] (Rt (nI (prs y u v w)) n h) := by
  obtain ⟨⟨i0, i1, i2, i3, i4⟩, iR, iU, iM, iS⟩ := id hI
  obtain ⟨s0u, s1u, s2u, s3u, s4u, s5u⟩ := iS u hu
  unfold NO at s4u
  obtain ⟨s0v, s1v, s2v, s3v, s4v, s5v⟩ := iS v hv
  unfold NO at s4v
  obtain ⟨s0w, s1w, s2w, s3w, s4w, s5w⟩ := iS w hw
  unfold NO at s4w
  have hpu := pof_b hI hu
  have hpv := pof_b hI hv
  have hpw := pof_b hI hw
  have hru := rof_b hI hu
  have hrv := rof_b hI hv
  have hrw := rof_b hI hw
  unfold NO at hpu hpv hpw
  have hnu : rof y u = NO ↔ y (58 + 6 * u + 2) = 0 := rdw_no s1u
  have hnv : rof y v = NO ↔ y (58 + 6 * v + 2) = 0 := rdw_no s1v
  have hnw : rof y w = NO ↔ y (58 + 6 * w + 2) = 0 := rdw_no s1w
  unfold NO at hnu hnv hnw
  refine Ct_of mX10_proofReason.1 (Nat.le_of_ble_eq_true rfl) ?_
  intro p e s m args below meth c C hin
  refine V_Le (L' := [(0, .ref a), (1, .int (nI u)), (2, .int (nI v)), (3, .int (nI w))]) rfl ?_
  refine V_aload_n 1 C dX10_proofReason_0 rfl rfl ?_
  refine V_iload_n 2 C dX10_proofReason_1 rfl rfl ?_
  refine V_callS 5 C dX10_proofReason_2 rfl mX10_placeOf tw1079 (c_X10_placeOf l G _ _ a y hx hI u hu) rfl rfl (by decide) ⟨by omega, by omega⟩ (Nat.le_of_ble_eq_true rfl) ?_
  rintro _ _ _ ⟨rfl, rfl, rfl⟩
  refine V_istore 7 C dX10_proofReason_5 rfl (by decide) (L' := [(0, _), (1, _), (2, _), (3, _), (4, _)]) rfl ?_
  have J38 : ∀ (k : Nat) (hk : (k = 1 ∧ ¬ (pof y u = 4294967295 ∨ ¬ pof y v = pof y u ∨ ¬ pof y w = pof y u)) ∨ (k = 0 ∧ (pof y u = 4294967295 ∨ ¬ pof y v = pof y u ∨ ¬ pof y w = pof y u))), V p l e (rmD 6 0 0) s m args below meth c (MQ below (Po G (Rt (nI (prs y u v w)) n h)) args s 0 0 (rg G)) G 7 0 0 n h 38 [(0, .ref a), (1, .int (nI u)), (2, .int (nI v)), (3, .int (nI w)), (4, .int (nI (pof y u)))] [.int (nI k)] := by
    intro k hk
    refine V_istore 40 C dX10_proofReason_38 rfl (by decide) (L' := [(0, _), (1, _), (2, _), (3, _), (4, _), (5, _)]) rfl ?_
    have J72 : ∀ (k2 : Nat) (hk2 : (k2 = 1 ∧ ¬ (y (58 + 6 * u + 2) = 0 ∨ y (58 + 6 * v + 2) = 0 ∨ y (58 + 6 * w + 2) = 0)) ∨ (k2 = 0 ∧ (y (58 + 6 * u + 2) = 0 ∨ y (58 + 6 * v + 2) = 0 ∨ y (58 + 6 * w + 2) = 0))), V p l e (rmD 6 0 0) s m args below meth c (MQ below (Po G (Rt (nI (prs y u v w)) n h)) args s 0 0 (rg G)) G 7 0 0 n h 72 [(0, .ref a), (1, .int (nI u)), (2, .int (nI v)), (3, .int (nI w)), (4, .int (nI (pof y u))), (5, .int (nI k))] [.int (nI k2)] := by
      intro k2 hk2
      refine V_istore 74 C dX10_proofReason_72 rfl (by decide) (L' := [(0, _), (1, _), (2, _), (3, _), (4, _), (5, _), (6, _)]) rfl ?_
      refine V_iload 76 C dX10_proofReason_74 rfl rfl ?_
      refine V_if_neN 83 79 C dX10_proofReason_76 (by decide) rfl (by omega) (fun c76 => ?_) (fun c76 => ?_)
      · have hk1 : ¬ (pof y u = NO ∨ ¬ pof y v = pof y u ∨ ¬ pof y w = pof y u) := by unfold NO; omega
        refine V_iload 85 C dX10_proofReason_83 rfl rfl ?_
        refine V_if_neN 92 88 C dX10_proofReason_85 (by decide) rfl (by omega) (fun c85 => ?_) (fun c85 => ?_)
        · have hk3 : ¬ (y (58 + 6 * u + 2) = 0 ∨ y (58 + 6 * v + 2) = 0 ∨ y (58 + 6 * w + 2) = 0) := by omega
          refine V_aload_n 93 C dX10_proofReason_92 rfl rfl ?_
          refine V_iload 95 C dX10_proofReason_93 rfl rfl ?_
          refine V_iconst 96 C dX10_proofReason_95 rfl icm1 ?_
          refine V_callS 99 C dX10_proofReason_96 rfl mX10_isRunnerIn tw1120 (c_X10_isRunnerIn l G _ _ a y hx hI _ _ (by omega) (by omega)) rfl rfl (by decide) ⟨by omega, by omega⟩ (Nat.le_of_ble_eq_true rfl) ?_
          rintro _ _ _ ⟨b9, hb9, rfl, rfl, rfl⟩
          have hb9b : b9 < 2 := by omega
          refine V_if_neN 106 102 C dX10_proofReason_99 (by decide) rfl (by omega) (fun c99 => ?_) (fun c99 => ?_)
          · have hrb := rinb_iff.mpr (show rin y _ _ _ by rcases hb9 with ⟨e, hz⟩ | ⟨e, hz⟩; exact hz; exact absurd e c99)
            refine V_aload_n 107 C dX10_proofReason_106 rfl rfl ?_
            refine V_iconst 108 C dX10_proofReason_107 rfl ic4 ?_
            refine V_iald (j := 4) 109 C dX10_proofReason_108 rfl hx rfl (by omega) (by omega) ?_
            refine V_bipush 111 C dX10_proofReason_109 rfl bip12 ?_
            refine V_icmp_neN 118 114 C dX10_proofReason_111 (by decide) rfl (by omega) (by omega) (fun c111 => ?_) (fun c111 => ?_)
            · refine V_iconst 119 C dX10_proofReason_118 rfl ic0 ?_
              refine V_ireturn C dX10_proofReason_119 rfl rfl (by omega) (by omega) ?_
              exact Rt_mk (by unfold prs; first | rw [if_pos hk1] | (rw [if_neg hk1]; first | rw [if_pos hk3] | (rw [if_neg hk3]; rw [NO_eq]; first | rw [if_pos hrb] | (rw [hrb]; first | rw [if_neg (by decide), if_pos c111] | rw [if_neg (by decide), if_neg c111]))))
            · refine V_iconst 115 C dX10_proofReason_114 rfl ic4 ?_
              refine V_goto 119 C dX10_proofReason_115 (by decide) ?_
              refine V_ireturn C dX10_proofReason_119 rfl rfl (by omega) (by omega) ?_
              exact Rt_mk (by unfold prs; first | rw [if_pos hk1] | (rw [if_neg hk1]; first | rw [if_pos hk3] | (rw [if_neg hk3]; rw [NO_eq]; first | rw [if_pos hrb] | (rw [hrb]; first | rw [if_neg (by decide), if_pos c111] | rw [if_neg (by decide), if_neg c111]))))
          · have hrb := eq_false_of_ne_true (fun z => (show ¬ rin y _ _ _ by rcases hb9 with ⟨e, hz⟩ | ⟨e, hz⟩; (rw [e] at c99; exact absurd c99 (by decide)); exact hz) (rinb_iff.mp z))
            refine V_iconst 103 C dX10_proofReason_102 rfl ic3 ?_
            refine V_goto 119 C dX10_proofReason_103 (by decide) ?_
            refine V_ireturn C dX10_proofReason_119 rfl rfl (by omega) (by omega) ?_
            exact Rt_mk (by unfold prs; first | rw [if_pos hk1] | (rw [if_neg hk1]; first | rw [if_pos hk3] | (rw [if_neg hk3]; rw [NO_eq]; first | rw [if_pos hrb] | (rw [hrb]; first | rw [if_neg (by decide), if_pos c111] | rw [if_neg (by decide), if_neg c111]))))
        · have hk3 : y (58 + 6 * u + 2) = 0 ∨ y (58 + 6 * v + 2) = 0 ∨ y (58 + 6 * w + 2) = 0 := by omega
          refine V_iconst 89 C dX10_proofReason_88 rfl ic2 ?_
          refine V_goto 119 C dX10_proofReason_89 (by decide) ?_
          refine V_ireturn C dX10_proofReason_119 rfl rfl (by omega) (by omega) ?_
          exact Rt_mk (by unfold prs; first | rw [if_pos hk1] | (rw [if_neg hk1]; first | rw [if_pos hk3] | (rw [if_neg hk3]; rw [NO_eq]; first | rw [if_pos hrb] | (rw [hrb]; first | rw [if_neg (by decide), if_pos c111] | rw [if_neg (by decide), if_neg c111]))))
      · have hk1 : pof y u = NO ∨ ¬ pof y v = pof y u ∨ ¬ pof y w = pof y u := by unfold NO; omega
        refine V_iconst 80 C dX10_proofReason_79 rfl ic1 ?_
        refine V_goto 119 C dX10_proofReason_80 (by decide) ?_
        refine V_ireturn C dX10_proofReason_119 rfl rfl (by omega) (by omega) ?_
        exact Rt_mk (by unfold prs; first | rw [if_pos hk1] | (rw [if_neg hk1]; first | rw [if_pos hk3] | (rw [if_neg hk3]; rw [NO_eq]; first | rw [if_pos hrb] | (rw [hrb]; first | rw [if_neg (by decide), if_pos c111] | rw [if_neg (by decide), if_neg c111]))))
    refine V_aload_n 41 C dX10_proofReason_40 rfl rfl ?_
    refine V_iload_n 42 C dX10_proofReason_41 rfl rfl ?_
    refine V_callS 45 C dX10_proofReason_42 rfl mX10_readOf tw1126 (c_X10_readOf l G _ _ a y hx hI u hu) rfl rfl (by decide) ⟨by omega, by omega⟩ (Nat.le_of_ble_eq_true rfl) ?_
    rintro _ _ _ ⟨rfl, rfl, rfl⟩
    refine V_iconst 46 C dX10_proofReason_45 rfl icm1 ?_
    refine V_icmp_eqN 71 49 C dX10_proofReason_46 (by decide) rfl (by omega) (by omega) (fun c46 => ?_) (fun c46 => ?_)
    · have hz2 := hnu.mp c46
      refine V_iconst 72 C dX10_proofReason_71 rfl ic0 ?_
      refine V_L [0, 1, 2, 3, 4, 5] rfl ?_
      exact J72 _ (by omega)
    · have hz2 := mt hnu.mpr c46
      refine V_aload_n 50 C dX10_proofReason_49 rfl rfl ?_
      refine V_iload_n 51 C dX10_proofReason_50 rfl rfl ?_
      refine V_callS 54 C dX10_proofReason_51 rfl mX10_readOf tw1126 (c_X10_readOf l G _ _ a y hx hI v hv) rfl rfl (by decide) ⟨by omega, by omega⟩ (Nat.le_of_ble_eq_true rfl) ?_
      rintro _ _ _ ⟨rfl, rfl, rfl⟩
      refine V_iconst 55 C dX10_proofReason_54 rfl icm1 ?_
      refine V_icmp_eqN 71 58 C dX10_proofReason_55 (by decide) rfl (by omega) (by omega) (fun c55 => ?_) (fun c55 => ?_)
      · have hz3 := hnv.mp c55
        refine V_iconst 72 C dX10_proofReason_71 rfl ic0 ?_
        refine V_L [0, 1, 2, 3, 4, 5] rfl ?_
        exact J72 _ (by omega)
      · have hz3 := mt hnv.mpr c55
        refine V_aload_n 59 C dX10_proofReason_58 rfl rfl ?_
        refine V_iload_n 60 C dX10_proofReason_59 rfl rfl ?_
        refine V_callS 63 C dX10_proofReason_60 rfl mX10_readOf tw1126 (c_X10_readOf l G _ _ a y hx hI w hw) rfl rfl (by decide) ⟨by omega, by omega⟩ (Nat.le_of_ble_eq_true rfl) ?_
        rintro _ _ _ ⟨rfl, rfl, rfl⟩
        refine V_iconst 64 C dX10_proofReason_63 rfl icm1 ?_
        refine V_icmp_eqN 71 67 C dX10_proofReason_64 (by decide) rfl (by omega) (by omega) (fun c64 => ?_) (fun c64 => ?_)
        · have hz4 := hnw.mp c64
          refine V_iconst 72 C dX10_proofReason_71 rfl ic0 ?_
          refine V_L [0, 1, 2, 3, 4, 5] rfl ?_
          exact J72 _ (by omega)
        · have hz4 := mt hnw.mpr c64
          refine V_iconst 68 C dX10_proofReason_67 rfl ic1 ?_
          refine V_goto 72 C dX10_proofReason_68 (by decide) ?_
          refine V_L [0, 1, 2, 3, 4, 5] rfl ?_
          exact J72 _ (by omega)
  refine V_iload 9 C dX10_proofReason_7 rfl rfl ?_
  refine V_iconst 10 C dX10_proofReason_9 rfl icm1 ?_
  refine V_icmp_eqN 37 13 C dX10_proofReason_10 (by decide) rfl (by omega) (by omega) (fun c10 => ?_) (fun c10 => ?_)
  · refine V_iconst 38 C dX10_proofReason_37 rfl ic0 ?_
    refine V_L [0, 1, 2, 3, 4] rfl ?_
    exact J38 _ (by omega)
  · refine V_aload_n 14 C dX10_proofReason_13 rfl rfl ?_
    refine V_iload_n 15 C dX10_proofReason_14 rfl rfl ?_
    refine V_callS 18 C dX10_proofReason_15 rfl mX10_placeOf tw1079 (c_X10_placeOf l G _ _ a y hx hI v hv) rfl rfl (by decide) ⟨by omega, by omega⟩ (Nat.le_of_ble_eq_true rfl) ?_
    rintro _ _ _ ⟨rfl, rfl, rfl⟩
    refine V_iload 20 C dX10_proofReason_18 rfl rfl ?_
    refine V_icmp_neN 37 23 C dX10_proofReason_20 (by decide) rfl (by omega) (by omega) (fun c20 => ?_) (fun c20 => ?_)
    · refine V_iconst 38 C dX10_proofReason_37 rfl ic0 ?_
      refine V_L [0, 1, 2, 3, 4] rfl ?_
      exact J38 _ (by omega)
    · refine V_aload_n 24 C dX10_proofReason_23 rfl rfl ?_
      refine V_iload_n 25 C dX10_proofReason_24 rfl rfl ?_
      refine V_callS 28 C dX10_proofReason_25 rfl mX10_placeOf tw1079 (c_X10_placeOf l G _ _ a y hx hI w hw) rfl rfl (by decide) ⟨by omega, by omega⟩ (Nat.le_of_ble_eq_true rfl) ?_
      rintro _ _ _ ⟨rfl, rfl, rfl⟩
      refine V_iload 30 C dX10_proofReason_28 rfl rfl ?_
      refine V_icmp_neN 37 33 C dX10_proofReason_30 (by decide) rfl (by omega) (by omega) (fun c30 => ?_) (fun c30 => ?_)
      · refine V_iconst 38 C dX10_proofReason_37 rfl ic0 ?_
        refine V_L [0, 1, 2, 3, 4] rfl ?_
        exact J38 _ (by omega)
      · refine V_iconst 34 C dX10_proofReason_33 rfl ic1 ?_
        refine V_goto 38 C dX10_proofReason_34 (by decide) ?_
        refine V_L [0, 1, 2, 3, 4] rfl ?_
        exact J38 _ (by omega)

theorem dX10_sheetOn_0 : decode cX10_sheetOn 0 = .ok (.bipush 58, 2) := by decide +kernel
theorem dX10_sheetOn_2 : decode cX10_sheetOn 2 = .ok (.bipush 6, 2) := by decide +kernel
theorem dX10_sheetOn_4 : decode cX10_sheetOn 4 = .ok (.aload_n 0, 1) := by decide +kernel
theorem dX10_sheetOn_5 : decode cX10_sheetOn 5 = .ok (.iconst 4, 1) := by decide +kernel
theorem dX10_sheetOn_6 : decode cX10_sheetOn 6 = .ok (.iaload, 1) := by decide +kernel
theorem dX10_sheetOn_7 : decode cX10_sheetOn 7 = .ok (.imul, 1) := by decide +kernel
theorem dX10_sheetOn_8 : decode cX10_sheetOn 8 = .ok (.iadd, 1) := by decide +kernel
theorem dX10_sheetOn_9 : decode cX10_sheetOn 9 = .ok (.istore 5, 2) := by decide +kernel
theorem dX10_sheetOn_11 : decode cX10_sheetOn 11 = .ok (.aload_n 0, 1) := by decide +kernel
theorem dX10_sheetOn_12 : decode cX10_sheetOn 12 = .ok (.iload 5, 2) := by decide +kernel
theorem dX10_sheetOn_14 : decode cX10_sheetOn 14 = .ok (.iconst 0, 1) := by decide +kernel
theorem dX10_sheetOn_15 : decode cX10_sheetOn 15 = .ok (.iadd, 1) := by decide +kernel
theorem dX10_sheetOn_16 : decode cX10_sheetOn 16 = .ok (.iload_n 1, 1) := by decide +kernel
theorem dX10_sheetOn_17 : decode cX10_sheetOn 17 = .ok (.iastore, 1) := by decide +kernel
theorem dX10_sheetOn_18 : decode cX10_sheetOn 18 = .ok (.aload_n 0, 1) := by decide +kernel
theorem dX10_sheetOn_19 : decode cX10_sheetOn 19 = .ok (.iload 5, 2) := by decide +kernel
theorem dX10_sheetOn_21 : decode cX10_sheetOn 21 = .ok (.iconst 1, 1) := by decide +kernel
theorem dX10_sheetOn_22 : decode cX10_sheetOn 22 = .ok (.iadd, 1) := by decide +kernel
theorem dX10_sheetOn_23 : decode cX10_sheetOn 23 = .ok (.iload_n 2, 1) := by decide +kernel
theorem dX10_sheetOn_24 : decode cX10_sheetOn 24 = .ok (.iastore, 1) := by decide +kernel
theorem dX10_sheetOn_25 : decode cX10_sheetOn 25 = .ok (.aload_n 0, 1) := by decide +kernel
theorem dX10_sheetOn_26 : decode cX10_sheetOn 26 = .ok (.iload 5, 2) := by decide +kernel
theorem dX10_sheetOn_28 : decode cX10_sheetOn 28 = .ok (.iconst 2, 1) := by decide +kernel
theorem dX10_sheetOn_29 : decode cX10_sheetOn 29 = .ok (.iadd, 1) := by decide +kernel
theorem dX10_sheetOn_30 : decode cX10_sheetOn 30 = .ok (.bipush 99, 2) := by decide +kernel
theorem dX10_sheetOn_32 : decode cX10_sheetOn 32 = .ok (.iastore, 1) := by decide +kernel
theorem dX10_sheetOn_33 : decode cX10_sheetOn 33 = .ok (.aload_n 0, 1) := by decide +kernel
theorem dX10_sheetOn_34 : decode cX10_sheetOn 34 = .ok (.iload 5, 2) := by decide +kernel
theorem dX10_sheetOn_36 : decode cX10_sheetOn 36 = .ok (.iconst 3, 1) := by decide +kernel
theorem dX10_sheetOn_37 : decode cX10_sheetOn 37 = .ok (.iadd, 1) := by decide +kernel
theorem dX10_sheetOn_38 : decode cX10_sheetOn 38 = .ok (.iload_n 3, 1) := by decide +kernel
theorem dX10_sheetOn_39 : decode cX10_sheetOn 39 = .ok (.iastore, 1) := by decide +kernel
theorem dX10_sheetOn_40 : decode cX10_sheetOn 40 = .ok (.aload_n 0, 1) := by decide +kernel
theorem dX10_sheetOn_41 : decode cX10_sheetOn 41 = .ok (.iload 5, 2) := by decide +kernel
theorem dX10_sheetOn_43 : decode cX10_sheetOn 43 = .ok (.iconst 4, 1) := by decide +kernel
theorem dX10_sheetOn_44 : decode cX10_sheetOn 44 = .ok (.iadd, 1) := by decide +kernel
theorem dX10_sheetOn_45 : decode cX10_sheetOn 45 = .ok (.iconst (-1), 1) := by decide +kernel
theorem dX10_sheetOn_46 : decode cX10_sheetOn 46 = .ok (.iastore, 1) := by decide +kernel
theorem dX10_sheetOn_47 : decode cX10_sheetOn 47 = .ok (.aload_n 0, 1) := by decide +kernel
theorem dX10_sheetOn_48 : decode cX10_sheetOn 48 = .ok (.iload 5, 2) := by decide +kernel
theorem dX10_sheetOn_50 : decode cX10_sheetOn 50 = .ok (.iconst 5, 1) := by decide +kernel
theorem dX10_sheetOn_51 : decode cX10_sheetOn 51 = .ok (.iadd, 1) := by decide +kernel
theorem dX10_sheetOn_52 : decode cX10_sheetOn 52 = .ok (.iload 4, 2) := by decide +kernel
theorem dX10_sheetOn_54 : decode cX10_sheetOn 54 = .ok (.iastore, 1) := by decide +kernel
theorem dX10_sheetOn_55 : decode cX10_sheetOn 55 = .ok (.aload_n 0, 1) := by decide +kernel
theorem dX10_sheetOn_56 : decode cX10_sheetOn 56 = .ok (.iconst 4, 1) := by decide +kernel
theorem dX10_sheetOn_57 : decode cX10_sheetOn 57 = .ok (.dup2, 1) := by decide +kernel
theorem dX10_sheetOn_58 : decode cX10_sheetOn 58 = .ok (.iaload, 1) := by decide +kernel
theorem dX10_sheetOn_59 : decode cX10_sheetOn 59 = .ok (.iconst 1, 1) := by decide +kernel
theorem dX10_sheetOn_60 : decode cX10_sheetOn 60 = .ok (.iadd, 1) := by decide +kernel
theorem dX10_sheetOn_61 : decode cX10_sheetOn 61 = .ok (.iastore, 1) := by decide +kernel
theorem dX10_sheetOn_62 : decode cX10_sheetOn 62 = .ok (.return_, 1) := by decide +kernel
set_option maxRecDepth 100000 in
set_option maxHeartbeats 4000000 in
theorem c_X10_sheetOn (l : Launch) (G : GT) (n : Nat) (h : AH) (a : Nat) (y : Nat → Nat) (hx : Row a y h) (h4 : y 4 < 12) (m9 dt f t : Nat) : Ct l yX10_sheetOn cX10_sheetOn 6 none 1 0 0 G n h [.ref a, .int (nI m9), .int (nI dt), .int (nI f), .int (nI t)] (Rv n (fun h' => h' = HR h a (shOn y m9 dt f t))) := by
  refine Ct_of mX10_sheetOn.1 (Nat.le_of_ble_eq_true rfl) ?_
  intro p e s m args below meth c C hin
  refine V_Le (L' := [(0, .ref a), (1, .int (nI m9)), (2, .int (nI dt)), (3, .int (nI f)), (4, .int (nI t))]) rfl ?_
  refine V_bipush 2 C dX10_sheetOn_0 rfl bip58 ?_
  refine V_bipush 4 C dX10_sheetOn_2 rfl bip6 ?_
  refine V_aload_n 5 C dX10_sheetOn_4 rfl rfl ?_
  refine V_iconst 6 C dX10_sheetOn_5 rfl ic4 ?_
  refine V_iald (j := 4) 7 C dX10_sheetOn_6 rfl hx rfl (by omega) (by omega) ?_
  refine V_imulN 8 C dX10_sheetOn_7 rfl  ?_
  refine V_iaddN 9 C dX10_sheetOn_8 rfl  ?_
  refine V_istore 11 C dX10_sheetOn_9 rfl (by decide) (L' := [(0, _), (1, _), (2, _), (3, _), (4, _), (5, _)]) rfl ?_
  refine V_aload_n 12 C dX10_sheetOn_11 rfl rfl ?_
  refine V_iload 14 C dX10_sheetOn_12 rfl rfl ?_
  refine V_iconst 15 C dX10_sheetOn_14 rfl ic0 ?_
  refine V_iaddN 16 C dX10_sheetOn_15 rfl  ?_
  refine V_iload_n 17 C dX10_sheetOn_16 rfl rfl ?_
  refine V_iast (j := 58 + 6 * y 4) 18 C dX10_sheetOn_17 rfl hx (congrArg nI (by omega)) (by omega) (by omega) ?_
  rw [HR_st]
  refine V_aload_n 19 C dX10_sheetOn_18 rfl rfl ?_
  refine V_iload 21 C dX10_sheetOn_19 rfl rfl ?_
  refine V_iconst 22 C dX10_sheetOn_21 rfl ic1 ?_
  refine V_iaddN 23 C dX10_sheetOn_22 rfl  ?_
  refine V_iload_n 24 C dX10_sheetOn_23 rfl rfl ?_
  refine V_iast (j := 58 + 6 * y 4 + 1) 25 C dX10_sheetOn_24 rfl (HR_row _ _ _) rfl (by omega) (by omega) ?_
  rw [HR_st, HR_HR]
  refine V_aload_n 26 C dX10_sheetOn_25 rfl rfl ?_
  refine V_iload 28 C dX10_sheetOn_26 rfl rfl ?_
  refine V_iconst 29 C dX10_sheetOn_28 rfl ic2 ?_
  refine V_iaddN 30 C dX10_sheetOn_29 rfl  ?_
  refine V_bipush 32 C dX10_sheetOn_30 rfl bip99 ?_
  refine V_iast (j := 58 + 6 * y 4 + 2) 33 C dX10_sheetOn_32 rfl (HR_row _ _ _) rfl (by omega) (by omega) ?_
  rw [HR_st, HR_HR]
  refine V_aload_n 34 C dX10_sheetOn_33 rfl rfl ?_
  refine V_iload 36 C dX10_sheetOn_34 rfl rfl ?_
  refine V_iconst 37 C dX10_sheetOn_36 rfl ic3 ?_
  refine V_iaddN 38 C dX10_sheetOn_37 rfl  ?_
  refine V_iload_n 39 C dX10_sheetOn_38 rfl rfl ?_
  refine V_iast (j := 58 + 6 * y 4 + 3) 40 C dX10_sheetOn_39 rfl (HR_row _ _ _) rfl (by omega) (by omega) ?_
  rw [HR_st, HR_HR]
  refine V_aload_n 41 C dX10_sheetOn_40 rfl rfl ?_
  refine V_iload 43 C dX10_sheetOn_41 rfl rfl ?_
  refine V_iconst 44 C dX10_sheetOn_43 rfl ic4 ?_
  refine V_iaddN 45 C dX10_sheetOn_44 rfl  ?_
  refine V_iconst 46 C dX10_sheetOn_45 rfl icm1 ?_
  refine V_iast (j := 58 + 6 * y 4 + 4) 47 C dX10_sheetOn_46 rfl (HR_row _ _ _) rfl (by omega) (by omega) ?_
  rw [HR_st, HR_HR]
  refine V_aload_n 48 C dX10_sheetOn_47 rfl rfl ?_
  refine V_iload 50 C dX10_sheetOn_48 rfl rfl ?_
  refine V_iconst 51 C dX10_sheetOn_50 rfl ic5 ?_
  refine V_iaddN 52 C dX10_sheetOn_51 rfl  ?_
  refine V_iload 54 C dX10_sheetOn_52 rfl rfl ?_
  refine V_iast (j := 58 + 6 * y 4 + 5) 55 C dX10_sheetOn_54 rfl (HR_row _ _ _) rfl (by omega) (by omega) ?_
  rw [HR_st, HR_HR]
  refine V_aload_n 56 C dX10_sheetOn_55 rfl rfl ?_
  refine V_iconst 57 C dX10_sheetOn_56 rfl ic4 ?_
  refine V_dup2 58 C dX10_sheetOn_57 rfl rfl rfl ?_
  refine V_iald (j := 4) 59 C dX10_sheetOn_58 rfl (HR_row _ _ _) rfl (by omega) (by omega) ?_
  refine V_iconst 60 C dX10_sheetOn_59 rfl ic1 ?_
  refine V_iaddN 61 C dX10_sheetOn_60 rfl  ?_
  refine V_iast (j := 4) 62 C dX10_sheetOn_61 rfl (HR_row _ _ _) rfl (by omega) (by omega) ?_
  rw [HR_st, HR_HR]
  refine V_return C dX10_sheetOn_62 rfl (by omega) (by omega) ?_
  exact ⟨rfl, rfl, rfl⟩

theorem dX10_townOn_0 : decode cX10_townOn 0 = .ok (.aload_n 0, 1) := by decide +kernel
theorem dX10_townOn_1 : decode cX10_townOn 1 = .ok (.iconst 0, 1) := by decide +kernel
theorem dX10_townOn_2 : decode cX10_townOn 2 = .ok (.dup2, 1) := by decide +kernel
theorem dX10_townOn_3 : decode cX10_townOn 3 = .ok (.iaload, 1) := by decide +kernel
theorem dX10_townOn_4 : decode cX10_townOn 4 = .ok (.iconst 1, 1) := by decide +kernel
theorem dX10_townOn_5 : decode cX10_townOn 5 = .ok (.iadd, 1) := by decide +kernel
theorem dX10_townOn_6 : decode cX10_townOn 6 = .ok (.iastore, 1) := by decide +kernel
theorem dX10_townOn_7 : decode cX10_townOn 7 = .ok (.aload_n 0, 1) := by decide +kernel
theorem dX10_townOn_8 : decode cX10_townOn 8 = .ok (.iconst 0, 1) := by decide +kernel
theorem dX10_townOn_9 : decode cX10_townOn 9 = .ok (.iaload, 1) := by decide +kernel
theorem dX10_townOn_10 : decode cX10_townOn 10 = .ok (.iconst 1, 1) := by decide +kernel
theorem dX10_townOn_11 : decode cX10_townOn 11 = .ok (.isub, 1) := by decide +kernel
theorem dX10_townOn_12 : decode cX10_townOn 12 = .ok (.ireturn, 1) := by decide +kernel
set_option maxRecDepth 100000 in
set_option maxHeartbeats 4000000 in
theorem c_X10_townOn (l : Launch) (G : GT) (n : Nat) (h : AH) (a : Nat) (y : Nat → Nat) (hx : Row a y h) : Ct l yX10_townOn cX10_townOn 1 (some .int) 1 0 0 G n h [.ref a] (Ri (nI (y 0)) n (fun h' => h' = HR h a (twOn y))) := by
  refine Ct_of mX10_townOn.1 (Nat.le_of_ble_eq_true rfl) ?_
  intro p e s m args below meth c C hin
  refine V_Le (L' := [(0, .ref a)]) rfl ?_
  refine V_aload_n 1 C dX10_townOn_0 rfl rfl ?_
  refine V_iconst 2 C dX10_townOn_1 rfl ic0 ?_
  refine V_dup2 3 C dX10_townOn_2 rfl rfl rfl ?_
  refine V_iald (j := 0) 4 C dX10_townOn_3 rfl hx rfl (by omega) (by omega) ?_
  refine V_iconst 5 C dX10_townOn_4 rfl ic1 ?_
  refine V_iaddN 6 C dX10_townOn_5 rfl  ?_
  refine V_iast (j := 0) 7 C dX10_townOn_6 rfl hx rfl (by omega) (by omega) ?_
  rw [HR_st]
  refine V_aload_n 8 C dX10_townOn_7 rfl rfl ?_
  refine V_iconst 9 C dX10_townOn_8 rfl ic0 ?_
  refine V_iald (j := 0) 10 C dX10_townOn_9 rfl (HR_row _ _ _) rfl (by omega) (by omega) ?_
  refine V_iconst 11 C dX10_townOn_10 rfl ic1 ?_
  refine V_isub 12 C dX10_townOn_11 rfl  ?_
  show V _ _ _ _ _ _ _ _ _ _ _ _ _ _ _ _ _ _ _ (.int (nI (ys y 0 (y 0 + 1) 0) - nI 1) :: _)
  rw [ys_s, sub1]
  refine V_ireturn C dX10_townOn_12 rfl rfl (by omega) (by omega) ?_
  exact ⟨rfl, rfl, rfl⟩

theorem dX10_roadOn_0 : decode cX10_roadOn 0 = .ok (.bipush 7, 2) := by decide +kernel
theorem dX10_roadOn_2 : decode cX10_roadOn 2 = .ok (.iconst 3, 1) := by decide +kernel
theorem dX10_roadOn_3 : decode cX10_roadOn 3 = .ok (.aload_n 0, 1) := by decide +kernel
theorem dX10_roadOn_4 : decode cX10_roadOn 4 = .ok (.iconst 1, 1) := by decide +kernel
theorem dX10_roadOn_5 : decode cX10_roadOn 5 = .ok (.iaload, 1) := by decide +kernel
theorem dX10_roadOn_6 : decode cX10_roadOn 6 = .ok (.imul, 1) := by decide +kernel
theorem dX10_roadOn_7 : decode cX10_roadOn 7 = .ok (.iadd, 1) := by decide +kernel
theorem dX10_roadOn_8 : decode cX10_roadOn 8 = .ok (.istore 4, 2) := by decide +kernel
theorem dX10_roadOn_10 : decode cX10_roadOn 10 = .ok (.aload_n 0, 1) := by decide +kernel
theorem dX10_roadOn_11 : decode cX10_roadOn 11 = .ok (.iload 4, 2) := by decide +kernel
theorem dX10_roadOn_13 : decode cX10_roadOn 13 = .ok (.iload_n 1, 1) := by decide +kernel
theorem dX10_roadOn_14 : decode cX10_roadOn 14 = .ok (.iastore, 1) := by decide +kernel
theorem dX10_roadOn_15 : decode cX10_roadOn 15 = .ok (.aload_n 0, 1) := by decide +kernel
theorem dX10_roadOn_16 : decode cX10_roadOn 16 = .ok (.iload 4, 2) := by decide +kernel
theorem dX10_roadOn_18 : decode cX10_roadOn 18 = .ok (.iconst 1, 1) := by decide +kernel
theorem dX10_roadOn_19 : decode cX10_roadOn 19 = .ok (.iadd, 1) := by decide +kernel
theorem dX10_roadOn_20 : decode cX10_roadOn 20 = .ok (.iload_n 2, 1) := by decide +kernel
theorem dX10_roadOn_21 : decode cX10_roadOn 21 = .ok (.iastore, 1) := by decide +kernel
theorem dX10_roadOn_22 : decode cX10_roadOn 22 = .ok (.aload_n 0, 1) := by decide +kernel
theorem dX10_roadOn_23 : decode cX10_roadOn 23 = .ok (.iload 4, 2) := by decide +kernel
theorem dX10_roadOn_25 : decode cX10_roadOn 25 = .ok (.iconst 2, 1) := by decide +kernel
theorem dX10_roadOn_26 : decode cX10_roadOn 26 = .ok (.iadd, 1) := by decide +kernel
theorem dX10_roadOn_27 : decode cX10_roadOn 27 = .ok (.iload_n 3, 1) := by decide +kernel
theorem dX10_roadOn_28 : decode cX10_roadOn 28 = .ok (.iastore, 1) := by decide +kernel
theorem dX10_roadOn_29 : decode cX10_roadOn 29 = .ok (.aload_n 0, 1) := by decide +kernel
theorem dX10_roadOn_30 : decode cX10_roadOn 30 = .ok (.iconst 1, 1) := by decide +kernel
theorem dX10_roadOn_31 : decode cX10_roadOn 31 = .ok (.dup2, 1) := by decide +kernel
theorem dX10_roadOn_32 : decode cX10_roadOn 32 = .ok (.iaload, 1) := by decide +kernel
theorem dX10_roadOn_33 : decode cX10_roadOn 33 = .ok (.iconst 1, 1) := by decide +kernel
theorem dX10_roadOn_34 : decode cX10_roadOn 34 = .ok (.iadd, 1) := by decide +kernel
theorem dX10_roadOn_35 : decode cX10_roadOn 35 = .ok (.iastore, 1) := by decide +kernel
theorem dX10_roadOn_36 : decode cX10_roadOn 36 = .ok (.aload_n 0, 1) := by decide +kernel
theorem dX10_roadOn_37 : decode cX10_roadOn 37 = .ok (.iconst 1, 1) := by decide +kernel
theorem dX10_roadOn_38 : decode cX10_roadOn 38 = .ok (.iaload, 1) := by decide +kernel
theorem dX10_roadOn_39 : decode cX10_roadOn 39 = .ok (.iconst 1, 1) := by decide +kernel
theorem dX10_roadOn_40 : decode cX10_roadOn 40 = .ok (.isub, 1) := by decide +kernel
theorem dX10_roadOn_41 : decode cX10_roadOn 41 = .ok (.ireturn, 1) := by decide +kernel
set_option maxRecDepth 100000 in
set_option maxHeartbeats 4000000 in
theorem c_X10_roadOn (l : Launch) (G : GT) (n : Nat) (h : AH) (a : Nat) (y : Nat → Nat) (hx : Row a y h) (h1 : y 1 < 10) (u v w : Nat) : Ct l yX10_roadOn cX10_roadOn 5 (some .int) 1 0 0 G n h [.ref a, .int (nI u), .int (nI v), .int (nI w)] (Ri (nI (y 1)) n (fun h' => h' = HR h a (rdOn y u v w))) := by
  refine Ct_of mX10_roadOn.1 (Nat.le_of_ble_eq_true rfl) ?_
  intro p e s m args below meth c C hin
  refine V_Le (L' := [(0, .ref a), (1, .int (nI u)), (2, .int (nI v)), (3, .int (nI w))]) rfl ?_
  refine V_bipush 2 C dX10_roadOn_0 rfl bip7 ?_
  refine V_iconst 3 C dX10_roadOn_2 rfl ic3 ?_
  refine V_aload_n 4 C dX10_roadOn_3 rfl rfl ?_
  refine V_iconst 5 C dX10_roadOn_4 rfl ic1 ?_
  refine V_iald (j := 1) 6 C dX10_roadOn_5 rfl hx rfl (by omega) (by omega) ?_
  refine V_imulN 7 C dX10_roadOn_6 rfl  ?_
  refine V_iaddN 8 C dX10_roadOn_7 rfl  ?_
  refine V_istore 10 C dX10_roadOn_8 rfl (by decide) (L' := [(0, _), (1, _), (2, _), (3, _), (4, _)]) rfl ?_
  refine V_aload_n 11 C dX10_roadOn_10 rfl rfl ?_
  refine V_iload 13 C dX10_roadOn_11 rfl rfl ?_
  refine V_iload_n 14 C dX10_roadOn_13 rfl rfl ?_
  refine V_iast (j := 7 + 3 * y 1) 15 C dX10_roadOn_14 rfl hx rfl (by omega) (by omega) ?_
  rw [HR_st]
  refine V_aload_n 16 C dX10_roadOn_15 rfl rfl ?_
  refine V_iload 18 C dX10_roadOn_16 rfl rfl ?_
  refine V_iconst 19 C dX10_roadOn_18 rfl ic1 ?_
  refine V_iaddN 20 C dX10_roadOn_19 rfl  ?_
  refine V_iload_n 21 C dX10_roadOn_20 rfl rfl ?_
  refine V_iast (j := 7 + 3 * y 1 + 1) 22 C dX10_roadOn_21 rfl (HR_row _ _ _) rfl (by omega) (by omega) ?_
  rw [HR_st, HR_HR]
  refine V_aload_n 23 C dX10_roadOn_22 rfl rfl ?_
  refine V_iload 25 C dX10_roadOn_23 rfl rfl ?_
  refine V_iconst 26 C dX10_roadOn_25 rfl ic2 ?_
  refine V_iaddN 27 C dX10_roadOn_26 rfl  ?_
  refine V_iload_n 28 C dX10_roadOn_27 rfl rfl ?_
  refine V_iast (j := 7 + 3 * y 1 + 2) 29 C dX10_roadOn_28 rfl (HR_row _ _ _) rfl (by omega) (by omega) ?_
  rw [HR_st, HR_HR]
  refine V_aload_n 30 C dX10_roadOn_29 rfl rfl ?_
  refine V_iconst 31 C dX10_roadOn_30 rfl ic1 ?_
  refine V_dup2 32 C dX10_roadOn_31 rfl rfl rfl ?_
  refine V_iald (j := 1) 33 C dX10_roadOn_32 rfl (HR_row _ _ _) rfl (by omega) (by omega) ?_
  refine V_iconst 34 C dX10_roadOn_33 rfl ic1 ?_
  refine V_iaddN 35 C dX10_roadOn_34 rfl  ?_
  refine V_iast (j := 1) 36 C dX10_roadOn_35 rfl (HR_row _ _ _) rfl (by omega) (by omega) ?_
  rw [HR_st, HR_HR]
  refine V_aload_n 37 C dX10_roadOn_36 rfl rfl ?_
  refine V_iconst 38 C dX10_roadOn_37 rfl ic1 ?_
  refine V_iald (j := 1) 39 C dX10_roadOn_38 rfl (HR_row _ _ _) rfl (by omega) (by omega) ?_
  refine V_iconst 40 C dX10_roadOn_39 rfl ic1 ?_
  refine V_isub 41 C dX10_roadOn_40 rfl  ?_
  show V _ _ _ _ _ _ _ _ _ _ _ _ _ _ _ _ _ _ _ (.int (nI (ys (y3 y (7 + 3 * y 1) u v w) 1 (y3 y (7 + 3 * y 1) u v w 1 + 1) 1) - nI 1) :: _)
  rw [ys_s, sub1, y3_n (by omega)]
  refine V_ireturn C dX10_roadOn_41 rfl rfl (by omega) (by omega) ?_
  exact ⟨rfl, rfl, rfl⟩

theorem dX10_runnerOn_0 : decode cX10_runnerOn 0 = .ok (.bipush 37, 2) := by decide +kernel
theorem dX10_runnerOn_2 : decode cX10_runnerOn 2 = .ok (.iconst 3, 1) := by decide +kernel
theorem dX10_runnerOn_3 : decode cX10_runnerOn 3 = .ok (.aload_n 0, 1) := by decide +kernel
theorem dX10_runnerOn_4 : decode cX10_runnerOn 4 = .ok (.iconst 2, 1) := by decide +kernel
theorem dX10_runnerOn_5 : decode cX10_runnerOn 5 = .ok (.iaload, 1) := by decide +kernel
theorem dX10_runnerOn_6 : decode cX10_runnerOn 6 = .ok (.imul, 1) := by decide +kernel
theorem dX10_runnerOn_7 : decode cX10_runnerOn 7 = .ok (.iadd, 1) := by decide +kernel
theorem dX10_runnerOn_8 : decode cX10_runnerOn 8 = .ok (.istore_n 2, 1) := by decide +kernel
theorem dX10_runnerOn_9 : decode cX10_runnerOn 9 = .ok (.aload_n 0, 1) := by decide +kernel
theorem dX10_runnerOn_10 : decode cX10_runnerOn 10 = .ok (.iload_n 2, 1) := by decide +kernel
theorem dX10_runnerOn_11 : decode cX10_runnerOn 11 = .ok (.iload_n 1, 1) := by decide +kernel
theorem dX10_runnerOn_12 : decode cX10_runnerOn 12 = .ok (.iastore, 1) := by decide +kernel
theorem dX10_runnerOn_13 : decode cX10_runnerOn 13 = .ok (.aload_n 0, 1) := by decide +kernel
theorem dX10_runnerOn_14 : decode cX10_runnerOn 14 = .ok (.iload_n 2, 1) := by decide +kernel
theorem dX10_runnerOn_15 : decode cX10_runnerOn 15 = .ok (.iconst 1, 1) := by decide +kernel
theorem dX10_runnerOn_16 : decode cX10_runnerOn 16 = .ok (.iadd, 1) := by decide +kernel
theorem dX10_runnerOn_17 : decode cX10_runnerOn 17 = .ok (.iconst 0, 1) := by decide +kernel
theorem dX10_runnerOn_18 : decode cX10_runnerOn 18 = .ok (.iastore, 1) := by decide +kernel
theorem dX10_runnerOn_19 : decode cX10_runnerOn 19 = .ok (.aload_n 0, 1) := by decide +kernel
theorem dX10_runnerOn_20 : decode cX10_runnerOn 20 = .ok (.iload_n 2, 1) := by decide +kernel
theorem dX10_runnerOn_21 : decode cX10_runnerOn 21 = .ok (.iconst 2, 1) := by decide +kernel
theorem dX10_runnerOn_22 : decode cX10_runnerOn 22 = .ok (.iadd, 1) := by decide +kernel
theorem dX10_runnerOn_23 : decode cX10_runnerOn 23 = .ok (.iconst 0, 1) := by decide +kernel
theorem dX10_runnerOn_24 : decode cX10_runnerOn 24 = .ok (.iastore, 1) := by decide +kernel
theorem dX10_runnerOn_25 : decode cX10_runnerOn 25 = .ok (.aload_n 0, 1) := by decide +kernel
theorem dX10_runnerOn_26 : decode cX10_runnerOn 26 = .ok (.iconst 2, 1) := by decide +kernel
theorem dX10_runnerOn_27 : decode cX10_runnerOn 27 = .ok (.dup2, 1) := by decide +kernel
theorem dX10_runnerOn_28 : decode cX10_runnerOn 28 = .ok (.iaload, 1) := by decide +kernel
theorem dX10_runnerOn_29 : decode cX10_runnerOn 29 = .ok (.iconst 1, 1) := by decide +kernel
theorem dX10_runnerOn_30 : decode cX10_runnerOn 30 = .ok (.iadd, 1) := by decide +kernel
theorem dX10_runnerOn_31 : decode cX10_runnerOn 31 = .ok (.iastore, 1) := by decide +kernel
theorem dX10_runnerOn_32 : decode cX10_runnerOn 32 = .ok (.aload_n 0, 1) := by decide +kernel
theorem dX10_runnerOn_33 : decode cX10_runnerOn 33 = .ok (.iconst 2, 1) := by decide +kernel
theorem dX10_runnerOn_34 : decode cX10_runnerOn 34 = .ok (.iaload, 1) := by decide +kernel
theorem dX10_runnerOn_35 : decode cX10_runnerOn 35 = .ok (.iconst 1, 1) := by decide +kernel
theorem dX10_runnerOn_36 : decode cX10_runnerOn 36 = .ok (.isub, 1) := by decide +kernel
theorem dX10_runnerOn_37 : decode cX10_runnerOn 37 = .ok (.ireturn, 1) := by decide +kernel
set_option maxRecDepth 100000 in
set_option maxHeartbeats 4000000 in
theorem c_X10_runnerOn (l : Launch) (G : GT) (n : Nat) (h : AH) (a : Nat) (y : Nat → Nat) (hx : Row a y h) (h2 : y 2 < 5) (t : Nat) : Ct l yX10_runnerOn cX10_runnerOn 3 (some .int) 1 0 0 G n h [.ref a, .int (nI t)] (Ri (nI (y 2)) n (fun h' => h' = HR h a (ruOn y t))) := by
  refine Ct_of mX10_runnerOn.1 (Nat.le_of_ble_eq_true rfl) ?_
  intro p e s m args below meth c C hin
  refine V_Le (L' := [(0, .ref a), (1, .int (nI t))]) rfl ?_
  refine V_bipush 2 C dX10_runnerOn_0 rfl bip37 ?_
  refine V_iconst 3 C dX10_runnerOn_2 rfl ic3 ?_
  refine V_aload_n 4 C dX10_runnerOn_3 rfl rfl ?_
  refine V_iconst 5 C dX10_runnerOn_4 rfl ic2 ?_
  refine V_iald (j := 2) 6 C dX10_runnerOn_5 rfl hx rfl (by omega) (by omega) ?_
  refine V_imulN 7 C dX10_runnerOn_6 rfl  ?_
  refine V_iaddN 8 C dX10_runnerOn_7 rfl  ?_
  refine V_istore_n 9 C dX10_runnerOn_8 rfl (by decide) (L' := [(0, _), (1, _), (2, _)]) rfl ?_
  refine V_aload_n 10 C dX10_runnerOn_9 rfl rfl ?_
  refine V_iload_n 11 C dX10_runnerOn_10 rfl rfl ?_
  refine V_iload_n 12 C dX10_runnerOn_11 rfl rfl ?_
  refine V_iast (j := 37 + 3 * y 2) 13 C dX10_runnerOn_12 rfl hx rfl (by omega) (by omega) ?_
  rw [HR_st]
  refine V_aload_n 14 C dX10_runnerOn_13 rfl rfl ?_
  refine V_iload_n 15 C dX10_runnerOn_14 rfl rfl ?_
  refine V_iconst 16 C dX10_runnerOn_15 rfl ic1 ?_
  refine V_iaddN 17 C dX10_runnerOn_16 rfl  ?_
  refine V_iconst 18 C dX10_runnerOn_17 rfl ic0 ?_
  refine V_iast (j := 37 + 3 * y 2 + 1) 19 C dX10_runnerOn_18 rfl (HR_row _ _ _) rfl (by omega) (by omega) ?_
  rw [HR_st, HR_HR]
  refine V_aload_n 20 C dX10_runnerOn_19 rfl rfl ?_
  refine V_iload_n 21 C dX10_runnerOn_20 rfl rfl ?_
  refine V_iconst 22 C dX10_runnerOn_21 rfl ic2 ?_
  refine V_iaddN 23 C dX10_runnerOn_22 rfl  ?_
  refine V_iconst 24 C dX10_runnerOn_23 rfl ic0 ?_
  refine V_iast (j := 37 + 3 * y 2 + 2) 25 C dX10_runnerOn_24 rfl (HR_row _ _ _) rfl (by omega) (by omega) ?_
  rw [HR_st, HR_HR]
  refine V_aload_n 26 C dX10_runnerOn_25 rfl rfl ?_
  refine V_iconst 27 C dX10_runnerOn_26 rfl ic2 ?_
  refine V_dup2 28 C dX10_runnerOn_27 rfl rfl rfl ?_
  refine V_iald (j := 2) 29 C dX10_runnerOn_28 rfl (HR_row _ _ _) rfl (by omega) (by omega) ?_
  refine V_iconst 30 C dX10_runnerOn_29 rfl ic1 ?_
  refine V_iaddN 31 C dX10_runnerOn_30 rfl  ?_
  refine V_iast (j := 2) 32 C dX10_runnerOn_31 rfl (HR_row _ _ _) rfl (by omega) (by omega) ?_
  rw [HR_st, HR_HR]
  refine V_aload_n 33 C dX10_runnerOn_32 rfl rfl ?_
  refine V_iconst 34 C dX10_runnerOn_33 rfl ic2 ?_
  refine V_iald (j := 2) 35 C dX10_runnerOn_34 rfl (HR_row _ _ _) rfl (by omega) (by omega) ?_
  refine V_iconst 36 C dX10_runnerOn_35 rfl ic1 ?_
  refine V_isub 37 C dX10_runnerOn_36 rfl  ?_
  show V _ _ _ _ _ _ _ _ _ _ _ _ _ _ _ _ _ _ _ (.int (nI (ys (y3 y (37 + 3 * y 2) t 0 0) 2 (y3 y (37 + 3 * y 2) t 0 0 2 + 1) 2) - nI 1) :: _)
  rw [ys_s, sub1, y3_n (by omega)]
  refine V_ireturn C dX10_runnerOn_37 rfl rfl (by omega) (by omega) ?_
  exact ⟨rfl, rfl, rfl⟩

theorem dX10_writeOn_0 : decode cX10_writeOn 0 = .ok (.aload_n 0, 1) := by decide +kernel
theorem dX10_writeOn_1 : decode cX10_writeOn 1 = .ok (.iconst 3, 1) := by decide +kernel
theorem dX10_writeOn_2 : decode cX10_writeOn 2 = .ok (.iaload, 1) := by decide +kernel
theorem dX10_writeOn_3 : decode cX10_writeOn 3 = .ok (.istore 4, 2) := by decide +kernel
theorem dX10_writeOn_5 : decode cX10_writeOn 5 = .ok (.aload_n 0, 1) := by decide +kernel
theorem dX10_writeOn_6 : decode cX10_writeOn 6 = .ok (.bipush 52, 2) := by decide +kernel
theorem dX10_writeOn_8 : decode cX10_writeOn 8 = .ok (.iload 4, 2) := by decide +kernel
theorem dX10_writeOn_10 : decode cX10_writeOn 10 = .ok (.iadd, 1) := by decide +kernel
theorem dX10_writeOn_11 : decode cX10_writeOn 11 = .ok (.iload_n 2, 1) := by decide +kernel
theorem dX10_writeOn_12 : decode cX10_writeOn 12 = .ok (.iastore, 1) := by decide +kernel
theorem dX10_writeOn_13 : decode cX10_writeOn 13 = .ok (.aload_n 0, 1) := by decide +kernel
theorem dX10_writeOn_14 : decode cX10_writeOn 14 = .ok (.iconst 3, 1) := by decide +kernel
theorem dX10_writeOn_15 : decode cX10_writeOn 15 = .ok (.dup2, 1) := by decide +kernel
theorem dX10_writeOn_16 : decode cX10_writeOn 16 = .ok (.iaload, 1) := by decide +kernel
theorem dX10_writeOn_17 : decode cX10_writeOn 17 = .ok (.iconst 1, 1) := by decide +kernel
theorem dX10_writeOn_18 : decode cX10_writeOn 18 = .ok (.iadd, 1) := by decide +kernel
theorem dX10_writeOn_19 : decode cX10_writeOn 19 = .ok (.iastore, 1) := by decide +kernel
theorem dX10_writeOn_20 : decode cX10_writeOn 20 = .ok (.aload_n 0, 1) := by decide +kernel
theorem dX10_writeOn_21 : decode cX10_writeOn 21 = .ok (.iload 4, 2) := by decide +kernel
theorem dX10_writeOn_23 : decode cX10_writeOn 23 = .ok (.iload_n 2, 1) := by decide +kernel
theorem dX10_writeOn_24 : decode cX10_writeOn 24 = .ok (.iload_n 3, 1) := by decide +kernel
theorem dX10_writeOn_25 : decode cX10_writeOn 25 = .ok (.iload_n 1, 1) := by decide +kernel
theorem dX10_writeOn_26 : decode cX10_writeOn 26 = .ok (.invokestatic 98, 3) := by decide +kernel
theorem dX10_writeOn_29 : decode cX10_writeOn 29 = .ok (.iload 4, 2) := by decide +kernel
theorem dX10_writeOn_31 : decode cX10_writeOn 31 = .ok (.ireturn, 1) := by decide +kernel
set_option maxRecDepth 100000 in
set_option maxHeartbeats 4000000 in
theorem c_X10_writeOn (l : Launch) (G : GT) (n : Nat) (h : AH) (a : Nat) (y : Nat → Nat) (hx : Row a y h) (h3 : y 3 < 6) (h4 : y 4 < 12) (t dt f : Nat) : Ct l yX10_writeOn cX10_writeOn 5 (some .int) 2 0 0 G n h [.ref a, .int (nI t), .int (nI dt), .int (nI f)] (Ri (nI (y 3)) n (fun h' => h' = HR h a (wrOn y t dt f))) := by
  refine Ct_of mX10_writeOn.1 (Nat.le_of_ble_eq_true rfl) ?_
  intro p e s m args below meth c C hin
  refine V_Le (L' := [(0, .ref a), (1, .int (nI t)), (2, .int (nI dt)), (3, .int (nI f))]) rfl ?_
  refine V_aload_n 1 C dX10_writeOn_0 rfl rfl ?_
  refine V_iconst 2 C dX10_writeOn_1 rfl ic3 ?_
  refine V_iald (j := 3) 3 C dX10_writeOn_2 rfl hx rfl (by omega) (by omega) ?_
  refine V_istore 5 C dX10_writeOn_3 rfl (by decide) (L' := [(0, _), (1, _), (2, _), (3, _), (4, _)]) rfl ?_
  refine V_aload_n 6 C dX10_writeOn_5 rfl rfl ?_
  refine V_bipush 8 C dX10_writeOn_6 rfl bip52 ?_
  refine V_iload 10 C dX10_writeOn_8 rfl rfl ?_
  refine V_iaddN 11 C dX10_writeOn_10 rfl  ?_
  refine V_iload_n 12 C dX10_writeOn_11 rfl rfl ?_
  refine V_iast (j := 52 + y 3) 13 C dX10_writeOn_12 rfl hx rfl (by omega) (by omega) ?_
  rw [HR_st]
  refine V_aload_n 14 C dX10_writeOn_13 rfl rfl ?_
  refine V_iconst 15 C dX10_writeOn_14 rfl ic3 ?_
  refine V_dup2 16 C dX10_writeOn_15 rfl rfl rfl ?_
  refine V_iald (j := 3) 17 C dX10_writeOn_16 rfl (HR_row _ _ _) rfl (by omega) (by omega) ?_
  refine V_iconst 18 C dX10_writeOn_17 rfl ic1 ?_
  refine V_iaddN 19 C dX10_writeOn_18 rfl  ?_
  refine V_iast (j := 3) 20 C dX10_writeOn_19 rfl (HR_row _ _ _) rfl (by omega) (by omega) ?_
  rw [HR_st, HR_HR]
  refine V_aload_n 21 C dX10_writeOn_20 rfl rfl ?_
  refine V_iload 23 C dX10_writeOn_21 rfl rfl ?_
  refine V_iload_n 24 C dX10_writeOn_23 rfl rfl ?_
  refine V_iload_n 25 C dX10_writeOn_24 rfl rfl ?_
  refine V_iload_n 26 C dX10_writeOn_25 rfl rfl ?_
  refine V_callS 29 C dX10_writeOn_26 rfl mX10_sheetOn tw1049 (c_X10_sheetOn l G _ _ a (wrP y dt) (HR_row _ _ _) (by unfold wrP; rw [ys_n _ (by omega), ys_n _ (by omega)]; exact h4) (y 3) dt f t) rfl rfl (by decide) ⟨by omega, by omega⟩ (Nat.le_of_ble_eq_true rfl) ?_
  rintro _ _ _ ⟨rfl, rfl, rfl⟩
  refine V_iload 31 C dX10_writeOn_29 rfl rfl ?_
  refine V_ireturn C dX10_writeOn_31 rfl rfl (by omega) (by omega) ?_
  exact ⟨rfl, rfl, HR_HR _ _ _ _⟩

theorem dX10_takeOn_0 : decode cX10_takeOn 0 = .ok (.aload_n 0, 1) := by decide +kernel
theorem dX10_takeOn_1 : decode cX10_takeOn 1 = .ok (.bipush 58, 2) := by decide +kernel
theorem dX10_takeOn_3 : decode cX10_takeOn 3 = .ok (.bipush 6, 2) := by decide +kernel
theorem dX10_takeOn_5 : decode cX10_takeOn 5 = .ok (.iload_n 2, 1) := by decide +kernel
theorem dX10_takeOn_6 : decode cX10_takeOn 6 = .ok (.imul, 1) := by decide +kernel
theorem dX10_takeOn_7 : decode cX10_takeOn 7 = .ok (.iadd, 1) := by decide +kernel
theorem dX10_takeOn_8 : decode cX10_takeOn 8 = .ok (.iconst 4, 1) := by decide +kernel
theorem dX10_takeOn_9 : decode cX10_takeOn 9 = .ok (.iadd, 1) := by decide +kernel
theorem dX10_takeOn_10 : decode cX10_takeOn 10 = .ok (.iload_n 1, 1) := by decide +kernel
theorem dX10_takeOn_11 : decode cX10_takeOn 11 = .ok (.iastore, 1) := by decide +kernel
theorem dX10_takeOn_12 : decode cX10_takeOn 12 = .ok (.aload_n 0, 1) := by decide +kernel
theorem dX10_takeOn_13 : decode cX10_takeOn 13 = .ok (.iload_n 1, 1) := by decide +kernel
theorem dX10_takeOn_14 : decode cX10_takeOn 14 = .ok (.invokestatic 102, 3) := by decide +kernel
theorem dX10_takeOn_17 : decode cX10_takeOn 17 = .ok (.ireturn, 1) := by decide +kernel
set_option maxRecDepth 100000 in
set_option maxHeartbeats 4000000 in
theorem c_X10_takeOn (l : Launch) (G : GT) (n : Nat) (h : AH) (a : Nat) (y : Nat → Nat) (hx : Row a y h) (hI : Iv y) (r s9 : Nat) (hr : r < y 2) (hs : s9 < y 4) : Ct l yX10_takeOn cX10_takeOn 3 (some .int) 3 0 0 G n h [.ref a, .int (nI r), .int (nI s9)] (Ri (nI (car (tkOn y r s9) r)) n (fun h' => h' = HR h a (tkOn y r s9))) := by
  obtain ⟨⟨i0, i1, i2, i3, i4⟩, iR, iU, iM, iS⟩ := id hI
  refine Ct_of mX10_takeOn.1 (Nat.le_of_ble_eq_true rfl) ?_
  intro p e s m args below meth c C hin
  refine V_Le (L' := [(0, .ref a), (1, .int (nI r)), (2, .int (nI s9))]) rfl ?_
  refine V_aload_n 1 C dX10_takeOn_0 rfl rfl ?_
  refine V_bipush 3 C dX10_takeOn_1 rfl bip58 ?_
  refine V_bipush 5 C dX10_takeOn_3 rfl bip6 ?_
  refine V_iload_n 6 C dX10_takeOn_5 rfl rfl ?_
  refine V_imulN 7 C dX10_takeOn_6 rfl  ?_
  refine V_iaddN 8 C dX10_takeOn_7 rfl  ?_
  refine V_iconst 9 C dX10_takeOn_8 rfl ic4 ?_
  refine V_iaddN 10 C dX10_takeOn_9 rfl  ?_
  refine V_iload_n 11 C dX10_takeOn_10 rfl rfl ?_
  refine V_iast (j := 58 + 6 * s9 + 4) 12 C dX10_takeOn_11 rfl hx rfl (by omega) (by omega) ?_
  rw [HR_st]
  refine V_aload_n 13 C dX10_takeOn_12 rfl rfl ?_
  refine V_iload_n 14 C dX10_takeOn_13 rfl rfl ?_
  refine V_callS 17 C dX10_takeOn_14 rfl mX10_carried tw1085 (c_X10_carried l G _ _ a (tkOn y r s9) (HR_row _ _ _) (by unfold tkOn; rw [ys_n _ (by omega)]; exact i4) (fun i hi => by unfold tkOn at hi ⊢; rw [ys_n _ (by omega)] at hi; obtain ⟨-, -, -, -, z, -⟩ := iS i hi; unfold NO at z; unfold ys; split <;> omega) r (by omega)) rfl rfl (by decide) ⟨by omega, by omega⟩ (Nat.le_of_ble_eq_true rfl) ?_
  rintro _ _ _ ⟨rfl, rfl, rfl⟩
  refine V_ireturn C dX10_takeOn_17 rfl rfl (by omega) (by omega) ?_
  exact ⟨rfl, rfl, rfl⟩

theorem dX10_layOn_0 : decode cX10_layOn 0 = .ok (.aload_n 0, 1) := by decide +kernel
theorem dX10_layOn_1 : decode cX10_layOn 1 = .ok (.iload_n 1, 1) := by decide +kernel
theorem dX10_layOn_2 : decode cX10_layOn 2 = .ok (.invokestatic 82, 3) := by decide +kernel
theorem dX10_layOn_5 : decode cX10_layOn 5 = .ok (.istore_n 2, 1) := by decide +kernel
theorem dX10_layOn_6 : decode cX10_layOn 6 = .ok (.aload_n 0, 1) := by decide +kernel
theorem dX10_layOn_7 : decode cX10_layOn 7 = .ok (.bipush 58, 2) := by decide +kernel
theorem dX10_layOn_9 : decode cX10_layOn 9 = .ok (.bipush 6, 2) := by decide +kernel
theorem dX10_layOn_11 : decode cX10_layOn 11 = .ok (.iload_n 1, 1) := by decide +kernel
theorem dX10_layOn_12 : decode cX10_layOn 12 = .ok (.imul, 1) := by decide +kernel
theorem dX10_layOn_13 : decode cX10_layOn 13 = .ok (.iadd, 1) := by decide +kernel
theorem dX10_layOn_14 : decode cX10_layOn 14 = .ok (.iconst 4, 1) := by decide +kernel
theorem dX10_layOn_15 : decode cX10_layOn 15 = .ok (.iadd, 1) := by decide +kernel
theorem dX10_layOn_16 : decode cX10_layOn 16 = .ok (.iconst (-1), 1) := by decide +kernel
theorem dX10_layOn_17 : decode cX10_layOn 17 = .ok (.iastore, 1) := by decide +kernel
theorem dX10_layOn_18 : decode cX10_layOn 18 = .ok (.aload_n 0, 1) := by decide +kernel
theorem dX10_layOn_19 : decode cX10_layOn 19 = .ok (.bipush 58, 2) := by decide +kernel
theorem dX10_layOn_21 : decode cX10_layOn 21 = .ok (.bipush 6, 2) := by decide +kernel
theorem dX10_layOn_23 : decode cX10_layOn 23 = .ok (.iload_n 1, 1) := by decide +kernel
theorem dX10_layOn_24 : decode cX10_layOn 24 = .ok (.imul, 1) := by decide +kernel
theorem dX10_layOn_25 : decode cX10_layOn 25 = .ok (.iadd, 1) := by decide +kernel
theorem dX10_layOn_26 : decode cX10_layOn 26 = .ok (.iconst 5, 1) := by decide +kernel
theorem dX10_layOn_27 : decode cX10_layOn 27 = .ok (.iadd, 1) := by decide +kernel
theorem dX10_layOn_28 : decode cX10_layOn 28 = .ok (.iload_n 2, 1) := by decide +kernel
theorem dX10_layOn_29 : decode cX10_layOn 29 = .ok (.iastore, 1) := by decide +kernel
theorem dX10_layOn_30 : decode cX10_layOn 30 = .ok (.iload_n 2, 1) := by decide +kernel
theorem dX10_layOn_31 : decode cX10_layOn 31 = .ok (.ireturn, 1) := by decide +kernel
set_option maxRecDepth 100000 in
set_option maxHeartbeats 4000000 in
theorem c_X10_layOn (l : Launch) (G : GT) (n : Nat) (h : AH) (a : Nat) (y : Nat → Nat) (hx : Row a y h) (hI : Iv y) (s9 : Nat) (hs : s9 < y 4) : Ct l yX10_layOn cX10_layOn 3 (some .int) 4 0 0 G n h [.ref a, .int (nI s9)] (Ri (nI (pof y s9)) n (fun h' => h' = HR h a (lyOn y s9))) := by
  obtain ⟨⟨i0, i1, i2, i3, i4⟩, iR, iU, iM, iS⟩ := id hI
  refine Ct_of mX10_layOn.1 (Nat.le_of_ble_eq_true rfl) ?_
  intro p e s m args below meth c C hin
  refine V_Le (L' := [(0, .ref a), (1, .int (nI s9))]) rfl ?_
  refine V_aload_n 1 C dX10_layOn_0 rfl rfl ?_
  refine V_iload_n 2 C dX10_layOn_1 rfl rfl ?_
  refine V_callS 5 C dX10_layOn_2 rfl mX10_placeOf tw1079 (c_X10_placeOf l G _ _ a y hx hI s9 hs) rfl rfl (by decide) ⟨by omega, by omega⟩ (Nat.le_of_ble_eq_true rfl) ?_
  rintro _ _ _ ⟨rfl, rfl, rfl⟩
  refine V_istore_n 6 C dX10_layOn_5 rfl (by decide) (L' := [(0, _), (1, _), (2, _)]) rfl ?_
  refine V_aload_n 7 C dX10_layOn_6 rfl rfl ?_
  refine V_bipush 9 C dX10_layOn_7 rfl bip58 ?_
  refine V_bipush 11 C dX10_layOn_9 rfl bip6 ?_
  refine V_iload_n 12 C dX10_layOn_11 rfl rfl ?_
  refine V_imulN 13 C dX10_layOn_12 rfl  ?_
  refine V_iaddN 14 C dX10_layOn_13 rfl  ?_
  refine V_iconst 15 C dX10_layOn_14 rfl ic4 ?_
  refine V_iaddN 16 C dX10_layOn_15 rfl  ?_
  refine V_iconst 17 C dX10_layOn_16 rfl icm1 ?_
  refine V_iast (j := 58 + 6 * s9 + 4) 18 C dX10_layOn_17 rfl hx rfl (by omega) (by omega) ?_
  rw [HR_st]
  refine V_aload_n 19 C dX10_layOn_18 rfl rfl ?_
  refine V_bipush 21 C dX10_layOn_19 rfl bip58 ?_
  refine V_bipush 23 C dX10_layOn_21 rfl bip6 ?_
  refine V_iload_n 24 C dX10_layOn_23 rfl rfl ?_
  refine V_imulN 25 C dX10_layOn_24 rfl  ?_
  refine V_iaddN 26 C dX10_layOn_25 rfl  ?_
  refine V_iconst 27 C dX10_layOn_26 rfl ic5 ?_
  refine V_iaddN 28 C dX10_layOn_27 rfl  ?_
  refine V_iload_n 29 C dX10_layOn_28 rfl rfl ?_
  refine V_iast (j := 58 + 6 * s9 + 5) 30 C dX10_layOn_29 rfl (HR_row _ _ _) rfl (by omega) (by omega) ?_
  rw [HR_st, HR_HR]
  refine V_iload_n 31 C dX10_layOn_30 rfl rfl ?_
  refine V_ireturn C dX10_layOn_31 rfl rfl (by omega) (by omega) ?_
  exact ⟨rfl, rfl, rfl⟩

theorem dX10_goOn_0 : decode cX10_goOn 0 = .ok (.aload_n 0, 1) := by decide +kernel
theorem dX10_goOn_1 : decode cX10_goOn 1 = .ok (.iload_n 2, 1) := by decide +kernel
theorem dX10_goOn_2 : decode cX10_goOn 2 = .ok (.iconst 0, 1) := by decide +kernel
theorem dX10_goOn_3 : decode cX10_goOn 3 = .ok (.invokestatic 75, 3) := by decide +kernel
theorem dX10_goOn_6 : decode cX10_goOn 6 = .ok (.aload_n 0, 1) := by decide +kernel
theorem dX10_goOn_7 : decode cX10_goOn 7 = .ok (.iload_n 1, 1) := by decide +kernel
theorem dX10_goOn_8 : decode cX10_goOn 8 = .ok (.invokestatic 51, 3) := by decide +kernel
theorem dX10_goOn_11 : decode cX10_goOn 11 = .ok (.if_icmp .ne 12, 3) := by decide +kernel
theorem dX10_goOn_14 : decode cX10_goOn 14 = .ok (.aload_n 0, 1) := by decide +kernel
theorem dX10_goOn_15 : decode cX10_goOn 15 = .ok (.iload_n 2, 1) := by decide +kernel
theorem dX10_goOn_16 : decode cX10_goOn 16 = .ok (.iconst 1, 1) := by decide +kernel
theorem dX10_goOn_17 : decode cX10_goOn 17 = .ok (.invokestatic 75, 3) := by decide +kernel
theorem dX10_goOn_20 : decode cX10_goOn 20 = .ok (.goto 9, 3) := by decide +kernel
theorem dX10_goOn_23 : decode cX10_goOn 23 = .ok (.aload_n 0, 1) := by decide +kernel
theorem dX10_goOn_24 : decode cX10_goOn 24 = .ok (.iload_n 2, 1) := by decide +kernel
theorem dX10_goOn_25 : decode cX10_goOn 25 = .ok (.iconst 0, 1) := by decide +kernel
theorem dX10_goOn_26 : decode cX10_goOn 26 = .ok (.invokestatic 75, 3) := by decide +kernel
theorem dX10_goOn_29 : decode cX10_goOn 29 = .ok (.istore_n 3, 1) := by decide +kernel
theorem dX10_goOn_30 : decode cX10_goOn 30 = .ok (.aload_n 0, 1) := by decide +kernel
theorem dX10_goOn_31 : decode cX10_goOn 31 = .ok (.bipush 37, 2) := by decide +kernel
theorem dX10_goOn_33 : decode cX10_goOn 33 = .ok (.iconst 3, 1) := by decide +kernel
theorem dX10_goOn_34 : decode cX10_goOn 34 = .ok (.iload_n 1, 1) := by decide +kernel
theorem dX10_goOn_35 : decode cX10_goOn 35 = .ok (.imul, 1) := by decide +kernel
theorem dX10_goOn_36 : decode cX10_goOn 36 = .ok (.iadd, 1) := by decide +kernel
theorem dX10_goOn_37 : decode cX10_goOn 37 = .ok (.iload_n 3, 1) := by decide +kernel
theorem dX10_goOn_38 : decode cX10_goOn 38 = .ok (.iastore, 1) := by decide +kernel
theorem dX10_goOn_39 : decode cX10_goOn 39 = .ok (.aload_n 0, 1) := by decide +kernel
theorem dX10_goOn_40 : decode cX10_goOn 40 = .ok (.bipush 37, 2) := by decide +kernel
theorem dX10_goOn_42 : decode cX10_goOn 42 = .ok (.iconst 3, 1) := by decide +kernel
theorem dX10_goOn_43 : decode cX10_goOn 43 = .ok (.iload_n 1, 1) := by decide +kernel
theorem dX10_goOn_44 : decode cX10_goOn 44 = .ok (.imul, 1) := by decide +kernel
theorem dX10_goOn_45 : decode cX10_goOn 45 = .ok (.iadd, 1) := by decide +kernel
theorem dX10_goOn_46 : decode cX10_goOn 46 = .ok (.iconst 1, 1) := by decide +kernel
theorem dX10_goOn_47 : decode cX10_goOn 47 = .ok (.iadd, 1) := by decide +kernel
theorem dX10_goOn_48 : decode cX10_goOn 48 = .ok (.aload_n 0, 1) := by decide +kernel
theorem dX10_goOn_49 : decode cX10_goOn 49 = .ok (.iload_n 2, 1) := by decide +kernel
theorem dX10_goOn_50 : decode cX10_goOn 50 = .ok (.iconst 2, 1) := by decide +kernel
theorem dX10_goOn_51 : decode cX10_goOn 51 = .ok (.invokestatic 75, 3) := by decide +kernel
theorem dX10_goOn_54 : decode cX10_goOn 54 = .ok (.iastore, 1) := by decide +kernel
theorem dX10_goOn_55 : decode cX10_goOn 55 = .ok (.iload_n 3, 1) := by decide +kernel
theorem dX10_goOn_56 : decode cX10_goOn 56 = .ok (.ireturn, 1) := by decide +kernel
set_option maxRecDepth 100000 in
set_option maxHeartbeats 4000000 in
theorem c_X10_goOn (l : Launch) (G : GT) (n : Nat) (h : AH) (a : Nat) (y : Nat → Nat) (hx : Row a y h) (hI : Iv y) (r w : Nat) (hr : r < y 2) (hw : w < y 1) : Ct l yX10_goOn cX10_goOn 4 (some .int) 3 0 0 G n h [.ref a, .int (nI r), .int (nI w)] (Ri (nI (goT y r w)) n (fun h' => h' = HR h a (gOn y r w))) := by
  obtain ⟨⟨i0, i1, i2, i3, i4⟩, iR, iU, iM, iS⟩ := id hI
  obtain ⟨r0, r1, r2, r3, r4⟩ := iR w hw
  have hto := tof_b hI hr
  unfold NO at hto
  refine Ct_of mX10_goOn.1 (Nat.le_of_ble_eq_true rfl) ?_
  intro p e s m args below meth c C hin
  refine V_Le (L' := [(0, .ref a), (1, .int (nI r)), (2, .int (nI w))]) rfl ?_
  have J29 : ∀ (k : Nat) (hk : k = goT y r w), V p l e (rmD 3 0 0) s m args below meth c (MQ below (Po G (Ri (nI (goT y r w)) n (fun h' => h' = HR h a (gOn y r w)))) args s 0 0 (rg G)) G 4 0 0 n h 29 [(0, .ref a), (1, .int (nI r)), (2, .int (nI w))] [.int (nI k)] := by
    intro k hk
    subst hk
    refine V_istore_n 30 C dX10_goOn_29 rfl (by decide) (L' := [(0, _), (1, _), (2, _), (3, _)]) rfl ?_
    refine V_aload_n 31 C dX10_goOn_30 rfl rfl ?_
    refine V_bipush 33 C dX10_goOn_31 rfl bip37 ?_
    refine V_iconst 34 C dX10_goOn_33 rfl ic3 ?_
    refine V_iload_n 35 C dX10_goOn_34 rfl rfl ?_
    refine V_imulN 36 C dX10_goOn_35 rfl  ?_
    refine V_iaddN 37 C dX10_goOn_36 rfl  ?_
    refine V_iload_n 38 C dX10_goOn_37 rfl rfl ?_
    refine V_iast (j := 37 + 3 * r) 39 C dX10_goOn_38 rfl hx rfl (by omega) (by omega) ?_
    rw [HR_st]
    refine V_aload_n 40 C dX10_goOn_39 rfl rfl ?_
    refine V_bipush 42 C dX10_goOn_40 rfl bip37 ?_
    refine V_iconst 43 C dX10_goOn_42 rfl ic3 ?_
    refine V_iload_n 44 C dX10_goOn_43 rfl rfl ?_
    refine V_imulN 45 C dX10_goOn_44 rfl  ?_
    refine V_iaddN 46 C dX10_goOn_45 rfl  ?_
    refine V_iconst 47 C dX10_goOn_46 rfl ic1 ?_
    refine V_iaddN 48 C dX10_goOn_47 rfl  ?_
    refine V_aload_n 49 C dX10_goOn_48 rfl rfl ?_
    refine V_iload_n 50 C dX10_goOn_49 rfl rfl ?_
    refine V_iconst 51 C dX10_goOn_50 rfl ic2 ?_
    refine V_callS 54 C dX10_goOn_51 rfl mX10_ofRoad tw1107 (c_X10_ofRoad l G _ _ a (ys y (37 + 3 * r) (goT y r w)) (HR_row _ _ _) w 2 (7 + 3 * w + 2) rfl (by omega) (by omega) (by omega)) rfl rfl (by decide) ⟨by omega, by omega⟩ (Nat.le_of_ble_eq_true rfl) ?_
    rintro _ _ _ ⟨rfl, rfl, rfl⟩
    rw [ys_n _ (show ¬ 7 + 3 * w + 2 = 37 + 3 * r by omega)]
    refine V_iast (j := 37 + 3 * r + 1) 55 C dX10_goOn_54 rfl (HR_row _ _ _) rfl (by omega) (by omega) ?_
    rw [HR_st, HR_HR]
    refine V_iload_n 56 C dX10_goOn_55 rfl rfl ?_
    refine V_ireturn C dX10_goOn_56 rfl rfl (by omega) (by omega) ?_
    exact ⟨rfl, rfl, rfl⟩
  refine V_aload_n 1 C dX10_goOn_0 rfl rfl ?_
  refine V_iload_n 2 C dX10_goOn_1 rfl rfl ?_
  refine V_iconst 3 C dX10_goOn_2 rfl ic0 ?_
  refine V_callS 6 C dX10_goOn_3 rfl mX10_ofRoad tw1107 (c_X10_ofRoad l G _ _ a y hx w 0 (7 + 3 * w) rfl (by omega) (by omega) (by omega)) rfl rfl (by decide) ⟨by omega, by omega⟩ (Nat.le_of_ble_eq_true rfl) ?_
  rintro _ _ _ ⟨rfl, rfl, rfl⟩
  refine V_aload_n 7 C dX10_goOn_6 rfl rfl ?_
  refine V_iload_n 8 C dX10_goOn_7 rfl rfl ?_
  refine V_callS 11 C dX10_goOn_8 rfl mX10_townOf tw1073 (c_X10_townOf l G _ _ a y hx hI r hr) rfl rfl (by decide) ⟨by omega, by omega⟩ (Nat.le_of_ble_eq_true rfl) ?_
  rintro _ _ _ ⟨rfl, rfl, rfl⟩
  refine V_icmp_neN 23 14 C dX10_goOn_11 (by decide) rfl (by omega) (by omega) (fun c11 => ?_) (fun c11 => ?_)
  · have hz : y (7 + 3 * w) = goT y r w := by unfold goT; rw [if_neg c11]
    refine V_aload_n 24 C dX10_goOn_23 rfl rfl ?_
    refine V_iload_n 25 C dX10_goOn_24 rfl rfl ?_
    refine V_iconst 26 C dX10_goOn_25 rfl ic0 ?_
    refine V_callS 29 C dX10_goOn_26 rfl mX10_ofRoad tw1107 (c_X10_ofRoad l G _ _ a y hx w 0 (7 + 3 * w) rfl (by omega) (by omega) (by omega)) rfl rfl (by decide) ⟨by omega, by omega⟩ (Nat.le_of_ble_eq_true rfl) ?_
    rintro _ _ _ ⟨rfl, rfl, rfl⟩
    refine V_L [0, 1, 2] rfl ?_
    exact J29 _ hz
  · have hz : y (7 + 3 * w + 1) = goT y r w := by unfold goT; rw [if_pos c11]
    refine V_aload_n 15 C dX10_goOn_14 rfl rfl ?_
    refine V_iload_n 16 C dX10_goOn_15 rfl rfl ?_
    refine V_iconst 17 C dX10_goOn_16 rfl ic1 ?_
    refine V_callS 20 C dX10_goOn_17 rfl mX10_ofRoad tw1107 (c_X10_ofRoad l G _ _ a y hx w 1 (7 + 3 * w + 1) rfl (by omega) (by omega) (by omega)) rfl rfl (by decide) ⟨by omega, by omega⟩ (Nat.le_of_ble_eq_true rfl) ?_
    rintro _ _ _ ⟨rfl, rfl, rfl⟩
    refine V_goto 29 C dX10_goOn_20 (by decide) ?_
    refine V_L [0, 1, 2] rfl ?_
    exact J29 _ hz

theorem dX10_copyOn_0 : decode cX10_copyOn 0 = .ok (.aload_n 0, 1) := by decide +kernel
theorem dX10_copyOn_1 : decode cX10_copyOn 1 = .ok (.iload_n 1, 1) := by decide +kernel
theorem dX10_copyOn_2 : decode cX10_copyOn 2 = .ok (.invokestatic 105, 3) := by decide +kernel
theorem dX10_copyOn_5 : decode cX10_copyOn 5 = .ok (.istore_n 3, 1) := by decide +kernel
theorem dX10_copyOn_6 : decode cX10_copyOn 6 = .ok (.iload_n 3, 1) := by decide +kernel
theorem dX10_copyOn_7 : decode cX10_copyOn 7 = .ok (.ifCond .ne 27, 3) := by decide +kernel
theorem dX10_copyOn_10 : decode cX10_copyOn 10 = .ok (.aload_n 0, 1) := by decide +kernel
theorem dX10_copyOn_11 : decode cX10_copyOn 11 = .ok (.aload_n 0, 1) := by decide +kernel
theorem dX10_copyOn_12 : decode cX10_copyOn 12 = .ok (.iload_n 1, 1) := by decide +kernel
theorem dX10_copyOn_13 : decode cX10_copyOn 13 = .ok (.iconst 0, 1) := by decide +kernel
theorem dX10_copyOn_14 : decode cX10_copyOn 14 = .ok (.invokestatic 48, 3) := by decide +kernel
theorem dX10_copyOn_17 : decode cX10_copyOn 17 = .ok (.aload_n 0, 1) := by decide +kernel
theorem dX10_copyOn_18 : decode cX10_copyOn 18 = .ok (.iload_n 1, 1) := by decide +kernel
theorem dX10_copyOn_19 : decode cX10_copyOn 19 = .ok (.invokestatic 89, 3) := by decide +kernel
theorem dX10_copyOn_22 : decode cX10_copyOn 22 = .ok (.iload_n 2, 1) := by decide +kernel
theorem dX10_copyOn_23 : decode cX10_copyOn 23 = .ok (.aload_n 0, 1) := by decide +kernel
theorem dX10_copyOn_24 : decode cX10_copyOn 24 = .ok (.iload_n 1, 1) := by decide +kernel
theorem dX10_copyOn_25 : decode cX10_copyOn 25 = .ok (.invokestatic 82, 3) := by decide +kernel
theorem dX10_copyOn_28 : decode cX10_copyOn 28 = .ok (.invokestatic 98, 3) := by decide +kernel
theorem dX10_copyOn_31 : decode cX10_copyOn 31 = .ok (.goto 11, 3) := by decide +kernel
theorem dX10_copyOn_34 : decode cX10_copyOn 34 = .ok (.aload_n 0, 1) := by decide +kernel
theorem dX10_copyOn_35 : decode cX10_copyOn 35 = .ok (.bipush 6, 2) := by decide +kernel
theorem dX10_copyOn_37 : decode cX10_copyOn 37 = .ok (.dup2, 1) := by decide +kernel
theorem dX10_copyOn_38 : decode cX10_copyOn 38 = .ok (.iaload, 1) := by decide +kernel
theorem dX10_copyOn_39 : decode cX10_copyOn 39 = .ok (.iconst 1, 1) := by decide +kernel
theorem dX10_copyOn_40 : decode cX10_copyOn 40 = .ok (.iadd, 1) := by decide +kernel
theorem dX10_copyOn_41 : decode cX10_copyOn 41 = .ok (.iastore, 1) := by decide +kernel
theorem dX10_copyOn_42 : decode cX10_copyOn 42 = .ok (.iload_n 3, 1) := by decide +kernel
theorem dX10_copyOn_43 : decode cX10_copyOn 43 = .ok (.ireturn, 1) := by decide +kernel
set_option maxRecDepth 100000 in
set_option maxHeartbeats 4000000 in
theorem c_X10_copyOn (l : Launch) (G : GT) (n : Nat) (h : AH) (a : Nat) (y : Nat → Nat) (hx : Row a y h) (hI : Iv y) (s9 f : Nat) (hs : s9 < y 4) : Ct l yX10_copyOn cX10_copyOn 4 (some .int) 6 0 0 G n h [.ref a, .int (nI s9), .int (nI f)] (Ri (nI (crs y s9)) n (fun h' => h' = HR h a (cpOn y s9 f))) := by
  obtain ⟨⟨i0, i1, i2, i3, i4⟩, iR, iU, iM, iS⟩ := id hI
  have hc4 := crs_le y s9
  have hc5 : crs y s9 = 0 → y 4 < 12 := fun z => by have := (crs_0 z).2.2; omega
  refine Ct_of mX10_copyOn.1 (Nat.le_of_ble_eq_true rfl) ?_
  intro p e s m args below meth c C hin
  refine V_Le (L' := [(0, .ref a), (1, .int (nI s9)), (2, .int (nI f))]) rfl ?_
  refine V_aload_n 1 C dX10_copyOn_0 rfl rfl ?_
  refine V_iload_n 2 C dX10_copyOn_1 rfl rfl ?_
  refine V_callS 5 C dX10_copyOn_2 rfl mX10_copyReason tw1117 (c_X10_copyReason l G _ _ a y hx hI s9 hs) rfl rfl (by decide) ⟨by omega, by omega⟩ (Nat.le_of_ble_eq_true rfl) ?_
  rintro _ _ _ ⟨rfl, rfl, rfl⟩
  refine V_istore_n 6 C dX10_copyOn_5 rfl (by decide) (L' := [(0, _), (1, _), (2, _), (3, _)]) rfl ?_
  refine V_iload_n 7 C dX10_copyOn_6 rfl rfl ?_
  refine V_if_neN 34 10 C dX10_copyOn_7 (by decide) rfl (by omega) (fun c7 => ?_) (fun c7 => ?_)
  · refine V_aload_n 35 C dX10_copyOn_34 rfl rfl ?_
    refine V_bipush 37 C dX10_copyOn_35 rfl bip6 ?_
    refine V_dup2 38 C dX10_copyOn_37 rfl rfl rfl ?_
    refine V_iald (j := 6) 39 C dX10_copyOn_38 rfl hx rfl (by omega) (by omega) ?_
    refine V_iconst 40 C dX10_copyOn_39 rfl ic1 ?_
    refine V_iaddN 41 C dX10_copyOn_40 rfl  ?_
    refine V_iast (j := 6) 42 C dX10_copyOn_41 rfl hx rfl (by omega) (by omega) ?_
    rw [HR_st]
    refine V_iload_n 43 C dX10_copyOn_42 rfl rfl ?_
    refine V_ireturn C dX10_copyOn_43 rfl rfl (by omega) (by omega) ?_
    exact ⟨rfl, rfl, by unfold cpOn; first | rw [if_pos c7] | (rw [if_neg c7]; rfl)⟩
  · refine V_aload_n 11 C dX10_copyOn_10 rfl rfl ?_
    refine V_aload_n 12 C dX10_copyOn_11 rfl rfl ?_
    refine V_iload_n 13 C dX10_copyOn_12 rfl rfl ?_
    refine V_iconst 14 C dX10_copyOn_13 rfl ic0 ?_
    refine V_callS 17 C dX10_copyOn_14 rfl mX10_ofSheet tw1082 (c_X10_ofSheet l G _ _ a y hx s9 0 (58 + 6 * s9) rfl (by omega) (by omega) (by omega)) rfl rfl (by decide) ⟨by omega, by omega⟩ (Nat.le_of_ble_eq_true rfl) ?_
    rintro _ _ _ ⟨rfl, rfl, rfl⟩
    refine V_aload_n 18 C dX10_copyOn_17 rfl rfl ?_
    refine V_iload_n 19 C dX10_copyOn_18 rfl rfl ?_
    refine V_callS 22 C dX10_copyOn_19 rfl mX10_readOf tw1126 (c_X10_readOf l G _ _ a y hx hI s9 hs) rfl rfl (by decide) ⟨by omega, by omega⟩ (Nat.le_of_ble_eq_true rfl) ?_
    rintro _ _ _ ⟨rfl, rfl, rfl⟩
    refine V_iload_n 23 C dX10_copyOn_22 rfl rfl ?_
    refine V_aload_n 24 C dX10_copyOn_23 rfl rfl ?_
    refine V_iload_n 25 C dX10_copyOn_24 rfl rfl ?_
    refine V_callS 28 C dX10_copyOn_25 rfl mX10_placeOf tw1079 (c_X10_placeOf l G _ _ a y hx hI s9 hs) rfl rfl (by decide) ⟨by omega, by omega⟩ (Nat.le_of_ble_eq_true rfl) ?_
    rintro _ _ _ ⟨rfl, rfl, rfl⟩
    refine V_callS 31 C dX10_copyOn_28 rfl mX10_sheetOn tw1049 (c_X10_sheetOn l G _ _ a y hx (hc5 c7) _ _ _ _) rfl rfl (by decide) ⟨by omega, by omega⟩ (Nat.le_of_ble_eq_true rfl) ?_
    rintro _ _ _ ⟨rfl, rfl, rfl⟩
    refine V_goto 42 C dX10_copyOn_31 (by decide) ?_
    refine V_iload_n 43 C dX10_copyOn_42 rfl rfl ?_
    refine V_ireturn C dX10_copyOn_43 rfl rfl (by omega) (by omega) ?_
    exact ⟨rfl, rfl, by unfold cpOn; first | rw [if_pos c7] | (rw [if_neg c7]; rfl)⟩

theorem dX10_voted_0 : decode cX10_voted 0 = .ok (.iconst 0, 1) := by decide +kernel
theorem dX10_voted_1 : decode cX10_voted 1 = .ok (.istore 4, 2) := by decide +kernel
theorem dX10_voted_3 : decode cX10_voted 3 = .ok (.iconst 0, 1) := by decide +kernel
theorem dX10_voted_4 : decode cX10_voted 4 = .ok (.istore 5, 2) := by decide +kernel
theorem dX10_voted_6 : decode cX10_voted 6 = .ok (.iload 5, 2) := by decide +kernel
theorem dX10_voted_8 : decode cX10_voted 8 = .ok (.bipush 6, 2) := by decide +kernel
theorem dX10_voted_10 : decode cX10_voted 10 = .ok (.if_icmp .ge 67, 3) := by decide +kernel
theorem dX10_voted_13 : decode cX10_voted 13 = .ok (.aload_n 0, 1) := by decide +kernel
theorem dX10_voted_14 : decode cX10_voted 14 = .ok (.iload_n 1, 1) := by decide +kernel
theorem dX10_voted_15 : decode cX10_voted 15 = .ok (.invokestatic 89, 3) := by decide +kernel
theorem dX10_voted_18 : decode cX10_voted 18 = .ok (.iload 5, 2) := by decide +kernel
theorem dX10_voted_20 : decode cX10_voted 20 = .ok (.invokestatic 59, 3) := by decide +kernel
theorem dX10_voted_23 : decode cX10_voted 23 = .ok (.istore 6, 2) := by decide +kernel
theorem dX10_voted_25 : decode cX10_voted 25 = .ok (.aload_n 0, 1) := by decide +kernel
theorem dX10_voted_26 : decode cX10_voted 26 = .ok (.iload_n 2, 1) := by decide +kernel
theorem dX10_voted_27 : decode cX10_voted 27 = .ok (.invokestatic 89, 3) := by decide +kernel
theorem dX10_voted_30 : decode cX10_voted 30 = .ok (.iload 5, 2) := by decide +kernel
theorem dX10_voted_32 : decode cX10_voted 32 = .ok (.invokestatic 59, 3) := by decide +kernel
theorem dX10_voted_35 : decode cX10_voted 35 = .ok (.istore 7, 2) := by decide +kernel
theorem dX10_voted_37 : decode cX10_voted 37 = .ok (.aload_n 0, 1) := by decide +kernel
theorem dX10_voted_38 : decode cX10_voted 38 = .ok (.iload_n 3, 1) := by decide +kernel
theorem dX10_voted_39 : decode cX10_voted 39 = .ok (.invokestatic 89, 3) := by decide +kernel
theorem dX10_voted_42 : decode cX10_voted 42 = .ok (.iload 5, 2) := by decide +kernel
theorem dX10_voted_44 : decode cX10_voted 44 = .ok (.invokestatic 59, 3) := by decide +kernel
theorem dX10_voted_47 : decode cX10_voted 47 = .ok (.istore 8, 2) := by decide +kernel
theorem dX10_voted_49 : decode cX10_voted 49 = .ok (.bipush 10, 2) := by decide +kernel
theorem dX10_voted_51 : decode cX10_voted 51 = .ok (.iload 4, 2) := by decide +kernel
theorem dX10_voted_53 : decode cX10_voted 53 = .ok (.imul, 1) := by decide +kernel
theorem dX10_voted_54 : decode cX10_voted 54 = .ok (.iload 7, 2) := by decide +kernel
theorem dX10_voted_56 : decode cX10_voted 56 = .ok (.iload 8, 2) := by decide +kernel
theorem dX10_voted_58 : decode cX10_voted 58 = .ok (.if_icmp .ne 8, 3) := by decide +kernel
theorem dX10_voted_61 : decode cX10_voted 61 = .ok (.iload 7, 2) := by decide +kernel
theorem dX10_voted_63 : decode cX10_voted 63 = .ok (.goto 5, 3) := by decide +kernel
theorem dX10_voted_66 : decode cX10_voted 66 = .ok (.iload 6, 2) := by decide +kernel
theorem dX10_voted_68 : decode cX10_voted 68 = .ok (.iadd, 1) := by decide +kernel
theorem dX10_voted_69 : decode cX10_voted 69 = .ok (.istore 4, 2) := by decide +kernel
theorem dX10_voted_71 : decode cX10_voted 71 = .ok (.iinc 5 1, 3) := by decide +kernel
theorem dX10_voted_74 : decode cX10_voted 74 = .ok (.goto (-68), 3) := by decide +kernel
theorem dX10_voted_77 : decode cX10_voted 77 = .ok (.iload 4, 2) := by decide +kernel
theorem dX10_voted_79 : decode cX10_voted 79 = .ok (.ireturn, 1) := by decide +kernel
set_option maxRecDepth 100000 in
set_option maxHeartbeats 4000000 in
theorem c_X10_voted (l : Launch) (G : GT) (n : Nat) (h : AH) (a : Nat) (y : Nat → Nat) (hx : Row a y h) (hI : Iv y) (u v w : Nat) (hu : u < y 4) (hv : v < y 4) (hw : w < y 4) (nu : ¬ y (58 + 6 * u + 2) = 0) (nv : ¬ y (58 + 6 * v + 2) = 0) (nw : ¬ y (58 + 6 * w + 2) = 0) : Ct l yX10_voted cX10_voted 9 (some .int) 6 0 0 G n h [.ref a, .int (nI u), .int (nI v), .int (nI w)] (Rt (nI (mj (rof y u) (rof y v) (rof y w))) n h) := by
  obtain ⟨⟨i0, i1, i2, i3, i4⟩, iR, iU, iM, iS⟩ := id hI
  have ru : rof y u < 1000000 := rdw_lt (iS u hu).2.1 nu
  have rv : rof y v < 1000000 := rdw_lt (iS v hv).2.1 nv
  have rw9 : rof y w < 1000000 := rdw_lt (iS w hw).2.1 nw
  refine Ct_of mX10_voted.1 (Nat.le_of_ble_eq_true rfl) ?_
  intro p e s m args below meth c C hin
  refine V_Le (L' := [(0, .ref a), (1, .int (nI u)), (2, .int (nI v)), (3, .int (nI w))]) rfl ?_
  refine V_iconst 1 C dX10_voted_0 rfl ic0 ?_
  refine V_istore 3 C dX10_voted_1 rfl (by decide) (L' := [(0, _), (1, _), (2, _), (3, _), (4, _)]) rfl ?_
  refine V_iconst 4 C dX10_voted_3 rfl ic0 ?_
  refine V_istore 6 C dX10_voted_4 rfl (by decide) (L' := [(0, _), (1, _), (2, _), (3, _), (4, _), (5, _)]) rfl ?_
  have J6 : ∀ (fuel : Nat) (i q : Nat) (hi : i ≤ 6) (hq : q = mjk (rof y u) (rof y v) (rof y w) i), 6 - i < fuel → V p l e (rmD 6 0 0) s m args below meth c (MQ below (Po G (Rt (nI (mj (rof y u) (rof y v) (rof y w))) n h)) args s 0 0 (rg G)) G 9 0 0 n h 6 [(0, .ref a), (1, .int (nI u)), (2, .int (nI v)), (3, .int (nI w)), (4, .int (nI q)), (5, .int (nI i))] [] := by
    intro fuel
    induction fuel with
    | zero => intro i q hi hq hf; omega
    | succ fuel ih6 =>
      intro i q hi hq hf
      refine V_iload 8 C dX10_voted_6 rfl rfl ?_
      refine V_bipush 10 C dX10_voted_8 rfl bip6 ?_
      refine V_icmp_geN 77 13 C dX10_voted_10 (by decide) rfl (by omega) (by omega) (fun c10 => ?_) (fun c10 => ?_)
      · refine V_iload 79 C dX10_voted_77 rfl rfl ?_
        refine V_ireturn C dX10_voted_79 rfl rfl (by omega) (by omega) ?_
        exact (Rt_mk (by rw [hq, show i = 6 from by omega]; rfl))
      · refine V_aload_n 14 C dX10_voted_13 rfl rfl ?_
        refine V_iload_n 15 C dX10_voted_14 rfl rfl ?_
        refine V_callS 18 C dX10_voted_15 rfl mX10_readOf tw1126 (c_X10_readOf l G _ _ a y hx hI u hu) rfl rfl (by decide) ⟨by omega, by omega⟩ (Nat.le_of_ble_eq_true rfl) ?_
        rintro _ _ _ ⟨rfl, rfl, rfl⟩
        refine V_iload 20 C dX10_voted_18 rfl rfl ?_
        refine V_callS 23 C dX10_voted_20 rfl mX10_digit tw1135 (c_X10_digit l G _ _ _ i ru (by omega)) rfl rfl (by decide) ⟨by omega, by omega⟩ (Nat.le_of_ble_eq_true rfl) ?_
        rintro _ _ _ ⟨rfl, rfl, rfl⟩
        refine V_istore 25 C dX10_voted_23 rfl (by decide) (L' := [(0, _), (1, _), (2, _), (3, _), (4, _), (5, _), (6, _)]) rfl ?_
        refine V_aload_n 26 C dX10_voted_25 rfl rfl ?_
        refine V_iload_n 27 C dX10_voted_26 rfl rfl ?_
        refine V_callS 30 C dX10_voted_27 rfl mX10_readOf tw1126 (c_X10_readOf l G _ _ a y hx hI v hv) rfl rfl (by decide) ⟨by omega, by omega⟩ (Nat.le_of_ble_eq_true rfl) ?_
        rintro _ _ _ ⟨rfl, rfl, rfl⟩
        refine V_iload 32 C dX10_voted_30 rfl rfl ?_
        refine V_callS 35 C dX10_voted_32 rfl mX10_digit tw1135 (c_X10_digit l G _ _ _ i rv (by omega)) rfl rfl (by decide) ⟨by omega, by omega⟩ (Nat.le_of_ble_eq_true rfl) ?_
        rintro _ _ _ ⟨rfl, rfl, rfl⟩
        refine V_istore 37 C dX10_voted_35 rfl (by decide) (L' := [(0, _), (1, _), (2, _), (3, _), (4, _), (5, _), (6, _), (7, _)]) rfl ?_
        refine V_aload_n 38 C dX10_voted_37 rfl rfl ?_
        refine V_iload_n 39 C dX10_voted_38 rfl rfl ?_
        refine V_callS 42 C dX10_voted_39 rfl mX10_readOf tw1126 (c_X10_readOf l G _ _ a y hx hI w hw) rfl rfl (by decide) ⟨by omega, by omega⟩ (Nat.le_of_ble_eq_true rfl) ?_
        rintro _ _ _ ⟨rfl, rfl, rfl⟩
        refine V_iload 44 C dX10_voted_42 rfl rfl ?_
        refine V_callS 47 C dX10_voted_44 rfl mX10_digit tw1135 (c_X10_digit l G _ _ _ i rw9 (by omega)) rfl rfl (by decide) ⟨by omega, by omega⟩ (Nat.le_of_ble_eq_true rfl) ?_
        rintro _ _ _ ⟨rfl, rfl, rfl⟩
        refine V_istore 49 C dX10_voted_47 rfl (by decide) (L' := [(0, _), (1, _), (2, _), (3, _), (4, _), (5, _), (6, _), (7, _), (8, _)]) rfl ?_
        refine V_bipush 51 C dX10_voted_49 rfl bip10 ?_
        refine V_iload 53 C dX10_voted_51 rfl rfl ?_
        refine V_imulN 54 C dX10_voted_53 rfl  ?_
        refine V_iload 56 C dX10_voted_54 rfl rfl ?_
        refine V_iload 58 C dX10_voted_56 rfl rfl ?_
        refine V_icmp_neN 66 61 C dX10_voted_58 (by decide) rfl (by have := dg_lt (rof y v) i; omega) (by have := dg_lt (rof y w) i; omega) (fun c58 => ?_) (fun c58 => ?_)
        · have hz : mjd (rof y u) (rof y v) (rof y w) i = dg (rof y u) i := by unfold mjd; rw [if_neg c58]
          refine V_iload 68 C dX10_voted_66 rfl rfl ?_
          refine V_iaddN 69 C dX10_voted_68 rfl  ?_
          refine V_istore 71 C dX10_voted_69 rfl (by decide) (L' := [(0, _), (1, _), (2, _), (3, _), (4, _), (5, _), (6, _), (7, _), (8, _)]) rfl ?_
          refine V_iinc 74 C dX10_voted_71 rfl (by decide) rfl (ii1 _) (L' := [(0, _), (1, _), (2, _), (3, _), (4, _), (5, _), (6, _), (7, _), (8, _)]) rfl ?_
          refine V_goto 6 C dX10_voted_74 (by decide) ?_
          refine V_L [0, 1, 2, 3, 4, 5] rfl ?_
          exact ih6 (i + 1) _ (by omega) (by rw [hq]; simp only [mjk]; rw [hz]) (by omega)
        · have hz : mjd (rof y u) (rof y v) (rof y w) i = dg (rof y v) i := by unfold mjd; rw [if_pos c58]
          refine V_iload 63 C dX10_voted_61 rfl rfl ?_
          refine V_goto 68 C dX10_voted_63 (by decide) ?_
          refine V_iaddN 69 C dX10_voted_68 rfl  ?_
          refine V_istore 71 C dX10_voted_69 rfl (by decide) (L' := [(0, _), (1, _), (2, _), (3, _), (4, _), (5, _), (6, _), (7, _), (8, _)]) rfl ?_
          refine V_iinc 74 C dX10_voted_71 rfl (by decide) rfl (ii1 _) (L' := [(0, _), (1, _), (2, _), (3, _), (4, _), (5, _), (6, _), (7, _), (8, _)]) rfl ?_
          refine V_goto 6 C dX10_voted_74 (by decide) ?_
          refine V_L [0, 1, 2, 3, 4, 5] rfl ?_
          exact ih6 (i + 1) _ (by omega) (by rw [hq]; simp only [mjk]; rw [hz]) (by omega)
  refine V_L [0, 1, 2, 3, 4, 5] rfl ?_
  exact J6 7 0 0 (by omega) rfl (by omega)

theorem dX10_proofOn_0 : decode cX10_proofOn 0 = .ok (.aload_n 0, 1) := by decide +kernel
theorem dX10_proofOn_1 : decode cX10_proofOn 1 = .ok (.iload_n 1, 1) := by decide +kernel
theorem dX10_proofOn_2 : decode cX10_proofOn 2 = .ok (.iload_n 2, 1) := by decide +kernel
theorem dX10_proofOn_3 : decode cX10_proofOn 3 = .ok (.iload_n 3, 1) := by decide +kernel
theorem dX10_proofOn_4 : decode cX10_proofOn 4 = .ok (.invokestatic 108, 3) := by decide +kernel
theorem dX10_proofOn_7 : decode cX10_proofOn 7 = .ok (.istore 5, 2) := by decide +kernel
theorem dX10_proofOn_9 : decode cX10_proofOn 9 = .ok (.iload 5, 2) := by decide +kernel
theorem dX10_proofOn_11 : decode cX10_proofOn 11 = .ok (.ifCond .ne 30, 3) := by decide +kernel
theorem dX10_proofOn_14 : decode cX10_proofOn 14 = .ok (.aload_n 0, 1) := by decide +kernel
theorem dX10_proofOn_15 : decode cX10_proofOn 15 = .ok (.aload_n 0, 1) := by decide +kernel
theorem dX10_proofOn_16 : decode cX10_proofOn 16 = .ok (.iload_n 1, 1) := by decide +kernel
theorem dX10_proofOn_17 : decode cX10_proofOn 17 = .ok (.iconst 0, 1) := by decide +kernel
theorem dX10_proofOn_18 : decode cX10_proofOn 18 = .ok (.invokestatic 48, 3) := by decide +kernel
theorem dX10_proofOn_21 : decode cX10_proofOn 21 = .ok (.aload_n 0, 1) := by decide +kernel
theorem dX10_proofOn_22 : decode cX10_proofOn 22 = .ok (.iload_n 1, 1) := by decide +kernel
theorem dX10_proofOn_23 : decode cX10_proofOn 23 = .ok (.iload_n 2, 1) := by decide +kernel
theorem dX10_proofOn_24 : decode cX10_proofOn 24 = .ok (.iload_n 3, 1) := by decide +kernel
theorem dX10_proofOn_25 : decode cX10_proofOn 25 = .ok (.invokestatic 112, 3) := by decide +kernel
theorem dX10_proofOn_28 : decode cX10_proofOn 28 = .ok (.iload 4, 2) := by decide +kernel
theorem dX10_proofOn_30 : decode cX10_proofOn 30 = .ok (.aload_n 0, 1) := by decide +kernel
theorem dX10_proofOn_31 : decode cX10_proofOn 31 = .ok (.iload_n 1, 1) := by decide +kernel
theorem dX10_proofOn_32 : decode cX10_proofOn 32 = .ok (.invokestatic 82, 3) := by decide +kernel
theorem dX10_proofOn_35 : decode cX10_proofOn 35 = .ok (.invokestatic 98, 3) := by decide +kernel
theorem dX10_proofOn_38 : decode cX10_proofOn 38 = .ok (.goto 11, 3) := by decide +kernel
theorem dX10_proofOn_41 : decode cX10_proofOn 41 = .ok (.aload_n 0, 1) := by decide +kernel
theorem dX10_proofOn_42 : decode cX10_proofOn 42 = .ok (.bipush 6, 2) := by decide +kernel
theorem dX10_proofOn_44 : decode cX10_proofOn 44 = .ok (.dup2, 1) := by decide +kernel
theorem dX10_proofOn_45 : decode cX10_proofOn 45 = .ok (.iaload, 1) := by decide +kernel
theorem dX10_proofOn_46 : decode cX10_proofOn 46 = .ok (.iconst 1, 1) := by decide +kernel
theorem dX10_proofOn_47 : decode cX10_proofOn 47 = .ok (.iadd, 1) := by decide +kernel
theorem dX10_proofOn_48 : decode cX10_proofOn 48 = .ok (.iastore, 1) := by decide +kernel
theorem dX10_proofOn_49 : decode cX10_proofOn 49 = .ok (.iload 5, 2) := by decide +kernel
theorem dX10_proofOn_51 : decode cX10_proofOn 51 = .ok (.ireturn, 1) := by decide +kernel
set_option maxRecDepth 100000 in
set_option maxHeartbeats 4000000 in
theorem c_X10_proofOn (l : Launch) (G : GT) (n : Nat) (h : AH) (a : Nat) (y : Nat → Nat) (hx : Row a y h) (hI : Iv y) (u v w f : Nat) (hu : u < y 4) (hv : v < y 4) (hw : w < y 4) : Ct l yX10_proofOn cX10_proofOn 6 (some .int) 7 0 0 G n h [.ref a, .int (nI u), .int (nI v), .int (nI w), .int (nI f)] (Ri (nI (prs y u v w)) n (fun h' => h' = HR h a (prOn y u v w f))) := by
  obtain ⟨⟨i0, i1, i2, i3, i4⟩, iR, iU, iM, iS⟩ := id hI
  have hc4 := prs_le y u v w
  have hc5 : prs y u v w = 0 → y 4 < 12 ∧ ¬ y (58 + 6 * u + 2) = 0 ∧ ¬ y (58 + 6 * v + 2) = 0 ∧ ¬ y (58 + 6 * w + 2) = 0 := fun z => by have := (prs_0 z).2; omega
  refine Ct_of mX10_proofOn.1 (Nat.le_of_ble_eq_true rfl) ?_
  intro p e s m args below meth c C hin
  refine V_Le (L' := [(0, .ref a), (1, .int (nI u)), (2, .int (nI v)), (3, .int (nI w)), (4, .int (nI f))]) rfl ?_
  refine V_aload_n 1 C dX10_proofOn_0 rfl rfl ?_
  refine V_iload_n 2 C dX10_proofOn_1 rfl rfl ?_
  refine V_iload_n 3 C dX10_proofOn_2 rfl rfl ?_
  refine V_iload_n 4 C dX10_proofOn_3 rfl rfl ?_
  refine V_callS 7 C dX10_proofOn_4 rfl mX10_proofReason tw1240 (c_X10_proofReason l G _ _ a y hx hI u v w hu hv hw) rfl rfl (by decide) ⟨by omega, by omega⟩ (Nat.le_of_ble_eq_true rfl) ?_
  rintro _ _ _ ⟨rfl, rfl, rfl⟩
  refine V_istore 9 C dX10_proofOn_7 rfl (by decide) (L' := [(0, _), (1, _), (2, _), (3, _), (4, _), (5, _)]) rfl ?_
  refine V_iload 11 C dX10_proofOn_9 rfl rfl ?_
  refine V_if_neN 41 14 C dX10_proofOn_11 (by decide) rfl (by omega) (fun c11 => ?_) (fun c11 => ?_)
  · refine V_aload_n 42 C dX10_proofOn_41 rfl rfl ?_
    refine V_bipush 44 C dX10_proofOn_42 rfl bip6 ?_
    refine V_dup2 45 C dX10_proofOn_44 rfl rfl rfl ?_
    refine V_iald (j := 6) 46 C dX10_proofOn_45 rfl hx rfl (by omega) (by omega) ?_
    refine V_iconst 47 C dX10_proofOn_46 rfl ic1 ?_
    refine V_iaddN 48 C dX10_proofOn_47 rfl  ?_
    refine V_iast (j := 6) 49 C dX10_proofOn_48 rfl hx rfl (by omega) (by omega) ?_
    rw [HR_st]
    refine V_iload 51 C dX10_proofOn_49 rfl rfl ?_
    refine V_ireturn C dX10_proofOn_51 rfl rfl (by omega) (by omega) ?_
    exact ⟨rfl, rfl, by unfold prOn; first | rw [if_pos c11] | (rw [if_neg c11]; rfl)⟩
  · obtain ⟨k4, ku, kv, kw⟩ := hc5 c11
    refine V_aload_n 15 C dX10_proofOn_14 rfl rfl ?_
    refine V_aload_n 16 C dX10_proofOn_15 rfl rfl ?_
    refine V_iload_n 17 C dX10_proofOn_16 rfl rfl ?_
    refine V_iconst 18 C dX10_proofOn_17 rfl ic0 ?_
    refine V_callS 21 C dX10_proofOn_18 rfl mX10_ofSheet tw1082 (c_X10_ofSheet l G _ _ a y hx u 0 (58 + 6 * u) rfl (by omega) (by omega) (by omega)) rfl rfl (by decide) ⟨by omega, by omega⟩ (Nat.le_of_ble_eq_true rfl) ?_
    rintro _ _ _ ⟨rfl, rfl, rfl⟩
    refine V_aload_n 22 C dX10_proofOn_21 rfl rfl ?_
    refine V_iload_n 23 C dX10_proofOn_22 rfl rfl ?_
    refine V_iload_n 24 C dX10_proofOn_23 rfl rfl ?_
    refine V_iload_n 25 C dX10_proofOn_24 rfl rfl ?_
    refine V_callS 28 C dX10_proofOn_25 rfl mX10_voted tw1243 (c_X10_voted l G _ _ a y hx hI u v w hu hv hw ku kv kw) rfl rfl (by decide) ⟨by omega, by omega⟩ (Nat.le_of_ble_eq_true rfl) ?_
    rintro _ _ _ ⟨rfl, rfl, rfl⟩
    refine V_iload 30 C dX10_proofOn_28 rfl rfl ?_
    refine V_aload_n 31 C dX10_proofOn_30 rfl rfl ?_
    refine V_iload_n 32 C dX10_proofOn_31 rfl rfl ?_
    refine V_callS 35 C dX10_proofOn_32 rfl mX10_placeOf tw1079 (c_X10_placeOf l G _ _ a y hx hI u hu) rfl rfl (by decide) ⟨by omega, by omega⟩ (Nat.le_of_ble_eq_true rfl) ?_
    rintro _ _ _ ⟨rfl, rfl, rfl⟩
    refine V_callS 38 C dX10_proofOn_35 rfl mX10_sheetOn tw1049 (c_X10_sheetOn l G _ _ a y hx k4 _ _ _ _) rfl rfl (by decide) ⟨by omega, by omega⟩ (Nat.le_of_ble_eq_true rfl) ?_
    rintro _ _ _ ⟨rfl, rfl, rfl⟩
    refine V_goto 49 C dX10_proofOn_38 (by decide) ?_
    refine V_iload 51 C dX10_proofOn_49 rfl rfl ?_
    refine V_ireturn C dX10_proofOn_51 rfl rfl (by omega) (by omega) ?_
    exact ⟨rfl, rfl, by unfold prOn; first | rw [if_pos c11] | (rw [if_neg c11]; rfl)⟩

theorem dX10_hour_0 : decode cX10_hour 0 = .ok (.aload_n 0, 1) := by decide +kernel
theorem dX10_hour_1 : decode cX10_hour 1 = .ok (.iconst 5, 1) := by decide +kernel
theorem dX10_hour_2 : decode cX10_hour 2 = .ok (.dup2, 1) := by decide +kernel
theorem dX10_hour_3 : decode cX10_hour 3 = .ok (.iaload, 1) := by decide +kernel
theorem dX10_hour_4 : decode cX10_hour 4 = .ok (.iconst 1, 1) := by decide +kernel
theorem dX10_hour_5 : decode cX10_hour 5 = .ok (.iadd, 1) := by decide +kernel
theorem dX10_hour_6 : decode cX10_hour 6 = .ok (.iastore, 1) := by decide +kernel
theorem dX10_hour_7 : decode cX10_hour 7 = .ok (.iconst 0, 1) := by decide +kernel
theorem dX10_hour_8 : decode cX10_hour 8 = .ok (.istore_n 1, 1) := by decide +kernel
theorem dX10_hour_9 : decode cX10_hour 9 = .ok (.iload_n 1, 1) := by decide +kernel
theorem dX10_hour_10 : decode cX10_hour 10 = .ok (.aload_n 0, 1) := by decide +kernel
theorem dX10_hour_11 : decode cX10_hour 11 = .ok (.iconst 4, 1) := by decide +kernel
theorem dX10_hour_12 : decode cX10_hour 12 = .ok (.iaload, 1) := by decide +kernel
theorem dX10_hour_13 : decode cX10_hour 13 = .ok (.if_icmp .ge 26, 3) := by decide +kernel
theorem dX10_hour_16 : decode cX10_hour 16 = .ok (.aload_n 0, 1) := by decide +kernel
theorem dX10_hour_17 : decode cX10_hour 17 = .ok (.bipush 58, 2) := by decide +kernel
theorem dX10_hour_19 : decode cX10_hour 19 = .ok (.bipush 6, 2) := by decide +kernel
theorem dX10_hour_21 : decode cX10_hour 21 = .ok (.iload_n 1, 1) := by decide +kernel
theorem dX10_hour_22 : decode cX10_hour 22 = .ok (.imul, 1) := by decide +kernel
theorem dX10_hour_23 : decode cX10_hour 23 = .ok (.iadd, 1) := by decide +kernel
theorem dX10_hour_24 : decode cX10_hour 24 = .ok (.iconst 2, 1) := by decide +kernel
theorem dX10_hour_25 : decode cX10_hour 25 = .ok (.iadd, 1) := by decide +kernel
theorem dX10_hour_26 : decode cX10_hour 26 = .ok (.aload_n 0, 1) := by decide +kernel
theorem dX10_hour_27 : decode cX10_hour 27 = .ok (.iload_n 1, 1) := by decide +kernel
theorem dX10_hour_28 : decode cX10_hour 28 = .ok (.iconst 1, 1) := by decide +kernel
theorem dX10_hour_29 : decode cX10_hour 29 = .ok (.invokestatic 69, 3) := by decide +kernel
theorem dX10_hour_32 : decode cX10_hour 32 = .ok (.iastore, 1) := by decide +kernel
theorem dX10_hour_33 : decode cX10_hour 33 = .ok (.iinc 1 1, 3) := by decide +kernel
theorem dX10_hour_36 : decode cX10_hour 36 = .ok (.goto (-27), 3) := by decide +kernel
theorem dX10_hour_39 : decode cX10_hour 39 = .ok (.iconst 0, 1) := by decide +kernel
theorem dX10_hour_40 : decode cX10_hour 40 = .ok (.istore_n 1, 1) := by decide +kernel
theorem dX10_hour_41 : decode cX10_hour 41 = .ok (.iconst 0, 1) := by decide +kernel
theorem dX10_hour_42 : decode cX10_hour 42 = .ok (.istore_n 2, 1) := by decide +kernel
theorem dX10_hour_43 : decode cX10_hour 43 = .ok (.iload_n 2, 1) := by decide +kernel
theorem dX10_hour_44 : decode cX10_hour 44 = .ok (.aload_n 0, 1) := by decide +kernel
theorem dX10_hour_45 : decode cX10_hour 45 = .ok (.iconst 2, 1) := by decide +kernel
theorem dX10_hour_46 : decode cX10_hour 46 = .ok (.iaload, 1) := by decide +kernel
theorem dX10_hour_47 : decode cX10_hour 47 = .ok (.if_icmp .ge 58, 3) := by decide +kernel
theorem dX10_hour_50 : decode cX10_hour 50 = .ok (.bipush 37, 2) := by decide +kernel
theorem dX10_hour_52 : decode cX10_hour 52 = .ok (.iconst 3, 1) := by decide +kernel
theorem dX10_hour_53 : decode cX10_hour 53 = .ok (.iload_n 2, 1) := by decide +kernel
theorem dX10_hour_54 : decode cX10_hour 54 = .ok (.imul, 1) := by decide +kernel
theorem dX10_hour_55 : decode cX10_hour 55 = .ok (.iadd, 1) := by decide +kernel
theorem dX10_hour_56 : decode cX10_hour 56 = .ok (.istore_n 3, 1) := by decide +kernel
theorem dX10_hour_57 : decode cX10_hour 57 = .ok (.aload_n 0, 1) := by decide +kernel
theorem dX10_hour_58 : decode cX10_hour 58 = .ok (.iload_n 3, 1) := by decide +kernel
theorem dX10_hour_59 : decode cX10_hour 59 = .ok (.iconst 1, 1) := by decide +kernel
theorem dX10_hour_60 : decode cX10_hour 60 = .ok (.iadd, 1) := by decide +kernel
theorem dX10_hour_61 : decode cX10_hour 61 = .ok (.iaload, 1) := by decide +kernel
theorem dX10_hour_62 : decode cX10_hour 62 = .ok (.ifCond .le 37, 3) := by decide +kernel
theorem dX10_hour_65 : decode cX10_hour 65 = .ok (.aload_n 0, 1) := by decide +kernel
theorem dX10_hour_66 : decode cX10_hour 66 = .ok (.iload_n 3, 1) := by decide +kernel
theorem dX10_hour_67 : decode cX10_hour 67 = .ok (.iconst 1, 1) := by decide +kernel
theorem dX10_hour_68 : decode cX10_hour 68 = .ok (.iadd, 1) := by decide +kernel
theorem dX10_hour_69 : decode cX10_hour 69 = .ok (.dup2, 1) := by decide +kernel
theorem dX10_hour_70 : decode cX10_hour 70 = .ok (.iaload, 1) := by decide +kernel
theorem dX10_hour_71 : decode cX10_hour 71 = .ok (.iconst 1, 1) := by decide +kernel
theorem dX10_hour_72 : decode cX10_hour 72 = .ok (.isub, 1) := by decide +kernel
theorem dX10_hour_73 : decode cX10_hour 73 = .ok (.iastore, 1) := by decide +kernel
theorem dX10_hour_74 : decode cX10_hour 74 = .ok (.aload_n 0, 1) := by decide +kernel
theorem dX10_hour_75 : decode cX10_hour 75 = .ok (.iload_n 3, 1) := by decide +kernel
theorem dX10_hour_76 : decode cX10_hour 76 = .ok (.iconst 2, 1) := by decide +kernel
theorem dX10_hour_77 : decode cX10_hour 77 = .ok (.iadd, 1) := by decide +kernel
theorem dX10_hour_78 : decode cX10_hour 78 = .ok (.dup2, 1) := by decide +kernel
theorem dX10_hour_79 : decode cX10_hour 79 = .ok (.iaload, 1) := by decide +kernel
theorem dX10_hour_80 : decode cX10_hour 80 = .ok (.iconst 1, 1) := by decide +kernel
theorem dX10_hour_81 : decode cX10_hour 81 = .ok (.iadd, 1) := by decide +kernel
theorem dX10_hour_82 : decode cX10_hour 82 = .ok (.iastore, 1) := by decide +kernel
theorem dX10_hour_83 : decode cX10_hour 83 = .ok (.iload_n 1, 1) := by decide +kernel
theorem dX10_hour_84 : decode cX10_hour 84 = .ok (.aload_n 0, 1) := by decide +kernel
theorem dX10_hour_85 : decode cX10_hour 85 = .ok (.iload_n 3, 1) := by decide +kernel
theorem dX10_hour_86 : decode cX10_hour 86 = .ok (.iconst 1, 1) := by decide +kernel
theorem dX10_hour_87 : decode cX10_hour 87 = .ok (.iadd, 1) := by decide +kernel
theorem dX10_hour_88 : decode cX10_hour 88 = .ok (.iaload, 1) := by decide +kernel
theorem dX10_hour_89 : decode cX10_hour 89 = .ok (.ifCond .ne 7, 3) := by decide +kernel
theorem dX10_hour_92 : decode cX10_hour 92 = .ok (.iconst 1, 1) := by decide +kernel
theorem dX10_hour_93 : decode cX10_hour 93 = .ok (.goto 4, 3) := by decide +kernel
theorem dX10_hour_96 : decode cX10_hour 96 = .ok (.iconst 0, 1) := by decide +kernel
theorem dX10_hour_97 : decode cX10_hour 97 = .ok (.iadd, 1) := by decide +kernel
theorem dX10_hour_98 : decode cX10_hour 98 = .ok (.istore_n 1, 1) := by decide +kernel
theorem dX10_hour_99 : decode cX10_hour 99 = .ok (.iinc 2 1, 3) := by decide +kernel
theorem dX10_hour_102 : decode cX10_hour 102 = .ok (.goto (-59), 3) := by decide +kernel
theorem dX10_hour_105 : decode cX10_hour 105 = .ok (.iload_n 1, 1) := by decide +kernel
theorem dX10_hour_106 : decode cX10_hour 106 = .ok (.ireturn, 1) := by decide +kernel
set_option maxRecDepth 100000 in
set_option maxHeartbeats 4000000 in
theorem c_X10_hour (l : Launch) (G : GT) (n : Nat) (h : AH) (a : Nat) (y : Nat → Nat) (hx : Row a y h) (hI : Iv y) : Ct l yX10_hour cX10_hour 4 (some .int) 3 0 0 G n h [.ref a] (Ri (nI (comek y (y 2))) n (fun h' => h' = HR h a (hr y))) := by
  obtain ⟨⟨i0, i1, i2, i3, i4⟩, iR, iU, iM, iS⟩ := id hI
  refine Ct_of mX10_hour.1 (Nat.le_of_ble_eq_true rfl) ?_
  intro p e s m args below meth c C hin
  refine V_Le (L' := [(0, .ref a)]) rfl ?_
  refine V_aload_n 1 C dX10_hour_0 rfl rfl ?_
  refine V_iconst 2 C dX10_hour_1 rfl ic5 ?_
  refine V_dup2 3 C dX10_hour_2 rfl rfl rfl ?_
  refine V_iald (j := 5) 4 C dX10_hour_3 rfl hx rfl (by omega) (by omega) ?_
  refine V_iconst 5 C dX10_hour_4 rfl ic1 ?_
  refine V_iaddN 6 C dX10_hour_5 rfl  ?_
  refine V_iast (j := 5) 7 C dX10_hour_6 rfl hx rfl (by omega) (by omega) ?_
  rw [HR_st]
  refine V_iconst 8 C dX10_hour_7 rfl ic0 ?_
  refine V_istore_n 9 C dX10_hour_8 rfl (by decide) (L' := [(0, _), (1, _)]) rfl ?_
  have J9 : ∀ (fuel : Nat) (i : Nat) (hi : i ≤ y 4), y 4 - i < fuel → V p l e (rmD 3 0 0) s m args below meth c (MQ below (Po G (Ri (nI (comek y (y 2))) n (fun h' => h' = HR h a (hr y)))) args s 0 0 (rg G)) G 4 0 0 n ((HR h a (inkk (ys y 5 (y 5 + 1)) i))) 9 [(0, .ref a), (1, .int (nI i))] [] := by
    intro fuel
    induction fuel with
    | zero => intro i hi hf; omega
    | succ fuel ih9 =>
      intro i hi hf
      have e4 : inkk (ys y 5 (y 5 + 1)) i 4 = y 4 := by rw [inkk_n (fun q hq => by omega), ys_n _ (by omega)]
      refine V_iload_n 10 C dX10_hour_9 rfl rfl ?_
      refine V_aload_n 11 C dX10_hour_10 rfl rfl ?_
      refine V_iconst 12 C dX10_hour_11 rfl ic4 ?_
      refine V_iald (j := 4) 13 C dX10_hour_12 rfl (HR_row _ _ _) rfl (by omega) (by omega) ?_
      show V _ _ _ _ _ _ _ _ _ _ _ _ _ _ _ _ _ _ _ (.int (nI (inkk (ys y 5 (y 5 + 1)) i 4)) :: _)
      rw [e4]
      refine V_icmp_geN 39 16 C dX10_hour_13 (by decide) rfl (by omega) (by omega) (fun c13 => ?_) (fun c13 => ?_)
      · refine V_iconst 40 C dX10_hour_39 rfl ic0 ?_
        refine V_istore_n 41 C dX10_hour_40 rfl (by decide) (L' := [(0, _), (1, _)]) rfl ?_
        refine V_iconst 42 C dX10_hour_41 rfl ic0 ?_
        refine V_istore_n 43 C dX10_hour_42 rfl (by decide) (L' := [(0, _), (1, _), (2, _)]) rfl ?_
        have J43 : ∀ (fuel : Nat) (i : Nat) (hi : i ≤ y 2), y 2 - i < fuel → V p l e (rmD 3 0 0) s m args below meth c (MQ below (Po G (Ri (nI (comek y (y 2))) n (fun h' => h' = HR h a (hr y)))) args s 0 0 (rg G)) G 4 0 0 n ((HR h a (walkk (hrI y) i))) 43 [(0, .ref a), (1, .int (nI (comek y i))), (2, .int (nI i))] [] := by
          intro fuel
          induction fuel with
          | zero => intro i hi hf; omega
          | succ fuel ih43 =>
            intro i hi hf
            have e2 : walkk (hrI y) i 2 = y 2 := by rw [walkk_n (fun q hq => by omega), hrI_n (by omega) (fun q hq => by omega)]
            have e7 : i < y 2 → walkk (hrI y) i (37 + 3 * i + 1) = y (37 + 3 * i + 1) := fun hlt => by rw [walkk_n (fun q hq => by omega), hrI_n (by omega) (fun q hq => by omega)]
            refine V_iload_n 44 C dX10_hour_43 rfl rfl ?_
            refine V_aload_n 45 C dX10_hour_44 rfl rfl ?_
            refine V_iconst 46 C dX10_hour_45 rfl ic2 ?_
            refine V_iald (j := 2) 47 C dX10_hour_46 rfl (HR_row _ _ _) rfl (by omega) (by omega) ?_
            show V _ _ _ _ _ _ _ _ _ _ _ _ _ _ _ _ _ _ _ (.int (nI (walkk (hrI y) i 2)) :: _)
            rw [e2]
            refine V_icmp_geN 105 50 C dX10_hour_47 (by decide) rfl (by omega) (by omega) (fun c47 => ?_) (fun c47 => ?_)
            · refine V_iload_n 106 C dX10_hour_105 rfl rfl ?_
              refine V_ireturn C dX10_hour_106 rfl rfl (by omega) (by omega) ?_
              exact ⟨by rw [show i = y 2 from by omega], rfl, by rw [show i = y 2 from by omega]; rfl⟩
            · refine V_bipush 52 C dX10_hour_50 rfl bip37 ?_
              refine V_iconst 53 C dX10_hour_52 rfl ic3 ?_
              refine V_iload_n 54 C dX10_hour_53 rfl rfl ?_
              refine V_imulN 55 C dX10_hour_54 rfl  ?_
              refine V_iaddN 56 C dX10_hour_55 rfl  ?_
              refine V_istore_n 57 C dX10_hour_56 rfl (by decide) (L' := [(0, _), (1, _), (2, _), (3, _)]) rfl ?_
              refine V_aload_n 58 C dX10_hour_57 rfl rfl ?_
              refine V_iload_n 59 C dX10_hour_58 rfl rfl ?_
              refine V_iconst 60 C dX10_hour_59 rfl ic1 ?_
              refine V_iaddN 61 C dX10_hour_60 rfl  ?_
              have hlt : i < y 2 := by omega
              obtain ⟨u0, u1⟩ := iU i hlt
              have e77 := e7 hlt
              refine V_iald (j := 37 + 3 * i + 1) 62 C dX10_hour_61 rfl (HR_row _ _ _) rfl (by omega) (by omega) ?_
              show V _ _ _ _ _ _ _ _ _ _ _ _ _ _ _ _ _ _ _ (.int (nI (walkk (hrI y) i (37 + 3 * i + 1))) :: _)
              rw [e77]
              refine V_if_leN 99 65 C dX10_hour_62 (by decide) rfl (by omega) (fun c62 => ?_) (fun c62 => ?_)
              · have hz : walkk (hrI y) i = walkk (hrI y) (i + 1) := by simp only [walkk]; unfold walk1; rw [if_pos (by rw [e77]; exact c62)]
                have hzc := comek_f (show ¬ y (37 + 3 * i + 1) = 1 by omega)
                rw [hz]
                refine V_iinc 102 C dX10_hour_99 rfl (by decide) rfl (ii1 _) (L' := [(0, _), (1, _), (2, _), (3, _)]) rfl ?_
                refine V_goto 43 C dX10_hour_102 (by decide) ?_
                refine V_L [0, 1, 2] rfl ?_
                rw [hzc]
                exact ih43 (i + 1) (by omega) (by omega)
              · have hz : ¬ walkk (hrI y) i (37 + 3 * i + 1) = 0 := by rw [e77]; omega
                refine V_aload_n 66 C dX10_hour_65 rfl rfl ?_
                refine V_iload_n 67 C dX10_hour_66 rfl rfl ?_
                refine V_iconst 68 C dX10_hour_67 rfl ic1 ?_
                refine V_iaddN 69 C dX10_hour_68 rfl  ?_
                refine V_dup2 70 C dX10_hour_69 rfl rfl rfl ?_
                refine V_iald (j := 37 + 3 * i + 1) 71 C dX10_hour_70 rfl (HR_row _ _ _) rfl (by omega) (by omega) ?_
                refine V_iconst 72 C dX10_hour_71 rfl ic1 ?_
                refine V_isubN 73 C dX10_hour_72 rfl (by show 1 ≤ walkk (hrI y) i (37 + 3 * i + 1); omega) ?_
                refine V_iast (j := 37 + 3 * i + 1) 74 C dX10_hour_73 rfl (HR_row _ _ _) rfl (by omega) (by omega) ?_
                rw [HR_st, HR_HR]
                refine V_aload_n 75 C dX10_hour_74 rfl rfl ?_
                refine V_iload_n 76 C dX10_hour_75 rfl rfl ?_
                refine V_iconst 77 C dX10_hour_76 rfl ic2 ?_
                refine V_iaddN 78 C dX10_hour_77 rfl  ?_
                refine V_dup2 79 C dX10_hour_78 rfl rfl rfl ?_
                refine V_iald (j := 37 + 3 * i + 2) 80 C dX10_hour_79 rfl (HR_row _ _ _) rfl (by omega) (by omega) ?_
                refine V_iconst 81 C dX10_hour_80 rfl ic1 ?_
                refine V_iaddN 82 C dX10_hour_81 rfl  ?_
                refine V_iast (j := 37 + 3 * i + 2) 83 C dX10_hour_82 rfl (HR_row _ _ _) rfl (by omega) (by omega) ?_
                rw [HR_st, HR_HR]
                have hw1 : ys (walk0 (walkk (hrI y) i) i) (37 + 3 * i + 2) (walk0 (walkk (hrI y) i) i (37 + 3 * i + 2) + 1) = walkk (hrI y) (i + 1) := by simp only [walkk]; unfold walk1; rw [if_neg hz]
                have hw2 : walkk (hrI y) (i + 1) (37 + 3 * i + 1) = y (37 + 3 * i + 1) - 1 := by simp only [walkk]; rw [walk1_1, e77]
                rw [show ys (ys (walkk (hrI y) i) (37 + 3 * i + 1) (walkk (hrI y) i (37 + 3 * i + 1) - 1)) (37 + 3 * i + 2) (ys (walkk (hrI y) i) (37 + 3 * i + 1) (walkk (hrI y) i (37 + 3 * i + 1) - 1) (37 + 3 * i + 2) + 1) = walkk (hrI y) (i + 1) from hw1]
                refine V_iload_n 84 C dX10_hour_83 rfl rfl ?_
                refine V_aload_n 85 C dX10_hour_84 rfl rfl ?_
                refine V_iload_n 86 C dX10_hour_85 rfl rfl ?_
                refine V_iconst 87 C dX10_hour_86 rfl ic1 ?_
                refine V_iaddN 88 C dX10_hour_87 rfl  ?_
                refine V_iald (j := 37 + 3 * i + 1) 89 C dX10_hour_88 rfl (HR_row _ _ _) rfl (by omega) (by omega) ?_
                show V _ _ _ _ _ _ _ _ _ _ _ _ _ _ _ _ _ _ _ (.int (nI (walkk (hrI y) (i + 1) (37 + 3 * i + 1))) :: _)
                rw [hw2]
                refine V_if_neN 96 92 C dX10_hour_89 (by decide) rfl (by omega) (fun c89 => ?_) (fun c89 => ?_)
                · have hzc : comek y i + 0 = comek y (i + 1) := comek_f (show ¬ y (37 + 3 * i + 1) = 1 by omega)
                  refine V_iconst 97 C dX10_hour_96 rfl ic0 ?_
                  refine V_iaddN 98 C dX10_hour_97 rfl  ?_
                  refine V_istore_n 99 C dX10_hour_98 rfl (by decide) (L' := [(0, _), (1, _), (2, _), (3, _)]) rfl ?_
                  refine V_iinc 102 C dX10_hour_99 rfl (by decide) rfl (ii1 _) (L' := [(0, _), (1, _), (2, _), (3, _)]) rfl ?_
                  refine V_goto 43 C dX10_hour_102 (by decide) ?_
                  refine V_L [0, 1, 2] rfl ?_
                  rw [hzc]
                  exact ih43 (i + 1) (by omega) (by omega)
                · have hzc := comek_t (show y (37 + 3 * i + 1) = 1 by omega)
                  refine V_iconst 93 C dX10_hour_92 rfl ic1 ?_
                  refine V_goto 97 C dX10_hour_93 (by decide) ?_
                  refine V_iaddN 98 C dX10_hour_97 rfl  ?_
                  refine V_istore_n 99 C dX10_hour_98 rfl (by decide) (L' := [(0, _), (1, _), (2, _), (3, _)]) rfl ?_
                  refine V_iinc 102 C dX10_hour_99 rfl (by decide) rfl (ii1 _) (L' := [(0, _), (1, _), (2, _), (3, _)]) rfl ?_
                  refine V_goto 43 C dX10_hour_102 (by decide) ?_
                  refine V_L [0, 1, 2] rfl ?_
                  rw [hzc]
                  exact ih43 (i + 1) (by omega) (by omega)
        refine V_L [0, 1, 2] rfl ?_
        rw [show i = y 4 from by omega]
        exact J43 (y 2 + 1) 0 (by omega) (by omega)
      · refine V_aload_n 17 C dX10_hour_16 rfl rfl ?_
        refine V_bipush 19 C dX10_hour_17 rfl bip58 ?_
        refine V_bipush 21 C dX10_hour_19 rfl bip6 ?_
        refine V_iload_n 22 C dX10_hour_21 rfl rfl ?_
        refine V_imulN 23 C dX10_hour_22 rfl  ?_
        refine V_iaddN 24 C dX10_hour_23 rfl  ?_
        refine V_iconst 25 C dX10_hour_24 rfl ic2 ?_
        refine V_iaddN 26 C dX10_hour_25 rfl  ?_
        refine V_aload_n 27 C dX10_hour_26 rfl rfl ?_
        refine V_iload_n 28 C dX10_hour_27 rfl rfl ?_
        refine V_iconst 29 C dX10_hour_28 rfl ic1 ?_
        have hs : i < y 4 := by omega
        obtain ⟨s0, s1, s2, s3, s4, s5⟩ := iS i hs
        unfold NO at s4
        have e62 : inkk (ys y 5 (y 5 + 1)) i (58 + 6 * i + 2) = y (58 + 6 * i + 2) := by rw [inkk_n (fun q hq => by omega), ys_n _ (by omega)]
        have e63 : inkk (ys y 5 (y 5 + 1)) i (58 + 6 * i + 3) = y (58 + 6 * i + 3) := by rw [inkk_n (fun q hq => by omega), ys_n _ (by omega)]
        refine V_callS 32 C dX10_hour_29 rfl mX10_inkIn tw1147 (c_X10_inkIn l G _ _ a _ (HR_row _ _ _) i 1 (by omega) (by rw [e62]; exact s2) (by rw [e63]; exact s3) (by omega)) rfl rfl (by decide) ⟨by omega, by omega⟩ (Nat.le_of_ble_eq_true rfl) ?_
        rintro _ _ _ ⟨rfl, rfl, rfl⟩
        refine V_iast (j := 58 + 6 * i + 2) 33 C dX10_hour_32 rfl (HR_row _ _ _) rfl (by omega) (by omega) ?_
        rw [HR_st, HR_HR]
        refine V_iinc 36 C dX10_hour_33 rfl (by decide) rfl (ii1 _) (L' := [(0, _), (1, _)]) rfl ?_
        refine V_goto 9 C dX10_hour_36 (by decide) ?_
        refine V_L [0, 1] rfl ?_
        exact ih9 (i + 1) (by omega) (by omega)
  refine V_L [0, 1] rfl ?_
  exact J9 (y 4 + 1) 0 (by omega) (by omega)

theorem dX10_hoursOn_0 : decode cX10_hoursOn 0 = .ok (.iconst 0, 1) := by decide +kernel
theorem dX10_hoursOn_1 : decode cX10_hoursOn 1 = .ok (.istore_n 2, 1) := by decide +kernel
theorem dX10_hoursOn_2 : decode cX10_hoursOn 2 = .ok (.iconst 0, 1) := by decide +kernel
theorem dX10_hoursOn_3 : decode cX10_hoursOn 3 = .ok (.istore_n 3, 1) := by decide +kernel
theorem dX10_hoursOn_4 : decode cX10_hoursOn 4 = .ok (.iload_n 3, 1) := by decide +kernel
theorem dX10_hoursOn_5 : decode cX10_hoursOn 5 = .ok (.iload_n 1, 1) := by decide +kernel
theorem dX10_hoursOn_6 : decode cX10_hoursOn 6 = .ok (.if_icmp .ge 16, 3) := by decide +kernel
theorem dX10_hoursOn_9 : decode cX10_hoursOn 9 = .ok (.iload_n 2, 1) := by decide +kernel
theorem dX10_hoursOn_10 : decode cX10_hoursOn 10 = .ok (.aload_n 0, 1) := by decide +kernel
theorem dX10_hoursOn_11 : decode cX10_hoursOn 11 = .ok (.invokestatic 115, 3) := by decide +kernel
theorem dX10_hoursOn_14 : decode cX10_hoursOn 14 = .ok (.iadd, 1) := by decide +kernel
theorem dX10_hoursOn_15 : decode cX10_hoursOn 15 = .ok (.istore_n 2, 1) := by decide +kernel
theorem dX10_hoursOn_16 : decode cX10_hoursOn 16 = .ok (.iinc 3 1, 3) := by decide +kernel
theorem dX10_hoursOn_19 : decode cX10_hoursOn 19 = .ok (.goto (-15), 3) := by decide +kernel
theorem dX10_hoursOn_22 : decode cX10_hoursOn 22 = .ok (.iload_n 2, 1) := by decide +kernel
theorem dX10_hoursOn_23 : decode cX10_hoursOn 23 = .ok (.ireturn, 1) := by decide +kernel
set_option maxRecDepth 100000 in
set_option maxHeartbeats 4000000 in
theorem c_X10_hoursOn (l : Launch) (G : GT) (n : Nat) (h : AH) (a : Nat) (y : Nat → Nat) (hx : Row a y h) (hI : Iv y) (k9 : Nat) (hk : k9 ≤ 100) : Ct l yX10_hoursOn cX10_hoursOn 4 (some .int) 4 0 0 G n h [.ref a, .int (nI k9)] (Ri (nI (coms y k9)) n (fun h' => h' = HR h a (hrs y k9))) := by
  have hq := Iv_hrs hI
  refine Ct_of mX10_hoursOn.1 (Nat.le_of_ble_eq_true rfl) ?_
  intro p e s m args below meth c C hin
  refine V_Le (L' := [(0, .ref a), (1, .int (nI k9))]) rfl ?_
  refine V_iconst 1 C dX10_hoursOn_0 rfl ic0 ?_
  refine V_istore_n 2 C dX10_hoursOn_1 rfl (by decide) (L' := [(0, _), (1, _), (2, _)]) rfl ?_
  refine V_iconst 3 C dX10_hoursOn_2 rfl ic0 ?_
  refine V_istore_n 4 C dX10_hoursOn_3 rfl (by decide) (L' := [(0, _), (1, _), (2, _), (3, _)]) rfl ?_
  have J4 : ∀ (fuel : Nat) (i : Nat) (hi : i ≤ k9), k9 - i < fuel → V p l e (rmD 4 0 0) s m args below meth c (MQ below (Po G (Ri (nI (coms y k9)) n (fun h' => h' = HR h a (hrs y k9)))) args s 0 0 (rg G)) G 4 0 0 n ((HR h a (hrs y i))) 4 [(0, .ref a), (1, .int (nI k9)), (2, .int (nI (coms y i))), (3, .int (nI i))] [] := by
    intro fuel
    induction fuel with
    | zero => intro i hi hf; omega
    | succ fuel ih4 =>
      intro i hi hf
      refine V_iload_n 5 C dX10_hoursOn_4 rfl rfl ?_
      refine V_iload_n 6 C dX10_hoursOn_5 rfl rfl ?_
      refine V_icmp_geN 22 9 C dX10_hoursOn_6 (by decide) rfl (by omega) (by omega) (fun c6 => ?_) (fun c6 => ?_)
      · refine V_iload_n 23 C dX10_hoursOn_22 rfl rfl ?_
        refine V_ireturn C dX10_hoursOn_23 rfl rfl (by omega) (by omega) ?_
        exact ⟨by rw [show i = k9 from by omega], rfl, by rw [show i = k9 from by omega]⟩
      · refine V_iload_n 10 C dX10_hoursOn_9 rfl rfl ?_
        refine V_aload_n 11 C dX10_hoursOn_10 rfl rfl ?_
        refine V_callS 14 C dX10_hoursOn_11 rfl mX10_hour tw1144 (c_X10_hour l G _ _ a _ (HR_row _ _ _) (hq i)) rfl rfl (by decide) ⟨by omega, by omega⟩ (Nat.le_of_ble_eq_true rfl) ?_
        rintro _ _ _ ⟨rfl, rfl, rfl⟩
        rw [HR_HR]
        refine V_iaddN 15 C dX10_hoursOn_14 rfl  ?_
        refine V_istore_n 16 C dX10_hoursOn_15 rfl (by decide) (L' := [(0, _), (1, _), (2, _), (3, _)]) rfl ?_
        refine V_iinc 19 C dX10_hoursOn_16 rfl (by decide) rfl (ii1 _) (L' := [(0, _), (1, _), (2, _), (3, _)]) rfl ?_
        refine V_goto 4 C dX10_hoursOn_19 (by decide) ?_
        refine V_L [0, 1, 2, 3] rfl ?_
        exact ih4 (i + 1) (by omega) (by omega)
  refine V_L [0, 1, 2, 3] rfl ?_
  have J := J4 (k9 + 1) 0 (by omega) (by omega)
  rw [show hrs y 0 = y from rfl, HR_id hx] at J
  exact J

