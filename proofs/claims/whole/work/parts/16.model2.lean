/-! THE REFERENCE: reads (2) -/
theorem dX10_power_0 : decode cX10_power 0 = .ok (.iconst 1, 1) := by decide +kernel
theorem dX10_power_1 : decode cX10_power 1 = .ok (.istore_n 1, 1) := by decide +kernel
theorem dX10_power_2 : decode cX10_power 2 = .ok (.iload_n 0, 1) := by decide +kernel
theorem dX10_power_3 : decode cX10_power 3 = .ok (.istore_n 2, 1) := by decide +kernel
theorem dX10_power_4 : decode cX10_power 4 = .ok (.iload_n 2, 1) := by decide +kernel
theorem dX10_power_5 : decode cX10_power 5 = .ok (.iconst 5, 1) := by decide +kernel
theorem dX10_power_6 : decode cX10_power 6 = .ok (.if_icmp .ge 14, 3) := by decide +kernel
theorem dX10_power_9 : decode cX10_power 9 = .ok (.iload_n 1, 1) := by decide +kernel
theorem dX10_power_10 : decode cX10_power 10 = .ok (.bipush 10, 2) := by decide +kernel
theorem dX10_power_12 : decode cX10_power 12 = .ok (.imul, 1) := by decide +kernel
theorem dX10_power_13 : decode cX10_power 13 = .ok (.istore_n 1, 1) := by decide +kernel
theorem dX10_power_14 : decode cX10_power 14 = .ok (.iinc 2 1, 3) := by decide +kernel
theorem dX10_power_17 : decode cX10_power 17 = .ok (.goto (-13), 3) := by decide +kernel
theorem dX10_power_20 : decode cX10_power 20 = .ok (.iload_n 1, 1) := by decide +kernel
theorem dX10_power_21 : decode cX10_power 21 = .ok (.ireturn, 1) := by decide +kernel
set_option maxRecDepth 100000 in
set_option maxHeartbeats 4000000 in
theorem c_X10_power (l : Launch) (G : GT) (n : Nat) (h : AH) (pl : Nat) (hp : pl < 6) : Ct l yX10_power cX10_power 3 (some .int) 1 0 0 G n h [.int (nI pl)] (Rt (nI (p10 (5 - pl))) n h) := by
  refine Ct_of mX10_power.1 (Nat.le_of_ble_eq_true rfl) ?_
  intro p e s m args below meth c C hin
  refine V_Le (L' := [(0, .int (nI pl))]) rfl ?_
  refine V_iconst 1 C dX10_power_0 rfl ic1 ?_
  refine V_istore_n 2 C dX10_power_1 rfl (by decide) (L' := [(0, _), (1, _)]) rfl ?_
  refine V_iload_n 3 C dX10_power_2 rfl rfl ?_
  refine V_istore_n 4 C dX10_power_3 rfl (by decide) (L' := [(0, _), (1, _), (2, _)]) rfl ?_
  have J4 : ∀ (fuel : Nat) (i : Nat) (hi : i ≤ 5) (hq : pl ≤ i), 5 - i < fuel → V p l e (rmD 1 0 0) s m args below meth c (MQ below (Po G (Rt (nI (p10 (5 - pl))) n h)) args s 0 0 (rg G)) G 3 0 0 n h 4 [(0, .int (nI pl)), (1, .int (nI (p10 (i - pl)))), (2, .int (nI i))] [] := by
    intro fuel
    induction fuel with
    | zero => intro i hi hq hf; omega
    | succ fuel ih4 =>
      intro i hi hq hf
      refine V_iload_n 5 C dX10_power_4 rfl rfl ?_
      refine V_iconst 6 C dX10_power_5 rfl ic5 ?_
      refine V_icmp_geN 20 9 C dX10_power_6 (by decide) rfl (by omega) (by omega) (fun c6 => ?_) (fun c6 => ?_)
      · refine V_iload_n 21 C dX10_power_20 rfl rfl ?_
        refine V_ireturn C dX10_power_21 rfl rfl (by omega) (by omega) ?_
        exact (Rt_mk (by rw [show i = 5 from by omega]))
      · refine V_iload_n 10 C dX10_power_9 rfl rfl ?_
        refine V_bipush 12 C dX10_power_10 rfl bip10 ?_
        refine V_imulN 13 C dX10_power_12 rfl  ?_
        refine V_istore_n 14 C dX10_power_13 rfl (by decide) (L' := [(0, _), (1, _), (2, _)]) rfl ?_
        refine V_iinc 17 C dX10_power_14 rfl (by decide) rfl (ii1 _) (L' := [(0, _), (1, _), (2, _)]) rfl ?_
        refine V_goto 4 C dX10_power_17 (by decide) ?_
        refine V_L [0, 1, 2] rfl ?_
        rw [show p10 (i - pl) * 10 = p10 (i - pl + 1) from by simp only [p10]; omega, show i - pl + 1 = i + 1 - pl from by omega]
        exact ih4 (i + 1) (by omega) (by omega) (by omega)
  refine V_L [0, 1, 2] rfl ?_
  have e1 : p10 (pl - pl) = 1 := by rw [Nat.sub_self]; rfl
  have J := J4 (5 - pl + 1) pl (by omega) (by omega) (by omega)
  rw [e1] at J
  exact J

theorem dX10_digit_0 : decode cX10_digit 0 = .ok (.iload_n 0, 1) := by decide +kernel
theorem dX10_digit_1 : decode cX10_digit 1 = .ok (.iload_n 1, 1) := by decide +kernel
theorem dX10_digit_2 : decode cX10_digit 2 = .ok (.invokestatic 55, 3) := by decide +kernel
theorem dX10_digit_5 : decode cX10_digit 5 = .ok (.idiv, 1) := by decide +kernel
theorem dX10_digit_6 : decode cX10_digit 6 = .ok (.bipush 10, 2) := by decide +kernel
theorem dX10_digit_8 : decode cX10_digit 8 = .ok (.irem, 1) := by decide +kernel
theorem dX10_digit_9 : decode cX10_digit 9 = .ok (.ireturn, 1) := by decide +kernel
set_option maxRecDepth 100000 in
set_option maxHeartbeats 4000000 in
theorem c_X10_digit (l : Launch) (G : GT) (n : Nat) (h : AH) (nu pl : Nat) (h1 : nu < 1000000) (h2 : pl < 6) : Ct l yX10_digit cX10_digit 2 (some .int) 2 0 0 G n h [.int (nI nu), .int (nI pl)] (Rt (nI (dg nu pl)) n h) := by
  have hb := p10_le (show 5 - pl ≤ 5 by omega)
  have hb2 := p10_pos (5 - pl)
  have hq : nu / p10 (5 - pl) ≤ nu := Nat.div_le_self _ _
  refine Ct_of mX10_digit.1 (Nat.le_of_ble_eq_true rfl) ?_
  intro p e s m args below meth c C hin
  refine V_Le (L' := [(0, .int (nI nu)), (1, .int (nI pl))]) rfl ?_
  refine V_iload_n 1 C dX10_digit_0 rfl rfl ?_
  refine V_iload_n 2 C dX10_digit_1 rfl rfl ?_
  refine V_callS 5 C dX10_digit_2 rfl mX10_power tw1138 (c_X10_power l G _ _ pl h2) rfl rfl (by decide) ⟨by omega, by omega⟩ (Nat.le_of_ble_eq_true rfl) ?_
  rintro _ _ _ ⟨rfl, rfl, rfl⟩
  refine V_idivN 6 C dX10_digit_5 rfl (by omega) (by omega) (by omega) ?_
  refine V_bipush 8 C dX10_digit_6 rfl bip10 ?_
  refine V_iremN 9 C dX10_digit_8 rfl (by omega) (by omega) (by omega) ?_
  refine V_ireturn C dX10_digit_9 rfl rfl (by omega) (by omega) ?_
  exact (Rt_mk rfl)

theorem dX10_blurred_0 : decode cX10_blurred 0 = .ok (.iload_n 0, 1) := by decide +kernel
theorem dX10_blurred_1 : decode cX10_blurred 1 = .ok (.iload_n 1, 1) := by decide +kernel
theorem dX10_blurred_2 : decode cX10_blurred 2 = .ok (.invokestatic 59, 3) := by decide +kernel
theorem dX10_blurred_5 : decode cX10_blurred 5 = .ok (.bipush 9, 2) := by decide +kernel
theorem dX10_blurred_7 : decode cX10_blurred 7 = .ok (.if_icmp .ne 15, 3) := by decide +kernel
theorem dX10_blurred_10 : decode cX10_blurred 10 = .ok (.iload_n 0, 1) := by decide +kernel
theorem dX10_blurred_11 : decode cX10_blurred 11 = .ok (.bipush 9, 2) := by decide +kernel
theorem dX10_blurred_13 : decode cX10_blurred 13 = .ok (.iload_n 1, 1) := by decide +kernel
theorem dX10_blurred_14 : decode cX10_blurred 14 = .ok (.invokestatic 55, 3) := by decide +kernel
theorem dX10_blurred_17 : decode cX10_blurred 17 = .ok (.imul, 1) := by decide +kernel
theorem dX10_blurred_18 : decode cX10_blurred 18 = .ok (.isub, 1) := by decide +kernel
theorem dX10_blurred_19 : decode cX10_blurred 19 = .ok (.goto 9, 3) := by decide +kernel
theorem dX10_blurred_22 : decode cX10_blurred 22 = .ok (.iload_n 0, 1) := by decide +kernel
theorem dX10_blurred_23 : decode cX10_blurred 23 = .ok (.iload_n 1, 1) := by decide +kernel
theorem dX10_blurred_24 : decode cX10_blurred 24 = .ok (.invokestatic 55, 3) := by decide +kernel
theorem dX10_blurred_27 : decode cX10_blurred 27 = .ok (.iadd, 1) := by decide +kernel
theorem dX10_blurred_28 : decode cX10_blurred 28 = .ok (.ireturn, 1) := by decide +kernel
set_option maxRecDepth 100000 in
set_option maxHeartbeats 4000000 in
theorem c_X10_blurred (l : Launch) (G : GT) (n : Nat) (h : AH) (nu pl : Nat) (h1 : nu < 1000000) (h2 : pl < 6) : Ct l yX10_blurred cX10_blurred 2 (some .int) 3 0 0 G n h [.int (nI nu), .int (nI pl)] (Rt (nI (rz nu pl)) n h) := by
  have hb := dg_lt nu pl
  refine Ct_of mX10_blurred.1 (Nat.le_of_ble_eq_true rfl) ?_
  intro p e s m args below meth c C hin
  refine V_Le (L' := [(0, .int (nI nu)), (1, .int (nI pl))]) rfl ?_
  refine V_iload_n 1 C dX10_blurred_0 rfl rfl ?_
  refine V_iload_n 2 C dX10_blurred_1 rfl rfl ?_
  refine V_callS 5 C dX10_blurred_2 rfl mX10_digit tw1135 (c_X10_digit l G _ _ nu pl h1 h2) rfl rfl (by decide) ⟨by omega, by omega⟩ (Nat.le_of_ble_eq_true rfl) ?_
  rintro _ _ _ ⟨rfl, rfl, rfl⟩
  refine V_bipush 7 C dX10_blurred_5 rfl bip9 ?_
  refine V_icmp_neN 22 10 C dX10_blurred_7 (by decide) rfl (by omega) (by omega) (fun c7 => ?_) (fun c7 => ?_)
  · refine V_iload_n 23 C dX10_blurred_22 rfl rfl ?_
    refine V_iload_n 24 C dX10_blurred_23 rfl rfl ?_
    refine V_callS 27 C dX10_blurred_24 rfl mX10_power tw1138 (c_X10_power l G _ _ pl h2) rfl rfl (by decide) ⟨by omega, by omega⟩ (Nat.le_of_ble_eq_true rfl) ?_
    rintro _ _ _ ⟨rfl, rfl, rfl⟩
    refine V_iaddN 28 C dX10_blurred_27 rfl  ?_
    refine V_ireturn C dX10_blurred_28 rfl rfl (by omega) (by omega) ?_
    exact (Rt_mk (by unfold rz; first | rw [if_pos c7] | rw [if_neg c7]))
  · have hss := rz_sub c7
    refine V_iload_n 11 C dX10_blurred_10 rfl rfl ?_
    refine V_bipush 13 C dX10_blurred_11 rfl bip9 ?_
    refine V_iload_n 14 C dX10_blurred_13 rfl rfl ?_
    refine V_callS 17 C dX10_blurred_14 rfl mX10_power tw1138 (c_X10_power l G _ _ pl h2) rfl rfl (by decide) ⟨by omega, by omega⟩ (Nat.le_of_ble_eq_true rfl) ?_
    rintro _ _ _ ⟨rfl, rfl, rfl⟩
    refine V_imulN 18 C dX10_blurred_17 rfl  ?_
    refine V_isubN 19 C dX10_blurred_18 rfl (by omega) ?_
    refine V_goto 28 C dX10_blurred_19 (by decide) ?_
    refine V_ireturn C dX10_blurred_28 rfl rfl (by omega) (by omega) ?_
    exact (Rt_mk (by unfold rz; first | rw [if_pos c7] | rw [if_neg c7]))

theorem dX10_readWith_0 : decode cX10_readWith 0 = .ok (.iload_n 1, 1) := by decide +kernel
theorem dX10_readWith_1 : decode cX10_readWith 1 = .ok (.ifCond .ne 5, 3) := by decide +kernel
theorem dX10_readWith_4 : decode cX10_readWith 4 = .ok (.iconst (-1), 1) := by decide +kernel
theorem dX10_readWith_5 : decode cX10_readWith 5 = .ok (.ireturn, 1) := by decide +kernel
theorem dX10_readWith_6 : decode cX10_readWith 6 = .ok (.iload_n 1, 1) := by decide +kernel
theorem dX10_readWith_7 : decode cX10_readWith 7 = .ok (.bipush 40, 2) := by decide +kernel
theorem dX10_readWith_9 : decode cX10_readWith 9 = .ok (.if_icmp .lt 7, 3) := by decide +kernel
theorem dX10_readWith_12 : decode cX10_readWith 12 = .ok (.iload_n 0, 1) := by decide +kernel
theorem dX10_readWith_13 : decode cX10_readWith 13 = .ok (.goto 11, 3) := by decide +kernel
theorem dX10_readWith_16 : decode cX10_readWith 16 = .ok (.iload_n 0, 1) := by decide +kernel
theorem dX10_readWith_17 : decode cX10_readWith 17 = .ok (.iload_n 1, 1) := by decide +kernel
theorem dX10_readWith_18 : decode cX10_readWith 18 = .ok (.bipush 6, 2) := by decide +kernel
theorem dX10_readWith_20 : decode cX10_readWith 20 = .ok (.irem, 1) := by decide +kernel
theorem dX10_readWith_21 : decode cX10_readWith 21 = .ok (.invokestatic 63, 3) := by decide +kernel
theorem dX10_readWith_24 : decode cX10_readWith 24 = .ok (.istore_n 2, 1) := by decide +kernel
theorem dX10_readWith_25 : decode cX10_readWith 25 = .ok (.iload_n 1, 1) := by decide +kernel
theorem dX10_readWith_26 : decode cX10_readWith 26 = .ok (.bipush 20, 2) := by decide +kernel
theorem dX10_readWith_28 : decode cX10_readWith 28 = .ok (.if_icmp .lt 7, 3) := by decide +kernel
theorem dX10_readWith_31 : decode cX10_readWith 31 = .ok (.iload_n 2, 1) := by decide +kernel
theorem dX10_readWith_32 : decode cX10_readWith 32 = .ok (.goto 13, 3) := by decide +kernel
theorem dX10_readWith_35 : decode cX10_readWith 35 = .ok (.iload_n 2, 1) := by decide +kernel
theorem dX10_readWith_36 : decode cX10_readWith 36 = .ok (.iload_n 1, 1) := by decide +kernel
theorem dX10_readWith_37 : decode cX10_readWith 37 = .ok (.iconst 2, 1) := by decide +kernel
theorem dX10_readWith_38 : decode cX10_readWith 38 = .ok (.iadd, 1) := by decide +kernel
theorem dX10_readWith_39 : decode cX10_readWith 39 = .ok (.bipush 6, 2) := by decide +kernel
theorem dX10_readWith_41 : decode cX10_readWith 41 = .ok (.irem, 1) := by decide +kernel
theorem dX10_readWith_42 : decode cX10_readWith 42 = .ok (.invokestatic 63, 3) := by decide +kernel
theorem dX10_readWith_45 : decode cX10_readWith 45 = .ok (.ireturn, 1) := by decide +kernel
set_option maxRecDepth 100000 in
set_option maxHeartbeats 4000000 in
theorem c_X10_readWith (l : Launch) (G : GT) (n : Nat) (h : AH) (dt k : Nat) (h1 : dt < 1000000) (h2 : k ≤ 99) : Ct l yX10_readWith cX10_readWith 3 (some .int) 4 0 0 G n h [.int (nI dt), .int (nI k)] (Rt (nI (rdw dt k)) n h) := by
  have hm1 : k % 6 < 6 := Nat.mod_lt _ (by decide)
  have hm2 : (k + 2) % 6 < 6 := Nat.mod_lt _ (by decide)
  refine Ct_of mX10_readWith.1 (Nat.le_of_ble_eq_true rfl) ?_
  intro p e s m args below meth c C hin
  refine V_Le (L' := [(0, .int (nI dt)), (1, .int (nI k))]) rfl ?_
  refine V_iload_n 1 C dX10_readWith_0 rfl rfl ?_
  refine V_if_neN 6 4 C dX10_readWith_1 (by decide) rfl (by omega) (fun c1 => ?_) (fun c1 => ?_)
  · refine V_iload_n 7 C dX10_readWith_6 rfl rfl ?_
    refine V_bipush 9 C dX10_readWith_7 rfl bip40 ?_
    refine V_icmp_ltN 16 12 C dX10_readWith_9 (by decide) rfl (by omega) (by omega) (fun c9 => ?_) (fun c9 => ?_)
    · refine V_iload_n 17 C dX10_readWith_16 rfl rfl ?_
      refine V_iload_n 18 C dX10_readWith_17 rfl rfl ?_
      refine V_bipush 20 C dX10_readWith_18 rfl bip6 ?_
      refine V_iremN 21 C dX10_readWith_20 rfl (by omega) (by omega) (by omega) ?_
      refine V_callS 24 C dX10_readWith_21 rfl mX10_blurred tw1132 (c_X10_blurred l G _ _ dt (k % 6) h1 hm1) rfl rfl (by decide) ⟨by omega, by omega⟩ (Nat.le_of_ble_eq_true rfl) ?_
      rintro _ _ _ ⟨rfl, rfl, rfl⟩
      refine V_istore_n 25 C dX10_readWith_24 rfl (by decide) (L' := [(0, _), (1, _), (2, _)]) rfl ?_
      refine V_iload_n 26 C dX10_readWith_25 rfl rfl ?_
      refine V_bipush 28 C dX10_readWith_26 rfl bip20 ?_
      refine V_icmp_ltN 35 31 C dX10_readWith_28 (by decide) rfl (by omega) (by omega) (fun c28 => ?_) (fun c28 => ?_)
      · refine V_iload_n 36 C dX10_readWith_35 rfl rfl ?_
        refine V_iload_n 37 C dX10_readWith_36 rfl rfl ?_
        refine V_iconst 38 C dX10_readWith_37 rfl ic2 ?_
        refine V_iaddN 39 C dX10_readWith_38 rfl  ?_
        refine V_bipush 41 C dX10_readWith_39 rfl bip6 ?_
        refine V_iremN 42 C dX10_readWith_41 rfl (by omega) (by omega) (by omega) ?_
        refine V_callS 45 C dX10_readWith_42 rfl mX10_blurred tw1132 (c_X10_blurred l G _ _ _ ((k + 2) % 6) (by first | exact h1 | exact rz_lt h1 hm1) hm2) rfl rfl (by decide) ⟨by omega, by omega⟩ (Nat.le_of_ble_eq_true rfl) ?_
        rintro _ _ _ ⟨rfl, rfl, rfl⟩
        refine V_ireturn C dX10_readWith_45 rfl rfl (by omega) (by omega) ?_
        exact (Rt_mk (by first | (exfalso; omega) | unfold rdw; rw [if_neg c1]; first | rw [if_pos c9] | (rw [if_neg (by omega)]; first | rw [if_pos c28] | rw [if_neg (by omega)])))
      · refine V_iload_n 32 C dX10_readWith_31 rfl rfl ?_
        refine V_goto 45 C dX10_readWith_32 (by decide) ?_
        refine V_ireturn C dX10_readWith_45 rfl rfl (by omega) (by omega) ?_
        exact (Rt_mk (by first | (exfalso; omega) | unfold rdw; rw [if_neg c1]; first | rw [if_pos c9] | (rw [if_neg (by omega)]; first | rw [if_pos c28] | rw [if_neg (by omega)])))
    · refine V_iload_n 13 C dX10_readWith_12 rfl rfl ?_
      refine V_goto 24 C dX10_readWith_13 (by decide) ?_
      refine V_istore_n 25 C dX10_readWith_24 rfl (by decide) (L' := [(0, _), (1, _), (2, _)]) rfl ?_
      refine V_iload_n 26 C dX10_readWith_25 rfl rfl ?_
      refine V_bipush 28 C dX10_readWith_26 rfl bip20 ?_
      refine V_icmp_ltN 35 31 C dX10_readWith_28 (by decide) rfl (by omega) (by omega) (fun c28 => ?_) (fun c28 => ?_)
      · refine V_iload_n 36 C dX10_readWith_35 rfl rfl ?_
        refine V_iload_n 37 C dX10_readWith_36 rfl rfl ?_
        refine V_iconst 38 C dX10_readWith_37 rfl ic2 ?_
        refine V_iaddN 39 C dX10_readWith_38 rfl  ?_
        refine V_bipush 41 C dX10_readWith_39 rfl bip6 ?_
        refine V_iremN 42 C dX10_readWith_41 rfl (by omega) (by omega) (by omega) ?_
        refine V_callS 45 C dX10_readWith_42 rfl mX10_blurred tw1132 (c_X10_blurred l G _ _ _ ((k + 2) % 6) (by first | exact h1 | exact rz_lt h1 hm1) hm2) rfl rfl (by decide) ⟨by omega, by omega⟩ (Nat.le_of_ble_eq_true rfl) ?_
        rintro _ _ _ ⟨rfl, rfl, rfl⟩
        refine V_ireturn C dX10_readWith_45 rfl rfl (by omega) (by omega) ?_
        exact (Rt_mk (by first | (exfalso; omega) | unfold rdw; rw [if_neg c1]; first | rw [if_pos c9] | (rw [if_neg (by omega)]; first | rw [if_pos c28] | rw [if_neg (by omega)])))
      · refine V_iload_n 32 C dX10_readWith_31 rfl rfl ?_
        refine V_goto 45 C dX10_readWith_32 (by decide) ?_
        refine V_ireturn C dX10_readWith_45 rfl rfl (by omega) (by omega) ?_
        exact (Rt_mk (by first | (exfalso; omega) | unfold rdw; rw [if_neg c1]; first | rw [if_pos c9] | (rw [if_neg (by omega)]; first | rw [if_pos c28] | rw [if_neg (by omega)])))
  · refine V_iconst 5 C dX10_readWith_4 rfl icm1 ?_
    refine V_ireturn C dX10_readWith_5 rfl rfl (by omega) (by omega) ?_
    exact (Rt_mk (by subst c1; rfl))

theorem dX10_readOf_0 : decode cX10_readOf 0 = .ok (.aload_n 0, 1) := by decide +kernel
theorem dX10_readOf_1 : decode cX10_readOf 1 = .ok (.iload_n 1, 1) := by decide +kernel
theorem dX10_readOf_2 : decode cX10_readOf 2 = .ok (.iconst 1, 1) := by decide +kernel
theorem dX10_readOf_3 : decode cX10_readOf 3 = .ok (.invokestatic 48, 3) := by decide +kernel
theorem dX10_readOf_6 : decode cX10_readOf 6 = .ok (.aload_n 0, 1) := by decide +kernel
theorem dX10_readOf_7 : decode cX10_readOf 7 = .ok (.iload_n 1, 1) := by decide +kernel
theorem dX10_readOf_8 : decode cX10_readOf 8 = .ok (.iconst 2, 1) := by decide +kernel
theorem dX10_readOf_9 : decode cX10_readOf 9 = .ok (.invokestatic 48, 3) := by decide +kernel
theorem dX10_readOf_12 : decode cX10_readOf 12 = .ok (.invokestatic 66, 3) := by decide +kernel
theorem dX10_readOf_15 : decode cX10_readOf 15 = .ok (.ireturn, 1) := by decide +kernel
set_option maxRecDepth 100000 in
set_option maxHeartbeats 4000000 in
theorem c_X10_readOf (l : Launch) (G : GT) (n : Nat) (h : AH) (a : Nat) (y : Nat → Nat) (hx : Row a y h) (hI : Iv y) (s9 : Nat) (hs : s9 < y 4) : Ct l yX10_readOf cX10_readOf 2 (some .int) 5 0 0 G n h [.ref a, .int (nI s9)] (Rt (nI (rof y s9)) n h) := by
  obtain ⟨⟨i0, i1, i2, i3, i4⟩, iR, iU, iM, iS⟩ := id hI
  obtain ⟨s0, s1, s2, s3, s4, s5⟩ := iS s9 hs
  unfold NO at s4
  refine Ct_of mX10_readOf.1 (Nat.le_of_ble_eq_true rfl) ?_
  intro p e s m args below meth c C hin
  refine V_Le (L' := [(0, .ref a), (1, .int (nI s9))]) rfl ?_
  refine V_aload_n 1 C dX10_readOf_0 rfl rfl ?_
  refine V_iload_n 2 C dX10_readOf_1 rfl rfl ?_
  refine V_iconst 3 C dX10_readOf_2 rfl ic1 ?_
  refine V_callS 6 C dX10_readOf_3 rfl mX10_ofSheet tw1082 (c_X10_ofSheet l G _ _ a y hx s9 1 (58 + 6 * s9 + 1) rfl (by omega) (by omega) (by omega)) rfl rfl (by decide) ⟨by omega, by omega⟩ (Nat.le_of_ble_eq_true rfl) ?_
  rintro _ _ _ ⟨rfl, rfl, rfl⟩
  refine V_aload_n 7 C dX10_readOf_6 rfl rfl ?_
  refine V_iload_n 8 C dX10_readOf_7 rfl rfl ?_
  refine V_iconst 9 C dX10_readOf_8 rfl ic2 ?_
  refine V_callS 12 C dX10_readOf_9 rfl mX10_ofSheet tw1082 (c_X10_ofSheet l G _ _ a y hx s9 2 (58 + 6 * s9 + 2) rfl (by omega) (by omega) (by omega)) rfl rfl (by decide) ⟨by omega, by omega⟩ (Nat.le_of_ble_eq_true rfl) ?_
  rintro _ _ _ ⟨rfl, rfl, rfl⟩
  refine V_callS 15 C dX10_readOf_12 rfl mX10_readWith tw1129 (c_X10_readWith l G _ _ _ _ (by omega) (by omega)) rfl rfl (by decide) ⟨by omega, by omega⟩ (Nat.le_of_ble_eq_true rfl) ?_
  rintro _ _ _ ⟨rfl, rfl, rfl⟩
  refine V_ireturn C dX10_readOf_15 rfl rfl (by omega) (by omega) ?_
  exact (Rt_mk rfl)

theorem dX10_inkIn_0 : decode cX10_inkIn 0 = .ok (.aload_n 0, 1) := by decide +kernel
theorem dX10_inkIn_1 : decode cX10_inkIn 1 = .ok (.iload_n 1, 1) := by decide +kernel
theorem dX10_inkIn_2 : decode cX10_inkIn 2 = .ok (.iconst 2, 1) := by decide +kernel
theorem dX10_inkIn_3 : decode cX10_inkIn 3 = .ok (.invokestatic 48, 3) := by decide +kernel
theorem dX10_inkIn_6 : decode cX10_inkIn 6 = .ok (.iload_n 2, 1) := by decide +kernel
theorem dX10_inkIn_7 : decode cX10_inkIn 7 = .ok (.aload_n 0, 1) := by decide +kernel
theorem dX10_inkIn_8 : decode cX10_inkIn 8 = .ok (.iload_n 1, 1) := by decide +kernel
theorem dX10_inkIn_9 : decode cX10_inkIn 9 = .ok (.iconst 3, 1) := by decide +kernel
theorem dX10_inkIn_10 : decode cX10_inkIn 10 = .ok (.invokestatic 48, 3) := by decide +kernel
theorem dX10_inkIn_13 : decode cX10_inkIn 13 = .ok (.imul, 1) := by decide +kernel
theorem dX10_inkIn_14 : decode cX10_inkIn 14 = .ok (.isub, 1) := by decide +kernel
theorem dX10_inkIn_15 : decode cX10_inkIn 15 = .ok (.istore_n 3, 1) := by decide +kernel
theorem dX10_inkIn_16 : decode cX10_inkIn 16 = .ok (.iload_n 3, 1) := by decide +kernel
theorem dX10_inkIn_17 : decode cX10_inkIn 17 = .ok (.ifCond .ge 7, 3) := by decide +kernel
theorem dX10_inkIn_20 : decode cX10_inkIn 20 = .ok (.iconst 0, 1) := by decide +kernel
theorem dX10_inkIn_21 : decode cX10_inkIn 21 = .ok (.goto 4, 3) := by decide +kernel
theorem dX10_inkIn_24 : decode cX10_inkIn 24 = .ok (.iload_n 3, 1) := by decide +kernel
theorem dX10_inkIn_25 : decode cX10_inkIn 25 = .ok (.ireturn, 1) := by decide +kernel
set_option maxRecDepth 100000 in
set_option maxHeartbeats 4000000 in
theorem c_X10_inkIn (l : Launch) (G : GT) (n : Nat) (h : AH) (a : Nat) (y : Nat → Nat) (hx : Row a y h) (s9 k : Nat) (hs : s9 < 12) (s2 : y (58 + 6 * s9 + 2) ≤ 99) (s3 : y (58 + 6 * s9 + 3) ≤ 9) (hk : k ≤ 1000) : Ct l yX10_inkIn cX10_inkIn 4 (some .int) 2 0 0 G n h [.ref a, .int (nI s9), .int (nI k)] (Rt (nI (ink y s9 k)) n h) := by
  have hm : k * y (58 + 6 * s9 + 3) ≤ 1000 * 9 := Nat.mul_le_mul hk (by omega)
  refine Ct_of mX10_inkIn.1 (Nat.le_of_ble_eq_true rfl) ?_
  intro p e s m args below meth c C hin
  refine V_Le (L' := [(0, .ref a), (1, .int (nI s9)), (2, .int (nI k))]) rfl ?_
  refine V_aload_n 1 C dX10_inkIn_0 rfl rfl ?_
  refine V_iload_n 2 C dX10_inkIn_1 rfl rfl ?_
  refine V_iconst 3 C dX10_inkIn_2 rfl ic2 ?_
  refine V_callS 6 C dX10_inkIn_3 rfl mX10_ofSheet tw1082 (c_X10_ofSheet l G _ _ a y hx s9 2 (58 + 6 * s9 + 2) rfl (by omega) (by omega) (by omega)) rfl rfl (by decide) ⟨by omega, by omega⟩ (Nat.le_of_ble_eq_true rfl) ?_
  rintro _ _ _ ⟨rfl, rfl, rfl⟩
  refine V_iload_n 7 C dX10_inkIn_6 rfl rfl ?_
  refine V_aload_n 8 C dX10_inkIn_7 rfl rfl ?_
  refine V_iload_n 9 C dX10_inkIn_8 rfl rfl ?_
  refine V_iconst 10 C dX10_inkIn_9 rfl ic3 ?_
  refine V_callS 13 C dX10_inkIn_10 rfl mX10_ofSheet tw1082 (c_X10_ofSheet l G _ _ a y hx s9 3 (58 + 6 * s9 + 3) rfl (by omega) (by omega) (by omega)) rfl rfl (by decide) ⟨by omega, by omega⟩ (Nat.le_of_ble_eq_true rfl) ?_
  rintro _ _ _ ⟨rfl, rfl, rfl⟩
  refine V_imulN 14 C dX10_inkIn_13 rfl  ?_
  refine V_isub 15 C dX10_inkIn_14 rfl  ?_
  refine V_istore_n 16 C dX10_inkIn_15 rfl (by decide) (L' := [(0, _), (1, _), (2, _), (3, _)]) rfl ?_
  refine V_iload_n 17 C dX10_inkIn_16 rfl rfl ?_
  refine V_if_ge 24 20 C dX10_inkIn_17 (by decide) rfl  (fun c17 => ?_) (fun c17 => ?_)
  · rw [Int32.le_iff_toInt_le, pk_sub_toInt (by omega) (by omega), Int32.toInt_zero] at c17
    refine V_iload_n 25 C dX10_inkIn_24 rfl rfl ?_
    refine V_ireturn C dX10_inkIn_25 rfl rfl (by omega) (by omega) ?_
    first | exact Rt_mk (by unfold ink; omega) | exact Rt_mk32 (by rw [pk_sub (by omega)]; rfl)
  · rw [Int32.le_iff_toInt_le, pk_sub_toInt (by omega) (by omega), Int32.toInt_zero] at c17
    refine V_iconst 21 C dX10_inkIn_20 rfl ic0 ?_
    refine V_goto 25 C dX10_inkIn_21 (by decide) ?_
    refine V_ireturn C dX10_inkIn_25 rfl rfl (by omega) (by omega) ?_
    first | exact Rt_mk (by unfold ink; omega) | exact Rt_mk32 (by rw [pk_sub (by omega)]; rfl)

theorem dX10_errorsLater_0 : decode cX10_errorsLater 0 = .ok (.aload_n 0, 1) := by decide +kernel
theorem dX10_errorsLater_1 : decode cX10_errorsLater 1 = .ok (.iload_n 1, 1) := by decide +kernel
theorem dX10_errorsLater_2 : decode cX10_errorsLater 2 = .ok (.iconst 1, 1) := by decide +kernel
theorem dX10_errorsLater_3 : decode cX10_errorsLater 3 = .ok (.invokestatic 48, 3) := by decide +kernel
theorem dX10_errorsLater_6 : decode cX10_errorsLater 6 = .ok (.aload_n 0, 1) := by decide +kernel
theorem dX10_errorsLater_7 : decode cX10_errorsLater 7 = .ok (.iload_n 1, 1) := by decide +kernel
theorem dX10_errorsLater_8 : decode cX10_errorsLater 8 = .ok (.iload_n 2, 1) := by decide +kernel
theorem dX10_errorsLater_9 : decode cX10_errorsLater 9 = .ok (.invokestatic 69, 3) := by decide +kernel
theorem dX10_errorsLater_12 : decode cX10_errorsLater 12 = .ok (.invokestatic 66, 3) := by decide +kernel
theorem dX10_errorsLater_15 : decode cX10_errorsLater 15 = .ok (.istore_n 3, 1) := by decide +kernel
theorem dX10_errorsLater_16 : decode cX10_errorsLater 16 = .ok (.iconst 0, 1) := by decide +kernel
theorem dX10_errorsLater_17 : decode cX10_errorsLater 17 = .ok (.istore 4, 2) := by decide +kernel
theorem dX10_errorsLater_19 : decode cX10_errorsLater 19 = .ok (.iconst 0, 1) := by decide +kernel
theorem dX10_errorsLater_20 : decode cX10_errorsLater 20 = .ok (.istore 5, 2) := by decide +kernel
theorem dX10_errorsLater_22 : decode cX10_errorsLater 22 = .ok (.iload 5, 2) := by decide +kernel
theorem dX10_errorsLater_24 : decode cX10_errorsLater 24 = .ok (.bipush 6, 2) := by decide +kernel
theorem dX10_errorsLater_26 : decode cX10_errorsLater 26 = .ok (.if_icmp .ge 49, 3) := by decide +kernel
theorem dX10_errorsLater_29 : decode cX10_errorsLater 29 = .ok (.iload 4, 2) := by decide +kernel
theorem dX10_errorsLater_31 : decode cX10_errorsLater 31 = .ok (.iload_n 3, 1) := by decide +kernel
theorem dX10_errorsLater_32 : decode cX10_errorsLater 32 = .ok (.iconst (-1), 1) := by decide +kernel
theorem dX10_errorsLater_33 : decode cX10_errorsLater 33 = .ok (.if_icmp .eq 28, 3) := by decide +kernel
theorem dX10_errorsLater_36 : decode cX10_errorsLater 36 = .ok (.iload_n 3, 1) := by decide +kernel
theorem dX10_errorsLater_37 : decode cX10_errorsLater 37 = .ok (.iload 5, 2) := by decide +kernel
theorem dX10_errorsLater_39 : decode cX10_errorsLater 39 = .ok (.invokestatic 59, 3) := by decide +kernel
theorem dX10_errorsLater_42 : decode cX10_errorsLater 42 = .ok (.aload_n 0, 1) := by decide +kernel
theorem dX10_errorsLater_43 : decode cX10_errorsLater 43 = .ok (.bipush 52, 2) := by decide +kernel
theorem dX10_errorsLater_45 : decode cX10_errorsLater 45 = .ok (.aload_n 0, 1) := by decide +kernel
theorem dX10_errorsLater_46 : decode cX10_errorsLater 46 = .ok (.iload_n 1, 1) := by decide +kernel
theorem dX10_errorsLater_47 : decode cX10_errorsLater 47 = .ok (.iconst 0, 1) := by decide +kernel
theorem dX10_errorsLater_48 : decode cX10_errorsLater 48 = .ok (.invokestatic 48, 3) := by decide +kernel
theorem dX10_errorsLater_51 : decode cX10_errorsLater 51 = .ok (.iadd, 1) := by decide +kernel
theorem dX10_errorsLater_52 : decode cX10_errorsLater 52 = .ok (.iaload, 1) := by decide +kernel
theorem dX10_errorsLater_53 : decode cX10_errorsLater 53 = .ok (.iload 5, 2) := by decide +kernel
theorem dX10_errorsLater_55 : decode cX10_errorsLater 55 = .ok (.invokestatic 59, 3) := by decide +kernel
theorem dX10_errorsLater_58 : decode cX10_errorsLater 58 = .ok (.if_icmp .eq 7, 3) := by decide +kernel
theorem dX10_errorsLater_61 : decode cX10_errorsLater 61 = .ok (.iconst 1, 1) := by decide +kernel
theorem dX10_errorsLater_62 : decode cX10_errorsLater 62 = .ok (.goto 4, 3) := by decide +kernel
theorem dX10_errorsLater_65 : decode cX10_errorsLater 65 = .ok (.iconst 0, 1) := by decide +kernel
theorem dX10_errorsLater_66 : decode cX10_errorsLater 66 = .ok (.iadd, 1) := by decide +kernel
theorem dX10_errorsLater_67 : decode cX10_errorsLater 67 = .ok (.istore 4, 2) := by decide +kernel
theorem dX10_errorsLater_69 : decode cX10_errorsLater 69 = .ok (.iinc 5 1, 3) := by decide +kernel
theorem dX10_errorsLater_72 : decode cX10_errorsLater 72 = .ok (.goto (-50), 3) := by decide +kernel
theorem dX10_errorsLater_75 : decode cX10_errorsLater 75 = .ok (.iload 4, 2) := by decide +kernel
theorem dX10_errorsLater_77 : decode cX10_errorsLater 77 = .ok (.ireturn, 1) := by decide +kernel
set_option maxRecDepth 100000 in
set_option maxHeartbeats 4000000 in
theorem c_X10_errorsLater (l : Launch) (G : GT) (n : Nat) (h : AH) (a : Nat) (y : Nat → Nat) (hx : Row a y h) (hI : Iv y) (s9 k : Nat) (hs : s9 < y 4) (hk : k ≤ 1000) : Ct l yX10_errorsLater cX10_errorsLater 6 (some .int) 5 0 0 G n h [.ref a, .int (nI s9), .int (nI k)] (Rt (nI (ers y s9 k)) n h) := by
  obtain ⟨⟨i0, i1, i2, i3, i4⟩, iR, iU, iM, iS⟩ := id hI
  obtain ⟨s0, s1, s2, s3, s4, s5⟩ := iS s9 hs
  unfold NO at s4
  have hm := iM (y (58 + 6 * s9)) s0
  have hik : ink y s9 k ≤ 99 := by unfold ink; omega
  have hrb := rdw_b (y (58 + 6 * s9 + 1)) (ink y s9 k) s1
  have hers : ers y s9 k = errk (rdw (y (58 + 6 * s9 + 1)) (ink y s9 k)) (y (52 + y (58 + 6 * s9))) 6 := rfl
  obtain ⟨rd, hrd⟩ : ∃ rd, rdw (y (58 + 6 * s9 + 1)) (ink y s9 k) = rd := ⟨_, rfl⟩
  obtain ⟨me, hme⟩ : ∃ me, y (52 + y (58 + 6 * s9)) = me := ⟨_, rfl⟩
  rw [hrd] at hrb hers
  rw [hme] at hm hers
  refine Ct_of mX10_errorsLater.1 (Nat.le_of_ble_eq_true rfl) ?_
  intro p e s m args below meth c C hin
  refine V_Le (L' := [(0, .ref a), (1, .int (nI s9)), (2, .int (nI k))]) rfl ?_
  refine V_aload_n 1 C dX10_errorsLater_0 rfl rfl ?_
  refine V_iload_n 2 C dX10_errorsLater_1 rfl rfl ?_
  refine V_iconst 3 C dX10_errorsLater_2 rfl ic1 ?_
  refine V_callS 6 C dX10_errorsLater_3 rfl mX10_ofSheet tw1082 (c_X10_ofSheet l G _ _ a y hx s9 1 (58 + 6 * s9 + 1) rfl (by omega) (by omega) (by omega)) rfl rfl (by decide) ⟨by omega, by omega⟩ (Nat.le_of_ble_eq_true rfl) ?_
  rintro _ _ _ ⟨rfl, rfl, rfl⟩
  refine V_aload_n 7 C dX10_errorsLater_6 rfl rfl ?_
  refine V_iload_n 8 C dX10_errorsLater_7 rfl rfl ?_
  refine V_iload_n 9 C dX10_errorsLater_8 rfl rfl ?_
  refine V_callS 12 C dX10_errorsLater_9 rfl mX10_inkIn tw1147 (c_X10_inkIn l G _ _ a y hx s9 k (by omega) s2 s3 hk) rfl rfl (by decide) ⟨by omega, by omega⟩ (Nat.le_of_ble_eq_true rfl) ?_
  rintro _ _ _ ⟨rfl, rfl, rfl⟩
  refine V_callS 15 C dX10_errorsLater_12 rfl mX10_readWith tw1129 (c_X10_readWith l G _ _ _ _ s1 hik) rfl rfl (by decide) ⟨by omega, by omega⟩ (Nat.le_of_ble_eq_true rfl) ?_
  rintro _ _ _ ⟨rfl, rfl, rfl⟩
  rw [hrd]
  refine V_istore_n 16 C dX10_errorsLater_15 rfl (by decide) (L' := [(0, _), (1, _), (2, _), (3, _)]) rfl ?_
  refine V_iconst 17 C dX10_errorsLater_16 rfl ic0 ?_
  refine V_istore 19 C dX10_errorsLater_17 rfl (by decide) (L' := [(0, _), (1, _), (2, _), (3, _), (4, _)]) rfl ?_
  refine V_iconst 20 C dX10_errorsLater_19 rfl ic0 ?_
  refine V_istore 22 C dX10_errorsLater_20 rfl (by decide) (L' := [(0, _), (1, _), (2, _), (3, _), (4, _), (5, _)]) rfl ?_
  have J22 : ∀ (fuel : Nat) (i q : Nat) (hi : i ≤ 6) (hq : q = errk rd me i), 6 - i < fuel → V p l e (rmD 5 0 0) s m args below meth c (MQ below (Po G (Rt (nI (ers y s9 k)) n h)) args s 0 0 (rg G)) G 6 0 0 n h 22 [(0, .ref a), (1, .int (nI s9)), (2, .int (nI k)), (3, .int (nI rd)), (4, .int (nI q)), (5, .int (nI i))] [] := by
    intro fuel
    induction fuel with
    | zero => intro i q hi hq hf; omega
    | succ fuel ih22 =>
      intro i q hi hq hf
      refine V_iload 24 C dX10_errorsLater_22 rfl rfl ?_
      refine V_bipush 26 C dX10_errorsLater_24 rfl bip6 ?_
      refine V_icmp_geN 75 29 C dX10_errorsLater_26 (by decide) rfl (by omega) (by omega) (fun c26 => ?_) (fun c26 => ?_)
      · refine V_iload 77 C dX10_errorsLater_75 rfl rfl ?_
        refine V_ireturn C dX10_errorsLater_77 rfl rfl (by omega) (by omega) ?_
        exact (Rt_mk (by rw [hers, hq, show i = 6 from by omega]))
      · refine V_iload 31 C dX10_errorsLater_29 rfl rfl ?_
        refine V_iload_n 32 C dX10_errorsLater_31 rfl rfl ?_
        refine V_iconst 33 C dX10_errorsLater_32 rfl icm1 ?_
        refine V_icmp_eqN 61 36 C dX10_errorsLater_33 (by decide) rfl (by omega) (by omega) (fun c33 => ?_) (fun c33 => ?_)
        · have hz : errk rd me i + 1 = errk rd me (i + 1) := errk_t i (Or.inl (c33.trans NO_eq.symm))
          refine V_iconst 62 C dX10_errorsLater_61 rfl ic1 ?_
          refine V_goto 66 C dX10_errorsLater_62 (by decide) ?_
          refine V_iaddN 67 C dX10_errorsLater_66 rfl  ?_
          refine V_istore 69 C dX10_errorsLater_67 rfl (by decide) (L' := [(0, _), (1, _), (2, _), (3, _), (4, _), (5, _)]) rfl ?_
          refine V_iinc 72 C dX10_errorsLater_69 rfl (by decide) rfl (ii1 _) (L' := [(0, _), (1, _), (2, _), (3, _), (4, _), (5, _)]) rfl ?_
          refine V_goto 22 C dX10_errorsLater_72 (by decide) ?_
          refine V_L [0, 1, 2, 3, 4, 5] rfl ?_
          exact ih22 (i + 1) _ (by omega) (by rw [hq]; exact hz) (by omega)
        · have hr6 : rd < 1000000 := by rw [← hrd]; exact rdw_lt s1 (fun z => c33 (by rw [← hrd, z, rdw_0, NO_eq]))
          refine V_iload_n 37 C dX10_errorsLater_36 rfl rfl ?_
          refine V_iload 39 C dX10_errorsLater_37 rfl rfl ?_
          refine V_callS 42 C dX10_errorsLater_39 rfl mX10_digit tw1135 (c_X10_digit l G _ _ rd i hr6 (by omega)) rfl rfl (by decide) ⟨by omega, by omega⟩ (Nat.le_of_ble_eq_true rfl) ?_
          rintro _ _ _ ⟨rfl, rfl, rfl⟩
          refine V_aload_n 43 C dX10_errorsLater_42 rfl rfl ?_
          refine V_bipush 45 C dX10_errorsLater_43 rfl bip52 ?_
          refine V_aload_n 46 C dX10_errorsLater_45 rfl rfl ?_
          refine V_iload_n 47 C dX10_errorsLater_46 rfl rfl ?_
          refine V_iconst 48 C dX10_errorsLater_47 rfl ic0 ?_
          refine V_callS 51 C dX10_errorsLater_48 rfl mX10_ofSheet tw1082 (c_X10_ofSheet l G _ _ a y hx s9 0 (58 + 6 * s9) rfl (by omega) (by omega) (by omega)) rfl rfl (by decide) ⟨by omega, by omega⟩ (Nat.le_of_ble_eq_true rfl) ?_
          rintro _ _ _ ⟨rfl, rfl, rfl⟩
          refine V_iaddN 52 C dX10_errorsLater_51 rfl  ?_
          refine V_iald (j := 52 + y (58 + 6 * s9)) 53 C dX10_errorsLater_52 rfl hx rfl (by omega) (by omega) ?_
          show V _ _ _ _ _ _ _ _ _ _ _ _ _ _ _ _ _ _ _ (.int (nI (y (52 + y (58 + 6 * s9)))) :: _)
          rw [hme]
          refine V_iload 55 C dX10_errorsLater_53 rfl rfl ?_
          refine V_callS 58 C dX10_errorsLater_55 rfl mX10_digit tw1135 (c_X10_digit l G _ _ me i hm (by omega)) rfl rfl (by decide) ⟨by omega, by omega⟩ (Nat.le_of_ble_eq_true rfl) ?_
          rintro _ _ _ ⟨rfl, rfl, rfl⟩
          refine V_icmp_eqN 65 61 C dX10_errorsLater_58 (by decide) rfl (by have := dg_lt rd i; omega) (by have := dg_lt me i; omega) (fun c58 => ?_) (fun c58 => ?_)
          · have hz : errk rd me i + 0 = errk rd me (i + 1) := errk_f i (fun z => c33 (z.trans NO_eq)) c58
            refine V_iconst 66 C dX10_errorsLater_65 rfl ic0 ?_
            refine V_iaddN 67 C dX10_errorsLater_66 rfl  ?_
            refine V_istore 69 C dX10_errorsLater_67 rfl (by decide) (L' := [(0, _), (1, _), (2, _), (3, _), (4, _), (5, _)]) rfl ?_
            refine V_iinc 72 C dX10_errorsLater_69 rfl (by decide) rfl (ii1 _) (L' := [(0, _), (1, _), (2, _), (3, _), (4, _), (5, _)]) rfl ?_
            refine V_goto 22 C dX10_errorsLater_72 (by decide) ?_
            refine V_L [0, 1, 2, 3, 4, 5] rfl ?_
            exact ih22 (i + 1) _ (by omega) (by rw [hq]; exact hz) (by omega)
          · have hz : errk rd me i + 1 = errk rd me (i + 1) := errk_t i (Or.inr c58)
            refine V_iconst 62 C dX10_errorsLater_61 rfl ic1 ?_
            refine V_goto 66 C dX10_errorsLater_62 (by decide) ?_
            refine V_iaddN 67 C dX10_errorsLater_66 rfl  ?_
            refine V_istore 69 C dX10_errorsLater_67 rfl (by decide) (L' := [(0, _), (1, _), (2, _), (3, _), (4, _), (5, _)]) rfl ?_
            refine V_iinc 72 C dX10_errorsLater_69 rfl (by decide) rfl (ii1 _) (L' := [(0, _), (1, _), (2, _), (3, _), (4, _), (5, _)]) rfl ?_
            refine V_goto 22 C dX10_errorsLater_72 (by decide) ?_
            refine V_L [0, 1, 2, 3, 4, 5] rfl ?_
            exact ih22 (i + 1) _ (by omega) (by rw [hq]; exact hz) (by omega)
  refine V_L [0, 1, 2, 3, 4, 5] rfl ?_
  exact J22 7 0 0 (by omega) (by unfold errk; split <;> rfl) (by omega)

theorem dX10_allErrors_0 : decode cX10_allErrors 0 = .ok (.iconst 0, 1) := by decide +kernel
theorem dX10_allErrors_1 : decode cX10_allErrors 1 = .ok (.istore_n 1, 1) := by decide +kernel
theorem dX10_allErrors_2 : decode cX10_allErrors 2 = .ok (.iconst 0, 1) := by decide +kernel
theorem dX10_allErrors_3 : decode cX10_allErrors 3 = .ok (.istore_n 2, 1) := by decide +kernel
theorem dX10_allErrors_4 : decode cX10_allErrors 4 = .ok (.iload_n 2, 1) := by decide +kernel
theorem dX10_allErrors_5 : decode cX10_allErrors 5 = .ok (.aload_n 0, 1) := by decide +kernel
theorem dX10_allErrors_6 : decode cX10_allErrors 6 = .ok (.iconst 4, 1) := by decide +kernel
theorem dX10_allErrors_7 : decode cX10_allErrors 7 = .ok (.iaload, 1) := by decide +kernel
theorem dX10_allErrors_8 : decode cX10_allErrors 8 = .ok (.if_icmp .ge 18, 3) := by decide +kernel
theorem dX10_allErrors_11 : decode cX10_allErrors 11 = .ok (.iload_n 1, 1) := by decide +kernel
theorem dX10_allErrors_12 : decode cX10_allErrors 12 = .ok (.aload_n 0, 1) := by decide +kernel
theorem dX10_allErrors_13 : decode cX10_allErrors 13 = .ok (.iload_n 2, 1) := by decide +kernel
theorem dX10_allErrors_14 : decode cX10_allErrors 14 = .ok (.iconst 0, 1) := by decide +kernel
theorem dX10_allErrors_15 : decode cX10_allErrors 15 = .ok (.invokestatic 72, 3) := by decide +kernel
theorem dX10_allErrors_18 : decode cX10_allErrors 18 = .ok (.iadd, 1) := by decide +kernel
theorem dX10_allErrors_19 : decode cX10_allErrors 19 = .ok (.istore_n 1, 1) := by decide +kernel
theorem dX10_allErrors_20 : decode cX10_allErrors 20 = .ok (.iinc 2 1, 3) := by decide +kernel
theorem dX10_allErrors_23 : decode cX10_allErrors 23 = .ok (.goto (-19), 3) := by decide +kernel
theorem dX10_allErrors_26 : decode cX10_allErrors 26 = .ok (.iload_n 1, 1) := by decide +kernel
theorem dX10_allErrors_27 : decode cX10_allErrors 27 = .ok (.ireturn, 1) := by decide +kernel
set_option maxRecDepth 100000 in
set_option maxHeartbeats 4000000 in
theorem c_X10_allErrors (l : Launch) (G : GT) (n : Nat) (h : AH) (a : Nat) (y : Nat → Nat) (hx : Row a y h) (hI : Iv y) : Ct l yX10_allErrors cX10_allErrors 3 (some .int) 6 0 0 G n h [.ref a] (Rt (nI (allk y (y 4))) n h) := by
  obtain ⟨⟨i0, i1, i2, i3, i4⟩, iR, iU, iM, iS⟩ := id hI
  refine Ct_of mX10_allErrors.1 (Nat.le_of_ble_eq_true rfl) ?_
  intro p e s m args below meth c C hin
  refine V_Le (L' := [(0, .ref a)]) rfl ?_
  refine V_iconst 1 C dX10_allErrors_0 rfl ic0 ?_
  refine V_istore_n 2 C dX10_allErrors_1 rfl (by decide) (L' := [(0, _), (1, _)]) rfl ?_
  refine V_iconst 3 C dX10_allErrors_2 rfl ic0 ?_
  refine V_istore_n 4 C dX10_allErrors_3 rfl (by decide) (L' := [(0, _), (1, _), (2, _)]) rfl ?_
  have J4 : ∀ (fuel : Nat) (i : Nat) (hi : i ≤ y 4), y 4 - i < fuel → V p l e (rmD 6 0 0) s m args below meth c (MQ below (Po G (Rt (nI (allk y (y 4))) n h)) args s 0 0 (rg G)) G 3 0 0 n h 4 [(0, .ref a), (1, .int (nI (allk y i))), (2, .int (nI i))] [] := by
    intro fuel
    induction fuel with
    | zero => intro i hi hf; omega
    | succ fuel ih4 =>
      intro i hi hf
      refine V_iload_n 5 C dX10_allErrors_4 rfl rfl ?_
      refine V_aload_n 6 C dX10_allErrors_5 rfl rfl ?_
      refine V_iconst 7 C dX10_allErrors_6 rfl ic4 ?_
      refine V_iald (j := 4) 8 C dX10_allErrors_7 rfl hx rfl (by omega) (by omega) ?_
      refine V_icmp_geN 26 11 C dX10_allErrors_8 (by decide) rfl (by omega) (by omega) (fun c8 => ?_) (fun c8 => ?_)
      · refine V_iload_n 27 C dX10_allErrors_26 rfl rfl ?_
        refine V_ireturn C dX10_allErrors_27 rfl rfl (by omega) (by omega) ?_
        exact (Rt_mk (by rw [show i = y 4 from by omega]))
      · refine V_iload_n 12 C dX10_allErrors_11 rfl rfl ?_
        refine V_aload_n 13 C dX10_allErrors_12 rfl rfl ?_
        refine V_iload_n 14 C dX10_allErrors_13 rfl rfl ?_
        refine V_iconst 15 C dX10_allErrors_14 rfl ic0 ?_
        refine V_callS 18 C dX10_allErrors_15 rfl mX10_errorsLater tw1164 (c_X10_errorsLater l G _ _ a y hx hI i 0 (by omega) (by omega)) rfl rfl (by decide) ⟨by omega, by omega⟩ (Nat.le_of_ble_eq_true rfl) ?_
        rintro _ _ _ ⟨rfl, rfl, rfl⟩
        refine V_iaddN 19 C dX10_allErrors_18 rfl  ?_
        refine V_istore_n 20 C dX10_allErrors_19 rfl (by decide) (L' := [(0, _), (1, _), (2, _)]) rfl ?_
        refine V_iinc 23 C dX10_allErrors_20 rfl (by decide) rfl (ii1 _) (L' := [(0, _), (1, _), (2, _)]) rfl ?_
        refine V_goto 4 C dX10_allErrors_23 (by decide) ?_
        refine V_L [0, 1, 2] rfl ?_
        exact ih4 (i + 1) (by omega) (by omega)
  refine V_L [0, 1, 2] rfl ?_
  exact J4 (y 4 + 1) 0 (by omega) (by omega)

theorem dX10_blanks_0 : decode cX10_blanks 0 = .ok (.iconst 0, 1) := by decide +kernel
theorem dX10_blanks_1 : decode cX10_blanks 1 = .ok (.istore_n 1, 1) := by decide +kernel
theorem dX10_blanks_2 : decode cX10_blanks 2 = .ok (.iconst 0, 1) := by decide +kernel
theorem dX10_blanks_3 : decode cX10_blanks 3 = .ok (.istore_n 2, 1) := by decide +kernel
theorem dX10_blanks_4 : decode cX10_blanks 4 = .ok (.iload_n 2, 1) := by decide +kernel
theorem dX10_blanks_5 : decode cX10_blanks 5 = .ok (.aload_n 0, 1) := by decide +kernel
theorem dX10_blanks_6 : decode cX10_blanks 6 = .ok (.iconst 4, 1) := by decide +kernel
theorem dX10_blanks_7 : decode cX10_blanks 7 = .ok (.iaload, 1) := by decide +kernel
theorem dX10_blanks_8 : decode cX10_blanks 8 = .ok (.if_icmp .ge 26, 3) := by decide +kernel
theorem dX10_blanks_11 : decode cX10_blanks 11 = .ok (.iload_n 1, 1) := by decide +kernel
theorem dX10_blanks_12 : decode cX10_blanks 12 = .ok (.aload_n 0, 1) := by decide +kernel
theorem dX10_blanks_13 : decode cX10_blanks 13 = .ok (.iload_n 2, 1) := by decide +kernel
theorem dX10_blanks_14 : decode cX10_blanks 14 = .ok (.iconst 2, 1) := by decide +kernel
theorem dX10_blanks_15 : decode cX10_blanks 15 = .ok (.invokestatic 48, 3) := by decide +kernel
theorem dX10_blanks_18 : decode cX10_blanks 18 = .ok (.ifCond .ne 7, 3) := by decide +kernel
theorem dX10_blanks_21 : decode cX10_blanks 21 = .ok (.iconst 1, 1) := by decide +kernel
theorem dX10_blanks_22 : decode cX10_blanks 22 = .ok (.goto 4, 3) := by decide +kernel
theorem dX10_blanks_25 : decode cX10_blanks 25 = .ok (.iconst 0, 1) := by decide +kernel
theorem dX10_blanks_26 : decode cX10_blanks 26 = .ok (.iadd, 1) := by decide +kernel
theorem dX10_blanks_27 : decode cX10_blanks 27 = .ok (.istore_n 1, 1) := by decide +kernel
theorem dX10_blanks_28 : decode cX10_blanks 28 = .ok (.iinc 2 1, 3) := by decide +kernel
theorem dX10_blanks_31 : decode cX10_blanks 31 = .ok (.goto (-27), 3) := by decide +kernel
theorem dX10_blanks_34 : decode cX10_blanks 34 = .ok (.iload_n 1, 1) := by decide +kernel
theorem dX10_blanks_35 : decode cX10_blanks 35 = .ok (.ireturn, 1) := by decide +kernel
set_option maxRecDepth 100000 in
set_option maxHeartbeats 4000000 in
theorem c_X10_blanks (l : Launch) (G : GT) (n : Nat) (h : AH) (a : Nat) (y : Nat → Nat) (hx : Row a y h) (hI : Iv y) : Ct l yX10_blanks cX10_blanks 3 (some .int) 2 0 0 G n h [.ref a] (Rt (nI (blk y (y 4))) n h) := by
  obtain ⟨⟨i0, i1, i2, i3, i4⟩, iR, iU, iM, iS⟩ := id hI
  refine Ct_of mX10_blanks.1 (Nat.le_of_ble_eq_true rfl) ?_
  intro p e s m args below meth c C hin
  refine V_Le (L' := [(0, .ref a)]) rfl ?_
  refine V_iconst 1 C dX10_blanks_0 rfl ic0 ?_
  refine V_istore_n 2 C dX10_blanks_1 rfl (by decide) (L' := [(0, _), (1, _)]) rfl ?_
  refine V_iconst 3 C dX10_blanks_2 rfl ic0 ?_
  refine V_istore_n 4 C dX10_blanks_3 rfl (by decide) (L' := [(0, _), (1, _), (2, _)]) rfl ?_
  have J4 : ∀ (fuel : Nat) (i : Nat) (hi : i ≤ y 4), y 4 - i < fuel → V p l e (rmD 2 0 0) s m args below meth c (MQ below (Po G (Rt (nI (blk y (y 4))) n h)) args s 0 0 (rg G)) G 3 0 0 n h 4 [(0, .ref a), (1, .int (nI (blk y i))), (2, .int (nI i))] [] := by
    intro fuel
    induction fuel with
    | zero => intro i hi hf; omega
    | succ fuel ih4 =>
      intro i hi hf
      refine V_iload_n 5 C dX10_blanks_4 rfl rfl ?_
      refine V_aload_n 6 C dX10_blanks_5 rfl rfl ?_
      refine V_iconst 7 C dX10_blanks_6 rfl ic4 ?_
      refine V_iald (j := 4) 8 C dX10_blanks_7 rfl hx rfl (by omega) (by omega) ?_
      refine V_icmp_geN 34 11 C dX10_blanks_8 (by decide) rfl (by omega) (by omega) (fun c8 => ?_) (fun c8 => ?_)
      · refine V_iload_n 35 C dX10_blanks_34 rfl rfl ?_
        refine V_ireturn C dX10_blanks_35 rfl rfl (by omega) (by omega) ?_
        exact (Rt_mk (by rw [show i = y 4 from by omega]))
      · refine V_iload_n 12 C dX10_blanks_11 rfl rfl ?_
        refine V_aload_n 13 C dX10_blanks_12 rfl rfl ?_
        refine V_iload_n 14 C dX10_blanks_13 rfl rfl ?_
        refine V_iconst 15 C dX10_blanks_14 rfl ic2 ?_
        have hs : i < y 4 := by omega
        obtain ⟨s0, s1, s2, s3, s4, s5⟩ := iS i hs
        unfold NO at s4
        refine V_callS 18 C dX10_blanks_15 rfl mX10_ofSheet tw1082 (c_X10_ofSheet l G _ _ a y hx i 2 (58 + 6 * i + 2) rfl (by omega) (by omega) (by omega)) rfl rfl (by decide) ⟨by omega, by omega⟩ (Nat.le_of_ble_eq_true rfl) ?_
        rintro _ _ _ ⟨rfl, rfl, rfl⟩
        refine V_if_neN 25 21 C dX10_blanks_18 (by decide) rfl (by omega) (fun c18 => ?_) (fun c18 => ?_)
        · have hz : blk y i + 0 = blk y (i + 1) := by simp only [blk]; rw [bp_f c18]
          refine V_iconst 26 C dX10_blanks_25 rfl ic0 ?_
          refine V_iaddN 27 C dX10_blanks_26 rfl  ?_
          refine V_istore_n 28 C dX10_blanks_27 rfl (by decide) (L' := [(0, _), (1, _), (2, _)]) rfl ?_
          refine V_iinc 31 C dX10_blanks_28 rfl (by decide) rfl (ii1 _) (L' := [(0, _), (1, _), (2, _)]) rfl ?_
          refine V_goto 4 C dX10_blanks_31 (by decide) ?_
          refine V_L [0, 1, 2] rfl ?_
          rw [hz]; exact ih4 (i + 1) (by omega) (by omega)
        · have hz : blk y i + 1 = blk y (i + 1) := by simp only [blk]; rw [bp_t c18]
          refine V_iconst 22 C dX10_blanks_21 rfl ic1 ?_
          refine V_goto 26 C dX10_blanks_22 (by decide) ?_
          refine V_iaddN 27 C dX10_blanks_26 rfl  ?_
          refine V_istore_n 28 C dX10_blanks_27 rfl (by decide) (L' := [(0, _), (1, _), (2, _)]) rfl ?_
          refine V_iinc 31 C dX10_blanks_28 rfl (by decide) rfl (ii1 _) (L' := [(0, _), (1, _), (2, _)]) rfl ?_
          refine V_goto 4 C dX10_blanks_31 (by decide) ?_
          refine V_L [0, 1, 2] rfl ?_
          rw [hz]; exact ih4 (i + 1) (by omega) (by omega)
  refine V_L [0, 1, 2] rfl ?_
  exact J4 (y 4 + 1) 0 (by omega) (by omega)

theorem dX10_copyReason_0 : decode cX10_copyReason 0 = .ok (.aload_n 0, 1) := by decide +kernel
theorem dX10_copyReason_1 : decode cX10_copyReason 1 = .ok (.iload_n 1, 1) := by decide +kernel
theorem dX10_copyReason_2 : decode cX10_copyReason 2 = .ok (.invokestatic 82, 3) := by decide +kernel
theorem dX10_copyReason_5 : decode cX10_copyReason 5 = .ok (.istore_n 2, 1) := by decide +kernel
theorem dX10_copyReason_6 : decode cX10_copyReason 6 = .ok (.iload_n 2, 1) := by decide +kernel
theorem dX10_copyReason_7 : decode cX10_copyReason 7 = .ok (.iconst (-1), 1) := by decide +kernel
theorem dX10_copyReason_8 : decode cX10_copyReason 8 = .ok (.if_icmp .ne 7, 3) := by decide +kernel
theorem dX10_copyReason_11 : decode cX10_copyReason 11 = .ok (.iconst 1, 1) := by decide +kernel
theorem dX10_copyReason_12 : decode cX10_copyReason 12 = .ok (.goto 47, 3) := by decide +kernel
theorem dX10_copyReason_15 : decode cX10_copyReason 15 = .ok (.aload_n 0, 1) := by decide +kernel
theorem dX10_copyReason_16 : decode cX10_copyReason 16 = .ok (.iload_n 1, 1) := by decide +kernel
theorem dX10_copyReason_17 : decode cX10_copyReason 17 = .ok (.iconst 2, 1) := by decide +kernel
theorem dX10_copyReason_18 : decode cX10_copyReason 18 = .ok (.invokestatic 48, 3) := by decide +kernel
theorem dX10_copyReason_21 : decode cX10_copyReason 21 = .ok (.ifCond .ne 7, 3) := by decide +kernel
theorem dX10_copyReason_24 : decode cX10_copyReason 24 = .ok (.iconst 2, 1) := by decide +kernel
theorem dX10_copyReason_25 : decode cX10_copyReason 25 = .ok (.goto 34, 3) := by decide +kernel
theorem dX10_copyReason_28 : decode cX10_copyReason 28 = .ok (.aload_n 0, 1) := by decide +kernel
theorem dX10_copyReason_29 : decode cX10_copyReason 29 = .ok (.iload_n 2, 1) := by decide +kernel
theorem dX10_copyReason_30 : decode cX10_copyReason 30 = .ok (.aload_n 0, 1) := by decide +kernel
theorem dX10_copyReason_31 : decode cX10_copyReason 31 = .ok (.iload_n 1, 1) := by decide +kernel
theorem dX10_copyReason_32 : decode cX10_copyReason 32 = .ok (.iconst 4, 1) := by decide +kernel
theorem dX10_copyReason_33 : decode cX10_copyReason 33 = .ok (.invokestatic 48, 3) := by decide +kernel
theorem dX10_copyReason_36 : decode cX10_copyReason 36 = .ok (.invokestatic 85, 3) := by decide +kernel
theorem dX10_copyReason_39 : decode cX10_copyReason 39 = .ok (.ifCond .ne 7, 3) := by decide +kernel
theorem dX10_copyReason_42 : decode cX10_copyReason 42 = .ok (.iconst 3, 1) := by decide +kernel
theorem dX10_copyReason_43 : decode cX10_copyReason 43 = .ok (.goto 16, 3) := by decide +kernel
theorem dX10_copyReason_46 : decode cX10_copyReason 46 = .ok (.aload_n 0, 1) := by decide +kernel
theorem dX10_copyReason_47 : decode cX10_copyReason 47 = .ok (.iconst 4, 1) := by decide +kernel
theorem dX10_copyReason_48 : decode cX10_copyReason 48 = .ok (.iaload, 1) := by decide +kernel
theorem dX10_copyReason_49 : decode cX10_copyReason 49 = .ok (.bipush 12, 2) := by decide +kernel
theorem dX10_copyReason_51 : decode cX10_copyReason 51 = .ok (.if_icmp .ne 7, 3) := by decide +kernel
theorem dX10_copyReason_54 : decode cX10_copyReason 54 = .ok (.iconst 4, 1) := by decide +kernel
theorem dX10_copyReason_55 : decode cX10_copyReason 55 = .ok (.goto 4, 3) := by decide +kernel
theorem dX10_copyReason_58 : decode cX10_copyReason 58 = .ok (.iconst 0, 1) := by decide +kernel
theorem dX10_copyReason_59 : decode cX10_copyReason 59 = .ok (.ireturn, 1) := by decide +kernel
set_option maxRecDepth 100000 in
set_option maxHeartbeats 4000000 in
theorem c_X10_copyReason (l : Launch) (G : GT) (n : Nat) (h : AH) (a : Nat) (y : Nat → Nat) (hx : Row a y h) (hI : Iv y) (s9 : Nat) (hs : s9 < y 4) : Ct l yX10_copyReason cX10_copyReason 3 (some .int) 4 0 0 G n h [.ref a, .int (nI s9)] (Rt (nI (crs y s9)) n h) := by
  obtain ⟨⟨i0, i1, i2, i3, i4⟩, iR, iU, iM, iS⟩ := id hI
  obtain ⟨s0, s1, s2, s3, s4, s5⟩ := iS s9 hs
  unfold NO at s4
  have hpo := pof_b hI hs
  unfold NO at hpo
  refine Ct_of mX10_copyReason.1 (Nat.le_of_ble_eq_true rfl) ?_
  intro p e s m args below meth c C hin
  refine V_Le (L' := [(0, .ref a), (1, .int (nI s9))]) rfl ?_
  refine V_aload_n 1 C dX10_copyReason_0 rfl rfl ?_
  refine V_iload_n 2 C dX10_copyReason_1 rfl rfl ?_
  refine V_callS 5 C dX10_copyReason_2 rfl mX10_placeOf tw1079 (c_X10_placeOf l G _ _ a y hx hI s9 hs) rfl rfl (by decide) ⟨by omega, by omega⟩ (Nat.le_of_ble_eq_true rfl) ?_
  rintro _ _ _ ⟨rfl, rfl, rfl⟩
  refine V_istore_n 6 C dX10_copyReason_5 rfl (by decide) (L' := [(0, _), (1, _), (2, _)]) rfl ?_
  refine V_iload_n 7 C dX10_copyReason_6 rfl rfl ?_
  refine V_iconst 8 C dX10_copyReason_7 rfl icm1 ?_
  refine V_icmp_neN 15 11 C dX10_copyReason_8 (by decide) rfl (by omega) (by omega) (fun c8 => ?_) (fun c8 => ?_)
  · refine V_aload_n 16 C dX10_copyReason_15 rfl rfl ?_
    refine V_iload_n 17 C dX10_copyReason_16 rfl rfl ?_
    refine V_iconst 18 C dX10_copyReason_17 rfl ic2 ?_
    refine V_callS 21 C dX10_copyReason_18 rfl mX10_ofSheet tw1082 (c_X10_ofSheet l G _ _ a y hx s9 2 (58 + 6 * s9 + 2) rfl (by omega) (by omega) (by omega)) rfl rfl (by decide) ⟨by omega, by omega⟩ (Nat.le_of_ble_eq_true rfl) ?_
    rintro _ _ _ ⟨rfl, rfl, rfl⟩
    refine V_if_neN 28 24 C dX10_copyReason_21 (by decide) rfl (by omega) (fun c21 => ?_) (fun c21 => ?_)
    · refine V_aload_n 29 C dX10_copyReason_28 rfl rfl ?_
      refine V_iload_n 30 C dX10_copyReason_29 rfl rfl ?_
      refine V_aload_n 31 C dX10_copyReason_30 rfl rfl ?_
      refine V_iload_n 32 C dX10_copyReason_31 rfl rfl ?_
      refine V_iconst 33 C dX10_copyReason_32 rfl ic4 ?_
      refine V_callS 36 C dX10_copyReason_33 rfl mX10_ofSheet tw1082 (c_X10_ofSheet l G _ _ a y hx s9 4 (58 + 6 * s9 + 4) rfl (by omega) (by omega) (by omega)) rfl rfl (by decide) ⟨by omega, by omega⟩ (Nat.le_of_ble_eq_true rfl) ?_
      rintro _ _ _ ⟨rfl, rfl, rfl⟩
      refine V_callS 39 C dX10_copyReason_36 rfl mX10_isRunnerIn tw1120 (c_X10_isRunnerIn l G _ _ a y hx hI _ _ (by omega) (by omega)) rfl rfl (by decide) ⟨by omega, by omega⟩ (Nat.le_of_ble_eq_true rfl) ?_
      rintro _ _ _ ⟨b9, hb9, rfl, rfl, rfl⟩
      have hb9b : b9 < 2 := by omega
      refine V_if_neN 46 42 C dX10_copyReason_39 (by decide) rfl (by omega) (fun c39 => ?_) (fun c39 => ?_)
      · have hrb := rinb_iff.mpr (show rin y _ _ _ by rcases hb9 with ⟨e, hz⟩ | ⟨e, hz⟩; exact hz; exact absurd e c39)
        refine V_aload_n 47 C dX10_copyReason_46 rfl rfl ?_
        refine V_iconst 48 C dX10_copyReason_47 rfl ic4 ?_
        refine V_iald (j := 4) 49 C dX10_copyReason_48 rfl hx rfl (by omega) (by omega) ?_
        refine V_bipush 51 C dX10_copyReason_49 rfl bip12 ?_
        refine V_icmp_neN 58 54 C dX10_copyReason_51 (by decide) rfl (by omega) (by omega) (fun c51 => ?_) (fun c51 => ?_)
        · refine V_iconst 59 C dX10_copyReason_58 rfl ic0 ?_
          refine V_ireturn C dX10_copyReason_59 rfl rfl (by omega) (by omega) ?_
          exact Rt_mk (by unfold crs; rw [NO_eq]; first | rw [if_pos c8] | (rw [if_neg c8]; first | rw [if_pos c21] | (rw [if_neg c21]; first | rw [if_pos hrb] | (rw [hrb]; first | rw [if_neg (by decide), if_pos c51] | rw [if_neg (by decide), if_neg c51]))))
        · refine V_iconst 55 C dX10_copyReason_54 rfl ic4 ?_
          refine V_goto 59 C dX10_copyReason_55 (by decide) ?_
          refine V_ireturn C dX10_copyReason_59 rfl rfl (by omega) (by omega) ?_
          exact Rt_mk (by unfold crs; rw [NO_eq]; first | rw [if_pos c8] | (rw [if_neg c8]; first | rw [if_pos c21] | (rw [if_neg c21]; first | rw [if_pos hrb] | (rw [hrb]; first | rw [if_neg (by decide), if_pos c51] | rw [if_neg (by decide), if_neg c51]))))
      · have hrb := eq_false_of_ne_true (fun z => (show ¬ rin y _ _ _ by rcases hb9 with ⟨e, hz⟩ | ⟨e, hz⟩; (rw [e] at c39; exact absurd c39 (by decide)); exact hz) (rinb_iff.mp z))
        refine V_iconst 43 C dX10_copyReason_42 rfl ic3 ?_
        refine V_goto 59 C dX10_copyReason_43 (by decide) ?_
        refine V_ireturn C dX10_copyReason_59 rfl rfl (by omega) (by omega) ?_
        exact Rt_mk (by unfold crs; rw [NO_eq]; first | rw [if_pos c8] | (rw [if_neg c8]; first | rw [if_pos c21] | (rw [if_neg c21]; first | rw [if_pos hrb] | (rw [hrb]; first | rw [if_neg (by decide), if_pos c51] | rw [if_neg (by decide), if_neg c51]))))
    · refine V_iconst 25 C dX10_copyReason_24 rfl ic2 ?_
      refine V_goto 59 C dX10_copyReason_25 (by decide) ?_
      refine V_ireturn C dX10_copyReason_59 rfl rfl (by omega) (by omega) ?_
      exact Rt_mk (by unfold crs; rw [NO_eq]; first | rw [if_pos c8] | (rw [if_neg c8]; first | rw [if_pos c21] | (rw [if_neg c21]; first | rw [if_pos hrb] | (rw [hrb]; first | rw [if_neg (by decide), if_pos c51] | rw [if_neg (by decide), if_neg c51]))))
  · refine V_iconst 12 C dX10_copyReason_11 rfl ic1 ?_
    refine V_goto 59 C dX10_copyReason_12 (by decide) ?_
    refine V_ireturn C dX10_copyReason_59 rfl rfl (by omega) (by omega) ?_
    exact Rt_mk (by unfold crs; rw [NO_eq]; first | rw [if_pos c8] | (rw [if_neg c8]; first | rw [if_pos c21] | (rw [if_neg c21]; first | rw [if_pos hrb] | (rw [hrb]; first | rw [if_neg (by decide), if_pos c51] | rw [if_neg (by decide), if_neg c51]))))

theorem dX10_areEnds_0 : decode cX10_areEnds 0 = .ok (.aload_n 0, 1) := by decide +kernel
theorem dX10_areEnds_1 : decode cX10_areEnds 1 = .ok (.iload_n 1, 1) := by decide +kernel
theorem dX10_areEnds_2 : decode cX10_areEnds 2 = .ok (.invokestatic 94, 3) := by decide +kernel
theorem dX10_areEnds_5 : decode cX10_areEnds 5 = .ok (.ifCond .eq 15, 3) := by decide +kernel
theorem dX10_areEnds_8 : decode cX10_areEnds 8 = .ok (.aload_n 0, 1) := by decide +kernel
theorem dX10_areEnds_9 : decode cX10_areEnds 9 = .ok (.iload_n 2, 1) := by decide +kernel
theorem dX10_areEnds_10 : decode cX10_areEnds 10 = .ok (.invokestatic 94, 3) := by decide +kernel
theorem dX10_areEnds_13 : decode cX10_areEnds 13 = .ok (.ifCond .eq 7, 3) := by decide +kernel
theorem dX10_areEnds_16 : decode cX10_areEnds 16 = .ok (.iconst 1, 1) := by decide +kernel
theorem dX10_areEnds_17 : decode cX10_areEnds 17 = .ok (.goto 4, 3) := by decide +kernel
theorem dX10_areEnds_20 : decode cX10_areEnds 20 = .ok (.iconst 0, 1) := by decide +kernel
theorem dX10_areEnds_21 : decode cX10_areEnds 21 = .ok (.ireturn, 1) := by decide +kernel
set_option maxRecDepth 100000 in
set_option maxHeartbeats 4000000 in
theorem c_X10_areEnds (l : Launch) (G : GT) (n : Nat) (h : AH) (a : Nat) (y : Nat → Nat) (hx : Row a y h) (hI : Iv y) (t u : Int32) : Ct l yX10_areEnds cX10_areEnds 3 (some .boolean) 3 0 0 G n h [.ref a, .int t, .int u] (Rt (nI (bp (ix t (y 0) ∧ ix u (y 0)))) n h) := by
  refine Ct_of mX10_areEnds.1 (Nat.le_of_ble_eq_true rfl) ?_
  intro p e s m args below meth c C hin
  refine V_Le (L' := [(0, .ref a), (1, .int t), (2, .int u)]) rfl ?_
  refine V_aload_n 1 C dX10_areEnds_0 rfl rfl ?_
  refine V_iload_n 2 C dX10_areEnds_1 rfl rfl ?_
  refine V_callS 5 C dX10_areEnds_2 rfl mX10_isTown tw1028 (c_X10_isTown l G _ _ a y hx hI t) rfl rfl (by decide) ⟨by omega, by omega⟩ (Nat.le_of_ble_eq_true rfl) ?_
  rintro _ _ _ ⟨rfl, rfl, rfl⟩
  refine V_if_eqB 20 8 C dX10_areEnds_5 (by decide) rfl  (fun c5 => ?_) (fun c5 => ?_)
  · refine V_iconst 21 C dX10_areEnds_20 rfl ic0 ?_
    refine V_ireturn C dX10_areEnds_21 rfl (by decide) (by omega) (by omega) ?_
    exact (Rt_mk (by first | exact (bp_t ⟨c5, c13⟩).symm | exact (bp_f (fun z => c5 z.1)).symm | exact (bp_f (fun z => c13 z.2)).symm))
  · refine V_aload_n 9 C dX10_areEnds_8 rfl rfl ?_
    refine V_iload_n 10 C dX10_areEnds_9 rfl rfl ?_
    refine V_callS 13 C dX10_areEnds_10 rfl mX10_isTown tw1028 (c_X10_isTown l G _ _ a y hx hI u) rfl rfl (by decide) ⟨by omega, by omega⟩ (Nat.le_of_ble_eq_true rfl) ?_
    rintro _ _ _ ⟨rfl, rfl, rfl⟩
    refine V_if_eqB 20 16 C dX10_areEnds_13 (by decide) rfl  (fun c13 => ?_) (fun c13 => ?_)
    · refine V_iconst 21 C dX10_areEnds_20 rfl ic0 ?_
      refine V_ireturn C dX10_areEnds_21 rfl (by decide) (by omega) (by omega) ?_
      exact (Rt_mk (by first | exact (bp_t ⟨c5, c13⟩).symm | exact (bp_f (fun z => c5 z.1)).symm | exact (bp_f (fun z => c13 z.2)).symm))
    · refine V_iconst 17 C dX10_areEnds_16 rfl ic1 ?_
      refine V_goto 21 C dX10_areEnds_17 (by decide) ?_
      refine V_ireturn C dX10_areEnds_21 rfl (by decide) (by omega) (by omega) ?_
      exact (Rt_mk (by first | exact (bp_t ⟨c5, c13⟩).symm | exact (bp_f (fun z => c5 z.1)).symm | exact (bp_f (fun z => c13 z.2)).symm))

theorem dX10_canWrite_0 : decode cX10_canWrite 0 = .ok (.aload_n 0, 1) := by decide +kernel
theorem dX10_canWrite_1 : decode cX10_canWrite 1 = .ok (.iconst 3, 1) := by decide +kernel
theorem dX10_canWrite_2 : decode cX10_canWrite 2 = .ok (.iaload, 1) := by decide +kernel
theorem dX10_canWrite_3 : decode cX10_canWrite 3 = .ok (.bipush 6, 2) := by decide +kernel
theorem dX10_canWrite_5 : decode cX10_canWrite 5 = .ok (.if_icmp .ge 15, 3) := by decide +kernel
theorem dX10_canWrite_8 : decode cX10_canWrite 8 = .ok (.aload_n 0, 1) := by decide +kernel
theorem dX10_canWrite_9 : decode cX10_canWrite 9 = .ok (.iconst 4, 1) := by decide +kernel
theorem dX10_canWrite_10 : decode cX10_canWrite 10 = .ok (.iaload, 1) := by decide +kernel
theorem dX10_canWrite_11 : decode cX10_canWrite 11 = .ok (.bipush 12, 2) := by decide +kernel
theorem dX10_canWrite_13 : decode cX10_canWrite 13 = .ok (.if_icmp .ge 7, 3) := by decide +kernel
theorem dX10_canWrite_16 : decode cX10_canWrite 16 = .ok (.iconst 1, 1) := by decide +kernel
theorem dX10_canWrite_17 : decode cX10_canWrite 17 = .ok (.goto 4, 3) := by decide +kernel
theorem dX10_canWrite_20 : decode cX10_canWrite 20 = .ok (.iconst 0, 1) := by decide +kernel
theorem dX10_canWrite_21 : decode cX10_canWrite 21 = .ok (.ireturn, 1) := by decide +kernel
set_option maxRecDepth 100000 in
set_option maxHeartbeats 4000000 in
theorem c_X10_canWrite (l : Launch) (G : GT) (n : Nat) (h : AH) (a : Nat) (y : Nat → Nat) (hx : Row a y h) (hI : Iv y) : Ct l yX10_canWrite cX10_canWrite 1 (some .boolean) 1 0 0 G n h [.ref a] (Rt (nI (bp (y 3 < 6 ∧ y 4 < 12))) n h) := by
  obtain ⟨⟨i0, i1, i2, i3, i4⟩, iR, iU, iM, iS⟩ := id hI
  refine Ct_of mX10_canWrite.1 (Nat.le_of_ble_eq_true rfl) ?_
  intro p e s m args below meth c C hin
  refine V_Le (L' := [(0, .ref a)]) rfl ?_
  refine V_aload_n 1 C dX10_canWrite_0 rfl rfl ?_
  refine V_iconst 2 C dX10_canWrite_1 rfl ic3 ?_
  refine V_iald (j := 3) 3 C dX10_canWrite_2 rfl hx rfl (by omega) (by omega) ?_
  refine V_bipush 5 C dX10_canWrite_3 rfl bip6 ?_
  refine V_icmp_geN 20 8 C dX10_canWrite_5 (by decide) rfl (by omega) (by omega) (fun c5 => ?_) (fun c5 => ?_)
  · refine V_iconst 21 C dX10_canWrite_20 rfl ic0 ?_
    refine V_ireturn C dX10_canWrite_21 rfl (by decide) (by omega) (by omega) ?_
    exact (Rt_mk (by first | exact (bp_t (by omega)).symm | exact (bp_f (by omega)).symm))
  · refine V_aload_n 9 C dX10_canWrite_8 rfl rfl ?_
    refine V_iconst 10 C dX10_canWrite_9 rfl ic4 ?_
    refine V_iald (j := 4) 11 C dX10_canWrite_10 rfl hx rfl (by omega) (by omega) ?_
    refine V_bipush 13 C dX10_canWrite_11 rfl bip12 ?_
    refine V_icmp_geN 20 16 C dX10_canWrite_13 (by decide) rfl (by omega) (by omega) (fun c13 => ?_) (fun c13 => ?_)
    · refine V_iconst 21 C dX10_canWrite_20 rfl ic0 ?_
      refine V_ireturn C dX10_canWrite_21 rfl (by decide) (by omega) (by omega) ?_
      exact (Rt_mk (by first | exact (bp_t (by omega)).symm | exact (bp_f (by omega)).symm))
    · refine V_iconst 17 C dX10_canWrite_16 rfl ic1 ?_
      refine V_goto 21 C dX10_canWrite_17 (by decide) ?_
      refine V_ireturn C dX10_canWrite_21 rfl (by decide) (by omega) (by omega) ?_
      exact (Rt_mk (by first | exact (bp_t (by omega)).symm | exact (bp_f (by omega)).symm))

theorem dX10_canTake_0 : decode cX10_canTake 0 = .ok (.aload_n 0, 1) := by decide +kernel
theorem dX10_canTake_1 : decode cX10_canTake 1 = .ok (.iload_n 1, 1) := by decide +kernel
theorem dX10_canTake_2 : decode cX10_canTake 2 = .ok (.invokestatic 51, 3) := by decide +kernel
theorem dX10_canTake_5 : decode cX10_canTake 5 = .ok (.istore_n 3, 1) := by decide +kernel
theorem dX10_canTake_6 : decode cX10_canTake 6 = .ok (.iload_n 3, 1) := by decide +kernel
theorem dX10_canTake_7 : decode cX10_canTake 7 = .ok (.iconst (-1), 1) := by decide +kernel
theorem dX10_canTake_8 : decode cX10_canTake 8 = .ok (.if_icmp .eq 35, 3) := by decide +kernel
theorem dX10_canTake_11 : decode cX10_canTake 11 = .ok (.aload_n 0, 1) := by decide +kernel
theorem dX10_canTake_12 : decode cX10_canTake 12 = .ok (.iload_n 2, 1) := by decide +kernel
theorem dX10_canTake_13 : decode cX10_canTake 13 = .ok (.invokestatic 82, 3) := by decide +kernel
theorem dX10_canTake_16 : decode cX10_canTake 16 = .ok (.iload_n 3, 1) := by decide +kernel
theorem dX10_canTake_17 : decode cX10_canTake 17 = .ok (.if_icmp .ne 26, 3) := by decide +kernel
theorem dX10_canTake_20 : decode cX10_canTake 20 = .ok (.aload_n 0, 1) := by decide +kernel
theorem dX10_canTake_21 : decode cX10_canTake 21 = .ok (.iload_n 2, 1) := by decide +kernel
theorem dX10_canTake_22 : decode cX10_canTake 22 = .ok (.iconst 4, 1) := by decide +kernel
theorem dX10_canTake_23 : decode cX10_canTake 23 = .ok (.invokestatic 48, 3) := by decide +kernel
theorem dX10_canTake_26 : decode cX10_canTake 26 = .ok (.iload_n 1, 1) := by decide +kernel
theorem dX10_canTake_27 : decode cX10_canTake 27 = .ok (.if_icmp .eq 16, 3) := by decide +kernel
theorem dX10_canTake_30 : decode cX10_canTake 30 = .ok (.aload_n 0, 1) := by decide +kernel
theorem dX10_canTake_31 : decode cX10_canTake 31 = .ok (.iload_n 1, 1) := by decide +kernel
theorem dX10_canTake_32 : decode cX10_canTake 32 = .ok (.invokestatic 102, 3) := by decide +kernel
theorem dX10_canTake_35 : decode cX10_canTake 35 = .ok (.iconst 3, 1) := by decide +kernel
theorem dX10_canTake_36 : decode cX10_canTake 36 = .ok (.if_icmp .ge 7, 3) := by decide +kernel
theorem dX10_canTake_39 : decode cX10_canTake 39 = .ok (.iconst 1, 1) := by decide +kernel
theorem dX10_canTake_40 : decode cX10_canTake 40 = .ok (.goto 4, 3) := by decide +kernel
theorem dX10_canTake_43 : decode cX10_canTake 43 = .ok (.iconst 0, 1) := by decide +kernel
theorem dX10_canTake_44 : decode cX10_canTake 44 = .ok (.ireturn, 1) := by decide +kernel
set_option maxRecDepth 100000 in
set_option maxHeartbeats 4000000 in
theorem c_X10_canTake (l : Launch) (G : GT) (n : Nat) (h : AH) (a : Nat) (y : Nat → Nat) (hx : Row a y h) (hI : Iv y) (r s9 : Nat) (hr : r < y 2) (hs : s9 < y 4) : Ct l yX10_canTake cX10_canTake 4 (some .boolean) 4 0 0 G n h [.ref a, .int (nI r), .int (nI s9)] (Rt (nI (bp (¬ tof y r = NO ∧ pof y s9 = tof y r ∧ ¬ y (58 + 6 * s9 + 4) = r ∧ car y r < 3))) n h) := by
  obtain ⟨⟨i0, i1, i2, i3, i4⟩, iR, iU, iM, iS⟩ := id hI
  obtain ⟨s0, s1, s2, s3, s4, s5⟩ := iS s9 hs
  unfold NO at s4
  have hpo := pof_b hI hs
  have hto := tof_b hI hr
  have hca := cark_le y r (y 4)
  unfold NO at hpo hto
  refine Ct_of mX10_canTake.1 (Nat.le_of_ble_eq_true rfl) ?_
  intro p e s m args below meth c C hin
  refine V_Le (L' := [(0, .ref a), (1, .int (nI r)), (2, .int (nI s9))]) rfl ?_
  refine V_aload_n 1 C dX10_canTake_0 rfl rfl ?_
  refine V_iload_n 2 C dX10_canTake_1 rfl rfl ?_
  refine V_callS 5 C dX10_canTake_2 rfl mX10_townOf tw1073 (c_X10_townOf l G _ _ a y hx hI r hr) rfl rfl (by decide) ⟨by omega, by omega⟩ (Nat.le_of_ble_eq_true rfl) ?_
  rintro _ _ _ ⟨rfl, rfl, rfl⟩
  refine V_istore_n 6 C dX10_canTake_5 rfl (by decide) (L' := [(0, _), (1, _), (2, _), (3, _)]) rfl ?_
  refine V_iload_n 7 C dX10_canTake_6 rfl rfl ?_
  refine V_iconst 8 C dX10_canTake_7 rfl icm1 ?_
  refine V_icmp_eqN 43 11 C dX10_canTake_8 (by decide) rfl (by omega) (by omega) (fun c8 => ?_) (fun c8 => ?_)
  · refine V_iconst 44 C dX10_canTake_43 rfl ic0 ?_
    refine V_ireturn C dX10_canTake_44 rfl (by decide) (by omega) (by omega) ?_
    exact (Rt_mk (by unfold NO; first | exact (bp_t (by omega)).symm | exact (bp_f (by omega)).symm))
  · refine V_aload_n 12 C dX10_canTake_11 rfl rfl ?_
    refine V_iload_n 13 C dX10_canTake_12 rfl rfl ?_
    refine V_callS 16 C dX10_canTake_13 rfl mX10_placeOf tw1079 (c_X10_placeOf l G _ _ a y hx hI s9 hs) rfl rfl (by decide) ⟨by omega, by omega⟩ (Nat.le_of_ble_eq_true rfl) ?_
    rintro _ _ _ ⟨rfl, rfl, rfl⟩
    refine V_iload_n 17 C dX10_canTake_16 rfl rfl ?_
    refine V_icmp_neN 43 20 C dX10_canTake_17 (by decide) rfl (by omega) (by omega) (fun c17 => ?_) (fun c17 => ?_)
    · refine V_iconst 44 C dX10_canTake_43 rfl ic0 ?_
      refine V_ireturn C dX10_canTake_44 rfl (by decide) (by omega) (by omega) ?_
      exact (Rt_mk (by unfold NO; first | exact (bp_t (by omega)).symm | exact (bp_f (by omega)).symm))
    · refine V_aload_n 21 C dX10_canTake_20 rfl rfl ?_
      refine V_iload_n 22 C dX10_canTake_21 rfl rfl ?_
      refine V_iconst 23 C dX10_canTake_22 rfl ic4 ?_
      refine V_callS 26 C dX10_canTake_23 rfl mX10_ofSheet tw1082 (c_X10_ofSheet l G _ _ a y hx s9 4 (58 + 6 * s9 + 4) rfl (by omega) (by omega) (by omega)) rfl rfl (by decide) ⟨by omega, by omega⟩ (Nat.le_of_ble_eq_true rfl) ?_
      rintro _ _ _ ⟨rfl, rfl, rfl⟩
      refine V_iload_n 27 C dX10_canTake_26 rfl rfl ?_
      refine V_icmp_eqN 43 30 C dX10_canTake_27 (by decide) rfl (by omega) (by omega) (fun c27 => ?_) (fun c27 => ?_)
      · refine V_iconst 44 C dX10_canTake_43 rfl ic0 ?_
        refine V_ireturn C dX10_canTake_44 rfl (by decide) (by omega) (by omega) ?_
        exact (Rt_mk (by unfold NO; first | exact (bp_t (by omega)).symm | exact (bp_f (by omega)).symm))
      · refine V_aload_n 31 C dX10_canTake_30 rfl rfl ?_
        refine V_iload_n 32 C dX10_canTake_31 rfl rfl ?_
        refine V_callS 35 C dX10_canTake_32 rfl mX10_carried tw1085 (c_X10_carried l G _ _ a y hx i4 (fun i hi => by obtain ⟨-, -, -, -, z, -⟩ := iS i hi; unfold NO at z; omega) r (by omega)) rfl rfl (by decide) ⟨by omega, by omega⟩ (Nat.le_of_ble_eq_true rfl) ?_
        rintro _ _ _ ⟨rfl, rfl, rfl⟩
        refine V_iconst 36 C dX10_canTake_35 rfl ic3 ?_
        refine V_icmp_geN 43 39 C dX10_canTake_36 (by decide) rfl (by unfold car; omega) (by omega) (fun c36 => ?_) (fun c36 => ?_)
        · refine V_iconst 44 C dX10_canTake_43 rfl ic0 ?_
          refine V_ireturn C dX10_canTake_44 rfl (by decide) (by omega) (by omega) ?_
          exact (Rt_mk (by unfold NO; first | exact (bp_t (by omega)).symm | exact (bp_f (by omega)).symm))
        · refine V_iconst 40 C dX10_canTake_39 rfl ic1 ?_
          refine V_goto 44 C dX10_canTake_40 (by decide) ?_
          refine V_ireturn C dX10_canTake_44 rfl (by decide) (by omega) (by omega) ?_
          exact (Rt_mk (by unfold NO; first | exact (bp_t (by omega)).symm | exact (bp_f (by omega)).symm))

theorem dX10_canLay_0 : decode cX10_canLay 0 = .ok (.aload_n 0, 1) := by decide +kernel
theorem dX10_canLay_1 : decode cX10_canLay 1 = .ok (.iload_n 1, 1) := by decide +kernel
theorem dX10_canLay_2 : decode cX10_canLay 2 = .ok (.invokestatic 82, 3) := by decide +kernel
theorem dX10_canLay_5 : decode cX10_canLay 5 = .ok (.iconst (-1), 1) := by decide +kernel
theorem dX10_canLay_6 : decode cX10_canLay 6 = .ok (.if_icmp .eq 17, 3) := by decide +kernel
theorem dX10_canLay_9 : decode cX10_canLay 9 = .ok (.aload_n 0, 1) := by decide +kernel
theorem dX10_canLay_10 : decode cX10_canLay 10 = .ok (.iload_n 1, 1) := by decide +kernel
theorem dX10_canLay_11 : decode cX10_canLay 11 = .ok (.iconst 4, 1) := by decide +kernel
theorem dX10_canLay_12 : decode cX10_canLay 12 = .ok (.invokestatic 48, 3) := by decide +kernel
theorem dX10_canLay_15 : decode cX10_canLay 15 = .ok (.iconst (-1), 1) := by decide +kernel
theorem dX10_canLay_16 : decode cX10_canLay 16 = .ok (.if_icmp .eq 7, 3) := by decide +kernel
theorem dX10_canLay_19 : decode cX10_canLay 19 = .ok (.iconst 1, 1) := by decide +kernel
theorem dX10_canLay_20 : decode cX10_canLay 20 = .ok (.goto 4, 3) := by decide +kernel
theorem dX10_canLay_23 : decode cX10_canLay 23 = .ok (.iconst 0, 1) := by decide +kernel
theorem dX10_canLay_24 : decode cX10_canLay 24 = .ok (.ireturn, 1) := by decide +kernel
set_option maxRecDepth 100000 in
set_option maxHeartbeats 4000000 in
theorem c_X10_canLay (l : Launch) (G : GT) (n : Nat) (h : AH) (a : Nat) (y : Nat → Nat) (hx : Row a y h) (hI : Iv y) (s9 : Nat) (hs : s9 < y 4) : Ct l yX10_canLay cX10_canLay 2 (some .boolean) 4 0 0 G n h [.ref a, .int (nI s9)] (Rt (nI (bp (¬ pof y s9 = NO ∧ ¬ y (58 + 6 * s9 + 4) = NO))) n h) := by
  obtain ⟨⟨i0, i1, i2, i3, i4⟩, iR, iU, iM, iS⟩ := id hI
  obtain ⟨s0, s1, s2, s3, s4, s5⟩ := iS s9 hs
  unfold NO at s4
  have hpo := pof_b hI hs
  unfold NO at hpo
  refine Ct_of mX10_canLay.1 (Nat.le_of_ble_eq_true rfl) ?_
  intro p e s m args below meth c C hin
  refine V_Le (L' := [(0, .ref a), (1, .int (nI s9))]) rfl ?_
  refine V_aload_n 1 C dX10_canLay_0 rfl rfl ?_
  refine V_iload_n 2 C dX10_canLay_1 rfl rfl ?_
  refine V_callS 5 C dX10_canLay_2 rfl mX10_placeOf tw1079 (c_X10_placeOf l G _ _ a y hx hI s9 hs) rfl rfl (by decide) ⟨by omega, by omega⟩ (Nat.le_of_ble_eq_true rfl) ?_
  rintro _ _ _ ⟨rfl, rfl, rfl⟩
  refine V_iconst 6 C dX10_canLay_5 rfl icm1 ?_
  refine V_icmp_eqN 23 9 C dX10_canLay_6 (by decide) rfl (by omega) (by omega) (fun c6 => ?_) (fun c6 => ?_)
  · refine V_iconst 24 C dX10_canLay_23 rfl ic0 ?_
    refine V_ireturn C dX10_canLay_24 rfl (by decide) (by omega) (by omega) ?_
    exact (Rt_mk (by unfold NO; first | exact (bp_t (by omega)).symm | exact (bp_f (by omega)).symm))
  · refine V_aload_n 10 C dX10_canLay_9 rfl rfl ?_
    refine V_iload_n 11 C dX10_canLay_10 rfl rfl ?_
    refine V_iconst 12 C dX10_canLay_11 rfl ic4 ?_
    refine V_callS 15 C dX10_canLay_12 rfl mX10_ofSheet tw1082 (c_X10_ofSheet l G _ _ a y hx s9 4 (58 + 6 * s9 + 4) rfl (by omega) (by omega) (by omega)) rfl rfl (by decide) ⟨by omega, by omega⟩ (Nat.le_of_ble_eq_true rfl) ?_
    rintro _ _ _ ⟨rfl, rfl, rfl⟩
    refine V_iconst 16 C dX10_canLay_15 rfl icm1 ?_
    refine V_icmp_eqN 23 19 C dX10_canLay_16 (by decide) rfl (by omega) (by omega) (fun c16 => ?_) (fun c16 => ?_)
    · refine V_iconst 24 C dX10_canLay_23 rfl ic0 ?_
      refine V_ireturn C dX10_canLay_24 rfl (by decide) (by omega) (by omega) ?_
      exact (Rt_mk (by unfold NO; first | exact (bp_t (by omega)).symm | exact (bp_f (by omega)).symm))
    · refine V_iconst 20 C dX10_canLay_19 rfl ic1 ?_
      refine V_goto 24 C dX10_canLay_20 (by decide) ?_
      refine V_ireturn C dX10_canLay_24 rfl (by decide) (by omega) (by omega) ?_
      exact (Rt_mk (by unfold NO; first | exact (bp_t (by omega)).symm | exact (bp_f (by omega)).symm))

theorem dX10_canGo_0 : decode cX10_canGo 0 = .ok (.aload_n 0, 1) := by decide +kernel
theorem dX10_canGo_1 : decode cX10_canGo 1 = .ok (.iload_n 1, 1) := by decide +kernel
theorem dX10_canGo_2 : decode cX10_canGo 2 = .ok (.invokestatic 51, 3) := by decide +kernel
theorem dX10_canGo_5 : decode cX10_canGo 5 = .ok (.istore_n 3, 1) := by decide +kernel
theorem dX10_canGo_6 : decode cX10_canGo 6 = .ok (.iload_n 3, 1) := by decide +kernel
theorem dX10_canGo_7 : decode cX10_canGo 7 = .ok (.iconst (-1), 1) := by decide +kernel
theorem dX10_canGo_8 : decode cX10_canGo 8 = .ok (.if_icmp .eq 27, 3) := by decide +kernel
theorem dX10_canGo_11 : decode cX10_canGo 11 = .ok (.aload_n 0, 1) := by decide +kernel
theorem dX10_canGo_12 : decode cX10_canGo 12 = .ok (.iload_n 2, 1) := by decide +kernel
theorem dX10_canGo_13 : decode cX10_canGo 13 = .ok (.iconst 0, 1) := by decide +kernel
theorem dX10_canGo_14 : decode cX10_canGo 14 = .ok (.invokestatic 75, 3) := by decide +kernel
theorem dX10_canGo_17 : decode cX10_canGo 17 = .ok (.iload_n 3, 1) := by decide +kernel
theorem dX10_canGo_18 : decode cX10_canGo 18 = .ok (.if_icmp .eq 13, 3) := by decide +kernel
theorem dX10_canGo_21 : decode cX10_canGo 21 = .ok (.aload_n 0, 1) := by decide +kernel
theorem dX10_canGo_22 : decode cX10_canGo 22 = .ok (.iload_n 2, 1) := by decide +kernel
theorem dX10_canGo_23 : decode cX10_canGo 23 = .ok (.iconst 1, 1) := by decide +kernel
theorem dX10_canGo_24 : decode cX10_canGo 24 = .ok (.invokestatic 75, 3) := by decide +kernel
theorem dX10_canGo_27 : decode cX10_canGo 27 = .ok (.iload_n 3, 1) := by decide +kernel
theorem dX10_canGo_28 : decode cX10_canGo 28 = .ok (.if_icmp .ne 7, 3) := by decide +kernel
theorem dX10_canGo_31 : decode cX10_canGo 31 = .ok (.iconst 1, 1) := by decide +kernel
theorem dX10_canGo_32 : decode cX10_canGo 32 = .ok (.goto 4, 3) := by decide +kernel
theorem dX10_canGo_35 : decode cX10_canGo 35 = .ok (.iconst 0, 1) := by decide +kernel
theorem dX10_canGo_36 : decode cX10_canGo 36 = .ok (.ireturn, 1) := by decide +kernel
set_option maxRecDepth 100000 in
set_option maxHeartbeats 4000000 in
theorem c_X10_canGo (l : Launch) (G : GT) (n : Nat) (h : AH) (a : Nat) (y : Nat → Nat) (hx : Row a y h) (hI : Iv y) (r w : Nat) (hr : r < y 2) (hw : w < y 1) : Ct l yX10_canGo cX10_canGo 4 (some .boolean) 3 0 0 G n h [.ref a, .int (nI r), .int (nI w)] (Rt (nI (bp (¬ tof y r = NO ∧ (y (7 + 3 * w) = tof y r ∨ y (7 + 3 * w + 1) = tof y r)))) n h) := by
  obtain ⟨⟨i0, i1, i2, i3, i4⟩, iR, iU, iM, iS⟩ := id hI
  obtain ⟨r0, r1, r2, r3, r4⟩ := iR w hw
  have hto := tof_b hI hr
  unfold NO at hto
  refine Ct_of mX10_canGo.1 (Nat.le_of_ble_eq_true rfl) ?_
  intro p e s m args below meth c C hin
  refine V_Le (L' := [(0, .ref a), (1, .int (nI r)), (2, .int (nI w))]) rfl ?_
  refine V_aload_n 1 C dX10_canGo_0 rfl rfl ?_
  refine V_iload_n 2 C dX10_canGo_1 rfl rfl ?_
  refine V_callS 5 C dX10_canGo_2 rfl mX10_townOf tw1073 (c_X10_townOf l G _ _ a y hx hI r hr) rfl rfl (by decide) ⟨by omega, by omega⟩ (Nat.le_of_ble_eq_true rfl) ?_
  rintro _ _ _ ⟨rfl, rfl, rfl⟩
  refine V_istore_n 6 C dX10_canGo_5 rfl (by decide) (L' := [(0, _), (1, _), (2, _), (3, _)]) rfl ?_
  refine V_iload_n 7 C dX10_canGo_6 rfl rfl ?_
  refine V_iconst 8 C dX10_canGo_7 rfl icm1 ?_
  refine V_icmp_eqN 35 11 C dX10_canGo_8 (by decide) rfl (by omega) (by omega) (fun c8 => ?_) (fun c8 => ?_)
  · refine V_iconst 36 C dX10_canGo_35 rfl ic0 ?_
    refine V_ireturn C dX10_canGo_36 rfl (by decide) (by omega) (by omega) ?_
    exact (Rt_mk (by unfold NO; first | exact (bp_t (by omega)).symm | exact (bp_f (by omega)).symm))
  · refine V_aload_n 12 C dX10_canGo_11 rfl rfl ?_
    refine V_iload_n 13 C dX10_canGo_12 rfl rfl ?_
    refine V_iconst 14 C dX10_canGo_13 rfl ic0 ?_
    refine V_callS 17 C dX10_canGo_14 rfl mX10_ofRoad tw1107 (c_X10_ofRoad l G _ _ a y hx w 0 (7 + 3 * w) rfl (by omega) (by omega) (by omega)) rfl rfl (by decide) ⟨by omega, by omega⟩ (Nat.le_of_ble_eq_true rfl) ?_
    rintro _ _ _ ⟨rfl, rfl, rfl⟩
    refine V_iload_n 18 C dX10_canGo_17 rfl rfl ?_
    refine V_icmp_eqN 31 21 C dX10_canGo_18 (by decide) rfl (by omega) (by omega) (fun c18 => ?_) (fun c18 => ?_)
    · refine V_iconst 32 C dX10_canGo_31 rfl ic1 ?_
      refine V_goto 36 C dX10_canGo_32 (by decide) ?_
      refine V_ireturn C dX10_canGo_36 rfl (by decide) (by omega) (by omega) ?_
      exact (Rt_mk (by unfold NO; first | exact (bp_t (by omega)).symm | exact (bp_f (by omega)).symm))
    · refine V_aload_n 22 C dX10_canGo_21 rfl rfl ?_
      refine V_iload_n 23 C dX10_canGo_22 rfl rfl ?_
      refine V_iconst 24 C dX10_canGo_23 rfl ic1 ?_
      refine V_callS 27 C dX10_canGo_24 rfl mX10_ofRoad tw1107 (c_X10_ofRoad l G _ _ a y hx w 1 (7 + 3 * w + 1) rfl (by omega) (by omega) (by omega)) rfl rfl (by decide) ⟨by omega, by omega⟩ (Nat.le_of_ble_eq_true rfl) ?_
      rintro _ _ _ ⟨rfl, rfl, rfl⟩
      refine V_iload_n 28 C dX10_canGo_27 rfl rfl ?_
      refine V_icmp_neN 35 31 C dX10_canGo_28 (by decide) rfl (by omega) (by omega) (fun c28 => ?_) (fun c28 => ?_)
      · refine V_iconst 36 C dX10_canGo_35 rfl ic0 ?_
        refine V_ireturn C dX10_canGo_36 rfl (by decide) (by omega) (by omega) ?_
        exact (Rt_mk (by unfold NO; first | exact (bp_t (by omega)).symm | exact (bp_f (by omega)).symm))
      · refine V_iconst 32 C dX10_canGo_31 rfl ic1 ?_
        refine V_goto 36 C dX10_canGo_32 (by decide) ?_
        refine V_ireturn C dX10_canGo_36 rfl (by decide) (by omega) (by omega) ?_
        exact (Rt_mk (by unfold NO; first | exact (bp_t (by omega)).symm | exact (bp_f (by omega)).symm))

