/-! DIGITS -/
theorem dX2_digitAt_0 : decode cX2_digitAt 0 = .ok (.iload_n 0, 1) := by decide +kernel
theorem dX2_digitAt_1 : decode cX2_digitAt 1 = .ok (.istore_n 2, 1) := by decide +kernel
theorem dX2_digitAt_2 : decode cX2_digitAt 2 = .ok (.iload_n 1, 1) := by decide +kernel
theorem dX2_digitAt_3 : decode cX2_digitAt 3 = .ok (.iconst 1, 1) := by decide +kernel
theorem dX2_digitAt_4 : decode cX2_digitAt 4 = .ok (.iadd, 1) := by decide +kernel
theorem dX2_digitAt_5 : decode cX2_digitAt 5 = .ok (.istore_n 3, 1) := by decide +kernel
theorem dX2_digitAt_6 : decode cX2_digitAt 6 = .ok (.iload_n 3, 1) := by decide +kernel
theorem dX2_digitAt_7 : decode cX2_digitAt 7 = .ok (.bipush 6, 2) := by decide +kernel
theorem dX2_digitAt_9 : decode cX2_digitAt 9 = .ok (.if_icmp .ge 14, 3) := by decide +kernel
theorem dX2_digitAt_12 : decode cX2_digitAt 12 = .ok (.iload_n 2, 1) := by decide +kernel
theorem dX2_digitAt_13 : decode cX2_digitAt 13 = .ok (.bipush 10, 2) := by decide +kernel
theorem dX2_digitAt_15 : decode cX2_digitAt 15 = .ok (.idiv, 1) := by decide +kernel
theorem dX2_digitAt_16 : decode cX2_digitAt 16 = .ok (.istore_n 2, 1) := by decide +kernel
theorem dX2_digitAt_17 : decode cX2_digitAt 17 = .ok (.iinc 3 1, 3) := by decide +kernel
theorem dX2_digitAt_20 : decode cX2_digitAt 20 = .ok (.goto (-14), 3) := by decide +kernel
theorem dX2_digitAt_23 : decode cX2_digitAt 23 = .ok (.iload_n 2, 1) := by decide +kernel
theorem dX2_digitAt_24 : decode cX2_digitAt 24 = .ok (.bipush 10, 2) := by decide +kernel
theorem dX2_digitAt_26 : decode cX2_digitAt 26 = .ok (.irem, 1) := by decide +kernel
theorem dX2_digitAt_27 : decode cX2_digitAt 27 = .ok (.ireturn, 1) := by decide +kernel
set_option maxRecDepth 100000 in
set_option maxHeartbeats 4000000 in
theorem c_X2_digitAt (l : Launch) (G : GT) (n : Nat) (h : AH) (nu pl : Nat) (h1 : nu < 1000000) (h2 : pl < 6) : Ct l yX2_digitAt cX2_digitAt 4 (some .int) 1 0 0 G n h [.int (nI nu), .int (nI pl)] (Rt (nI (dg nu pl)) n h) := by
  refine Ct_of mX2_digitAt.1 (Nat.le_of_ble_eq_true rfl) ?_
  intro p e s m args below meth c C hin
  refine V_Le (L' := [(0, .int (nI nu)), (1, .int (nI pl))]) rfl ?_
  refine V_iload_n 1 C dX2_digitAt_0 rfl rfl ?_
  refine V_istore_n 2 C dX2_digitAt_1 rfl (by decide) (L' := [(0, _), (1, _), (2, _)]) rfl ?_
  refine V_iload_n 3 C dX2_digitAt_2 rfl rfl ?_
  refine V_iconst 4 C dX2_digitAt_3 rfl ic1 ?_
  refine V_iaddN 5 C dX2_digitAt_4 rfl  ?_
  refine V_istore_n 6 C dX2_digitAt_5 rfl (by decide) (L' := [(0, _), (1, _), (2, _), (3, _)]) rfl ?_
  have J6 : ∀ (fuel : Nat) (i : Nat) (hi : i ≤ 6) (hp : pl < i), 6 - i < fuel → V p l e (rmD 1 0 0) s m args below meth c (MQ below (Po G (Rt (nI (dg nu pl)) n h)) args s 0 0 (rg G)) G 4 0 0 n h 6 [(0, .int (nI nu)), (1, .int (nI pl)), (2, .int (nI (nu / p10 (i - (pl + 1))))), (3, .int (nI i))] [] := by
    intro fuel
    induction fuel with
    | zero => intro i hi hp hf; omega
    | succ fuel ih6 =>
      intro i hi hp hf
      have hq : nu / p10 (i - (pl + 1)) ≤ nu := Nat.div_le_self _ _
      refine V_iload_n 7 C dX2_digitAt_6 rfl rfl ?_
      refine V_bipush 9 C dX2_digitAt_7 rfl bip6 ?_
      refine V_icmp_geN 23 12 C dX2_digitAt_9 (by decide) rfl (by omega) (by omega) (fun c9 => ?_) (fun c9 => ?_)
      · refine V_iload_n 24 C dX2_digitAt_23 rfl rfl ?_
        refine V_bipush 26 C dX2_digitAt_24 rfl bip10 ?_
        refine V_iremN 27 C dX2_digitAt_26 rfl (by omega) (by omega) (by omega) ?_
        refine V_ireturn C dX2_digitAt_27 rfl rfl (by omega) (by omega) ?_
        exact (Rt_mk (by rw [show i = 6 from by omega]; unfold dg; rw [show 6 - (pl + 1) = 5 - pl from by omega]))
      · refine V_iload_n 13 C dX2_digitAt_12 rfl rfl ?_
        refine V_bipush 15 C dX2_digitAt_13 rfl bip10 ?_
        refine V_idivN 16 C dX2_digitAt_15 rfl (by omega) (by omega) (by omega) ?_
        refine V_istore_n 17 C dX2_digitAt_16 rfl (by decide) (L' := [(0, _), (1, _), (2, _), (3, _)]) rfl ?_
        refine V_iinc 20 C dX2_digitAt_17 rfl (by decide) rfl (ii1 _) (L' := [(0, _), (1, _), (2, _), (3, _)]) rfl ?_
        refine V_goto 6 C dX2_digitAt_20 (by decide) ?_
        refine V_L [0, 1, 2, 3] rfl ?_
        rw [div10, show i - (pl + 1) + 1 = i + 1 - (pl + 1) from by omega]
        exact ih6 (i + 1) (by omega) (by omega) (by omega)
  refine V_L [0, 1, 2, 3] rfl ?_
  have e0 : nu / p10 (pl + 1 - (pl + 1)) = nu := by rw [Nat.sub_self]; simp [p10]
  have J := J6 (6 - (pl + 1) + 1) (pl + 1) (by omega) (by omega) (by omega)
  rw [e0] at J
  exact J

theorem dX2_raised_0 : decode cX2_raised 0 = .ok (.iconst 1, 1) := by decide +kernel
theorem dX2_raised_1 : decode cX2_raised 1 = .ok (.istore_n 2, 1) := by decide +kernel
theorem dX2_raised_2 : decode cX2_raised 2 = .ok (.iload_n 0, 1) := by decide +kernel
theorem dX2_raised_3 : decode cX2_raised 3 = .ok (.istore_n 3, 1) := by decide +kernel
theorem dX2_raised_4 : decode cX2_raised 4 = .ok (.iload_n 1, 1) := by decide +kernel
theorem dX2_raised_5 : decode cX2_raised 5 = .ok (.iconst 1, 1) := by decide +kernel
theorem dX2_raised_6 : decode cX2_raised 6 = .ok (.iadd, 1) := by decide +kernel
theorem dX2_raised_7 : decode cX2_raised 7 = .ok (.istore 4, 2) := by decide +kernel
theorem dX2_raised_9 : decode cX2_raised 9 = .ok (.iload 4, 2) := by decide +kernel
theorem dX2_raised_11 : decode cX2_raised 11 = .ok (.bipush 6, 2) := by decide +kernel
theorem dX2_raised_13 : decode cX2_raised 13 = .ok (.if_icmp .ge 19, 3) := by decide +kernel
theorem dX2_raised_16 : decode cX2_raised 16 = .ok (.iload_n 2, 1) := by decide +kernel
theorem dX2_raised_17 : decode cX2_raised 17 = .ok (.bipush 10, 2) := by decide +kernel
theorem dX2_raised_19 : decode cX2_raised 19 = .ok (.imul, 1) := by decide +kernel
theorem dX2_raised_20 : decode cX2_raised 20 = .ok (.istore_n 2, 1) := by decide +kernel
theorem dX2_raised_21 : decode cX2_raised 21 = .ok (.iload_n 3, 1) := by decide +kernel
theorem dX2_raised_22 : decode cX2_raised 22 = .ok (.bipush 10, 2) := by decide +kernel
theorem dX2_raised_24 : decode cX2_raised 24 = .ok (.idiv, 1) := by decide +kernel
theorem dX2_raised_25 : decode cX2_raised 25 = .ok (.istore_n 3, 1) := by decide +kernel
theorem dX2_raised_26 : decode cX2_raised 26 = .ok (.iinc 4 1, 3) := by decide +kernel
theorem dX2_raised_29 : decode cX2_raised 29 = .ok (.goto (-20), 3) := by decide +kernel
theorem dX2_raised_32 : decode cX2_raised 32 = .ok (.iload_n 3, 1) := by decide +kernel
theorem dX2_raised_33 : decode cX2_raised 33 = .ok (.bipush 10, 2) := by decide +kernel
theorem dX2_raised_35 : decode cX2_raised 35 = .ok (.irem, 1) := by decide +kernel
theorem dX2_raised_36 : decode cX2_raised 36 = .ok (.bipush 9, 2) := by decide +kernel
theorem dX2_raised_38 : decode cX2_raised 38 = .ok (.if_icmp .ne 12, 3) := by decide +kernel
theorem dX2_raised_41 : decode cX2_raised 41 = .ok (.iload_n 0, 1) := by decide +kernel
theorem dX2_raised_42 : decode cX2_raised 42 = .ok (.bipush 9, 2) := by decide +kernel
theorem dX2_raised_44 : decode cX2_raised 44 = .ok (.iload_n 2, 1) := by decide +kernel
theorem dX2_raised_45 : decode cX2_raised 45 = .ok (.imul, 1) := by decide +kernel
theorem dX2_raised_46 : decode cX2_raised 46 = .ok (.isub, 1) := by decide +kernel
theorem dX2_raised_47 : decode cX2_raised 47 = .ok (.goto 6, 3) := by decide +kernel
theorem dX2_raised_50 : decode cX2_raised 50 = .ok (.iload_n 0, 1) := by decide +kernel
theorem dX2_raised_51 : decode cX2_raised 51 = .ok (.iload_n 2, 1) := by decide +kernel
theorem dX2_raised_52 : decode cX2_raised 52 = .ok (.iadd, 1) := by decide +kernel
theorem dX2_raised_53 : decode cX2_raised 53 = .ok (.ireturn, 1) := by decide +kernel
set_option maxRecDepth 100000 in
set_option maxHeartbeats 4000000 in
theorem c_X2_raised (l : Launch) (G : GT) (n : Nat) (h : AH) (nu pl : Nat) (h1 : nu < 1000000) (h2 : pl < 6) : Ct l yX2_raised cX2_raised 5 (some .int) 1 0 0 G n h [.int (nI nu), .int (nI pl)] (Rt (nI (rz nu pl)) n h) := by
  refine Ct_of mX2_raised.1 (Nat.le_of_ble_eq_true rfl) ?_
  intro p e s m args below meth c C hin
  refine V_Le (L' := [(0, .int (nI nu)), (1, .int (nI pl))]) rfl ?_
  refine V_iconst 1 C dX2_raised_0 rfl ic1 ?_
  refine V_istore_n 2 C dX2_raised_1 rfl (by decide) (L' := [(0, _), (1, _), (2, _)]) rfl ?_
  refine V_iload_n 3 C dX2_raised_2 rfl rfl ?_
  refine V_istore_n 4 C dX2_raised_3 rfl (by decide) (L' := [(0, _), (1, _), (2, _), (3, _)]) rfl ?_
  refine V_iload_n 5 C dX2_raised_4 rfl rfl ?_
  refine V_iconst 6 C dX2_raised_5 rfl ic1 ?_
  refine V_iaddN 7 C dX2_raised_6 rfl  ?_
  refine V_istore 9 C dX2_raised_7 rfl (by decide) (L' := [(0, _), (1, _), (2, _), (3, _), (4, _)]) rfl ?_
  have J9 : ∀ (fuel : Nat) (i : Nat) (hi : i ≤ 6) (hp : pl < i), 6 - i < fuel → V p l e (rmD 1 0 0) s m args below meth c (MQ below (Po G (Rt (nI (rz nu pl)) n h)) args s 0 0 (rg G)) G 5 0 0 n h 9 [(0, .int (nI nu)), (1, .int (nI pl)), (2, .int (nI (p10 (i - (pl + 1))))), (3, .int (nI (nu / p10 (i - (pl + 1))))), (4, .int (nI i))] [] := by
    intro fuel
    induction fuel with
    | zero => intro i hi hp hf; omega
    | succ fuel ih9 =>
      intro i hi hp hf
      have hq : nu / p10 (i - (pl + 1)) ≤ nu := Nat.div_le_self _ _
      refine V_iload 11 C dX2_raised_9 rfl rfl ?_
      refine V_bipush 13 C dX2_raised_11 rfl bip6 ?_
      refine V_icmp_geN 32 16 C dX2_raised_13 (by decide) rfl (by omega) (by omega) (fun c13 => ?_) (fun c13 => ?_)
      · have J53 : ∀ (k : Nat) (hk : k = rz nu pl), V p l e (rmD 1 0 0) s m args below meth c (MQ below (Po G (Rt (nI (rz nu pl)) n h)) args s 0 0 (rg G)) G 5 0 0 n h 53 [(0, .int (nI nu))] [.int (nI k)] := by
          intro k hk
          refine V_ireturn C dX2_raised_53 rfl rfl (by omega) (by omega) ?_
          exact (Rt_mk hk)
        have ei : i = 6 := by omega
        subst ei
        rw [show 6 - (pl + 1) = 5 - pl from by omega] at hq ⊢
        refine V_iload_n 33 C dX2_raised_32 rfl rfl ?_
        refine V_bipush 35 C dX2_raised_33 rfl bip10 ?_
        refine V_iremN 36 C dX2_raised_35 rfl (by omega) (by omega) (by omega) ?_
        refine V_bipush 38 C dX2_raised_36 rfl bip9 ?_
        refine V_icmp_neN 50 41 C dX2_raised_38 (by decide) rfl (by omega) (by omega) (fun c38 => ?_) (fun c38 => ?_)
        · have h9 : ¬ dg nu pl = 9 := c38
          refine V_iload_n 51 C dX2_raised_50 rfl rfl ?_
          refine V_iload_n 52 C dX2_raised_51 rfl rfl ?_
          refine V_iaddN 53 C dX2_raised_52 rfl  ?_
          refine V_L [0] rfl ?_
          exact J53 _ (by unfold rz; rw [if_neg h9])
        · have h9 : dg nu pl = 9 := c38
          have h9s := rz_sub h9
          refine V_iload_n 42 C dX2_raised_41 rfl rfl ?_
          refine V_bipush 44 C dX2_raised_42 rfl bip9 ?_
          refine V_iload_n 45 C dX2_raised_44 rfl rfl ?_
          refine V_imulN 46 C dX2_raised_45 rfl  ?_
          refine V_isubN 47 C dX2_raised_46 rfl (by omega) ?_
          refine V_goto 53 C dX2_raised_47 (by decide) ?_
          refine V_L [0] rfl ?_
          exact J53 _ (by unfold rz; rw [if_pos h9])
      · refine V_iload_n 17 C dX2_raised_16 rfl rfl ?_
        refine V_bipush 19 C dX2_raised_17 rfl bip10 ?_
        refine V_imulN 20 C dX2_raised_19 rfl  ?_
        refine V_istore_n 21 C dX2_raised_20 rfl (by decide) (L' := [(0, _), (1, _), (2, _), (3, _), (4, _)]) rfl ?_
        refine V_iload_n 22 C dX2_raised_21 rfl rfl ?_
        refine V_bipush 24 C dX2_raised_22 rfl bip10 ?_
        refine V_idivN 25 C dX2_raised_24 rfl (by omega) (by omega) (by omega) ?_
        refine V_istore_n 26 C dX2_raised_25 rfl (by decide) (L' := [(0, _), (1, _), (2, _), (3, _), (4, _)]) rfl ?_
        refine V_iinc 29 C dX2_raised_26 rfl (by decide) rfl (ii1 _) (L' := [(0, _), (1, _), (2, _), (3, _), (4, _)]) rfl ?_
        refine V_goto 9 C dX2_raised_29 (by decide) ?_
        refine V_L [0, 1, 2, 3, 4] rfl ?_
        rw [div10, show p10 (i - (pl + 1)) * 10 = p10 (i - (pl + 1) + 1) from by simp only [p10]; omega, show i - (pl + 1) + 1 = i + 1 - (pl + 1) from by omega]
        exact ih9 (i + 1) (by omega) (by omega) (by omega)
  refine V_L [0, 1, 2, 3, 4] rfl ?_
  have e0 : nu / p10 (pl + 1 - (pl + 1)) = nu := by rw [Nat.sub_self]; simp [p10]
  have e1 : p10 (pl + 1 - (pl + 1)) = 1 := by rw [Nat.sub_self]; rfl
  have J := J9 (6 - (pl + 1) + 1) (pl + 1) (by omega) (by omega) (by omega)
  rw [e0, e1] at J
  exact J

theorem dX2_unlikePlaces_0 : decode cX2_unlikePlaces 0 = .ok (.iconst 0, 1) := by decide +kernel
theorem dX2_unlikePlaces_1 : decode cX2_unlikePlaces 1 = .ok (.istore_n 2, 1) := by decide +kernel
theorem dX2_unlikePlaces_2 : decode cX2_unlikePlaces 2 = .ok (.iconst 0, 1) := by decide +kernel
theorem dX2_unlikePlaces_3 : decode cX2_unlikePlaces 3 = .ok (.istore_n 3, 1) := by decide +kernel
theorem dX2_unlikePlaces_4 : decode cX2_unlikePlaces 4 = .ok (.iload_n 3, 1) := by decide +kernel
theorem dX2_unlikePlaces_5 : decode cX2_unlikePlaces 5 = .ok (.bipush 6, 2) := by decide +kernel
theorem dX2_unlikePlaces_7 : decode cX2_unlikePlaces 7 = .ok (.if_icmp .ge 25, 3) := by decide +kernel
theorem dX2_unlikePlaces_10 : decode cX2_unlikePlaces 10 = .ok (.iload_n 0, 1) := by decide +kernel
theorem dX2_unlikePlaces_11 : decode cX2_unlikePlaces 11 = .ok (.iload_n 3, 1) := by decide +kernel
theorem dX2_unlikePlaces_12 : decode cX2_unlikePlaces 12 = .ok (.invokestatic 9, 3) := by decide +kernel
theorem dX2_unlikePlaces_15 : decode cX2_unlikePlaces 15 = .ok (.iload_n 1, 1) := by decide +kernel
theorem dX2_unlikePlaces_16 : decode cX2_unlikePlaces 16 = .ok (.iload_n 3, 1) := by decide +kernel
theorem dX2_unlikePlaces_17 : decode cX2_unlikePlaces 17 = .ok (.invokestatic 9, 3) := by decide +kernel
theorem dX2_unlikePlaces_20 : decode cX2_unlikePlaces 20 = .ok (.if_icmp .eq 6, 3) := by decide +kernel
theorem dX2_unlikePlaces_23 : decode cX2_unlikePlaces 23 = .ok (.iinc 2 1, 3) := by decide +kernel
theorem dX2_unlikePlaces_26 : decode cX2_unlikePlaces 26 = .ok (.iinc 3 1, 3) := by decide +kernel
theorem dX2_unlikePlaces_29 : decode cX2_unlikePlaces 29 = .ok (.goto (-25), 3) := by decide +kernel
theorem dX2_unlikePlaces_32 : decode cX2_unlikePlaces 32 = .ok (.iload_n 2, 1) := by decide +kernel
theorem dX2_unlikePlaces_33 : decode cX2_unlikePlaces 33 = .ok (.ireturn, 1) := by decide +kernel
set_option maxRecDepth 100000 in
set_option maxHeartbeats 4000000 in
theorem c_X2_unlikePlaces (l : Launch) (G : GT) (n : Nat) (h : AH) (a b : Nat) (h1 : a < 1000000) (h2 : b < 1000000) : Ct l yX2_unlikePlaces cX2_unlikePlaces 4 (some .int) 2 0 0 G n h [.int (nI a), .int (nI b)] (Rt (nI (ud a b)) n h) := by
  refine Ct_of mX2_unlikePlaces.1 (Nat.le_of_ble_eq_true rfl) ?_
  intro p e s m args below meth c C hin
  refine V_Le (L' := [(0, .int (nI a)), (1, .int (nI b))]) rfl ?_
  refine V_iconst 1 C dX2_unlikePlaces_0 rfl ic0 ?_
  refine V_istore_n 2 C dX2_unlikePlaces_1 rfl (by decide) (L' := [(0, _), (1, _), (2, _)]) rfl ?_
  refine V_iconst 3 C dX2_unlikePlaces_2 rfl ic0 ?_
  refine V_istore_n 4 C dX2_unlikePlaces_3 rfl (by decide) (L' := [(0, _), (1, _), (2, _), (3, _)]) rfl ?_
  have J4 : ∀ (fuel : Nat) (i : Nat) (hi : i ≤ 6), 6 - i < fuel → V p l e (rmD 2 0 0) s m args below meth c (MQ below (Po G (Rt (nI (ud a b)) n h)) args s 0 0 (rg G)) G 4 0 0 n h 4 [(0, .int (nI a)), (1, .int (nI b)), (2, .int (nI (udk a b i))), (3, .int (nI i))] [] := by
    intro fuel
    induction fuel with
    | zero => intro i hi hf; omega
    | succ fuel ih4 =>
      intro i hi hf
      refine V_iload_n 5 C dX2_unlikePlaces_4 rfl rfl ?_
      refine V_bipush 7 C dX2_unlikePlaces_5 rfl bip6 ?_
      refine V_icmp_geN 32 10 C dX2_unlikePlaces_7 (by decide) rfl (by omega) (by omega) (fun c7 => ?_) (fun c7 => ?_)
      · refine V_iload_n 33 C dX2_unlikePlaces_32 rfl rfl ?_
        refine V_ireturn C dX2_unlikePlaces_33 rfl rfl (by omega) (by omega) ?_
        exact (Rt_mk (by rw [show i = 6 from by omega]; rfl))
      · have J26 : ∀ (k : Nat) (hk : k = udk a b (i + 1)), V p l e (rmD 2 0 0) s m args below meth c (MQ below (Po G (Rt (nI (ud a b)) n h)) args s 0 0 (rg G)) G 4 0 0 n h 26 [(0, .int (nI a)), (1, .int (nI b)), (2, .int (nI k)), (3, .int (nI i))] [] := by
          intro k hk
          subst hk
          refine V_iinc 29 C dX2_unlikePlaces_26 rfl (by decide) rfl (ii1 _) (L' := [(0, _), (1, _), (2, _), (3, _)]) rfl ?_
          refine V_goto 4 C dX2_unlikePlaces_29 (by decide) ?_
          refine V_L [0, 1, 2, 3] rfl ?_
          exact ih4 (i + 1) (by omega) (by omega)
        refine V_iload_n 11 C dX2_unlikePlaces_10 rfl rfl ?_
        refine V_iload_n 12 C dX2_unlikePlaces_11 rfl rfl ?_
        refine V_callS 15 C dX2_unlikePlaces_12 rfl mX2_digitAt tw552 (c_X2_digitAt l G _ _ a i h1 (by omega)) rfl rfl (by decide) ⟨by omega, by omega⟩ (Nat.le_of_ble_eq_true rfl) ?_
        rintro _ _ _ ⟨rfl, rfl, rfl⟩
        refine V_iload_n 16 C dX2_unlikePlaces_15 rfl rfl ?_
        refine V_iload_n 17 C dX2_unlikePlaces_16 rfl rfl ?_
        refine V_callS 20 C dX2_unlikePlaces_17 rfl mX2_digitAt tw552 (c_X2_digitAt l G _ _ b i h2 (by omega)) rfl rfl (by decide) ⟨by omega, by omega⟩ (Nat.le_of_ble_eq_true rfl) ?_
        rintro _ _ _ ⟨rfl, rfl, rfl⟩
        refine V_icmp_eqN 26 23 C dX2_unlikePlaces_20 (by decide) rfl (by have := dg_lt a i; omega) (by have := dg_lt b i; omega) (fun c20 => ?_) (fun c20 => ?_)
        · refine V_L [0, 1, 2, 3] rfl ?_
          exact J26 _ (by simp only [udk]; rw [bp_f (not_not_intro c20)]; rfl)
        · refine V_iinc 26 C dX2_unlikePlaces_23 rfl (by decide) rfl (ii1 _) (L' := [(0, _), (1, _), (2, _), (3, _)]) rfl ?_
          refine V_L [0, 1, 2, 3] rfl ?_
          exact J26 _ (by simp only [udk]; rw [bp_t c20])
  refine V_L [0, 1, 2, 3] rfl ?_
  exact J4 7 0 (by omega) (by omega)

theorem dX2_majority_0 : decode cX2_majority 0 = .ok (.iconst 0, 1) := by decide +kernel
theorem dX2_majority_1 : decode cX2_majority 1 = .ok (.istore_n 3, 1) := by decide +kernel
theorem dX2_majority_2 : decode cX2_majority 2 = .ok (.iconst 0, 1) := by decide +kernel
theorem dX2_majority_3 : decode cX2_majority 3 = .ok (.istore 4, 2) := by decide +kernel
theorem dX2_majority_5 : decode cX2_majority 5 = .ok (.iload 4, 2) := by decide +kernel
theorem dX2_majority_7 : decode cX2_majority 7 = .ok (.bipush 6, 2) := by decide +kernel
theorem dX2_majority_9 : decode cX2_majority 9 = .ok (.if_icmp .ge 48, 3) := by decide +kernel
theorem dX2_majority_12 : decode cX2_majority 12 = .ok (.iload_n 0, 1) := by decide +kernel
theorem dX2_majority_13 : decode cX2_majority 13 = .ok (.iload 4, 2) := by decide +kernel
theorem dX2_majority_15 : decode cX2_majority 15 = .ok (.invokestatic 9, 3) := by decide +kernel
theorem dX2_majority_18 : decode cX2_majority 18 = .ok (.istore 5, 2) := by decide +kernel
theorem dX2_majority_20 : decode cX2_majority 20 = .ok (.iload_n 1, 1) := by decide +kernel
theorem dX2_majority_21 : decode cX2_majority 21 = .ok (.iload 4, 2) := by decide +kernel
theorem dX2_majority_23 : decode cX2_majority 23 = .ok (.invokestatic 9, 3) := by decide +kernel
theorem dX2_majority_26 : decode cX2_majority 26 = .ok (.iload_n 2, 1) := by decide +kernel
theorem dX2_majority_27 : decode cX2_majority 27 = .ok (.iload 4, 2) := by decide +kernel
theorem dX2_majority_29 : decode cX2_majority 29 = .ok (.invokestatic 9, 3) := by decide +kernel
theorem dX2_majority_32 : decode cX2_majority 32 = .ok (.if_icmp .ne 11, 3) := by decide +kernel
theorem dX2_majority_35 : decode cX2_majority 35 = .ok (.iload_n 1, 1) := by decide +kernel
theorem dX2_majority_36 : decode cX2_majority 36 = .ok (.iload 4, 2) := by decide +kernel
theorem dX2_majority_38 : decode cX2_majority 38 = .ok (.invokestatic 9, 3) := by decide +kernel
theorem dX2_majority_41 : decode cX2_majority 41 = .ok (.istore 5, 2) := by decide +kernel
theorem dX2_majority_43 : decode cX2_majority 43 = .ok (.bipush 10, 2) := by decide +kernel
theorem dX2_majority_45 : decode cX2_majority 45 = .ok (.iload_n 3, 1) := by decide +kernel
theorem dX2_majority_46 : decode cX2_majority 46 = .ok (.imul, 1) := by decide +kernel
theorem dX2_majority_47 : decode cX2_majority 47 = .ok (.iload 5, 2) := by decide +kernel
theorem dX2_majority_49 : decode cX2_majority 49 = .ok (.iadd, 1) := by decide +kernel
theorem dX2_majority_50 : decode cX2_majority 50 = .ok (.istore_n 3, 1) := by decide +kernel
theorem dX2_majority_51 : decode cX2_majority 51 = .ok (.iinc 4 1, 3) := by decide +kernel
theorem dX2_majority_54 : decode cX2_majority 54 = .ok (.goto (-49), 3) := by decide +kernel
theorem dX2_majority_57 : decode cX2_majority 57 = .ok (.iload_n 3, 1) := by decide +kernel
theorem dX2_majority_58 : decode cX2_majority 58 = .ok (.ireturn, 1) := by decide +kernel
set_option maxRecDepth 100000 in
set_option maxHeartbeats 4000000 in
theorem c_X2_majority (l : Launch) (G : GT) (n : Nat) (h : AH) (a b c3 : Nat) (h1 : a < 1000000) (h2 : b < 1000000) (h3 : c3 < 1000000) : Ct l yX2_majority cX2_majority 6 (some .int) 2 0 0 G n h [.int (nI a), .int (nI b), .int (nI c3)] (Rt (nI (mj a b c3)) n h) := by
  refine Ct_of mX2_majority.1 (Nat.le_of_ble_eq_true rfl) ?_
  intro p e s m args below meth c C hin
  refine V_Le (L' := [(0, .int (nI a)), (1, .int (nI b)), (2, .int (nI c3))]) rfl ?_
  refine V_iconst 1 C dX2_majority_0 rfl ic0 ?_
  refine V_istore_n 2 C dX2_majority_1 rfl (by decide) (L' := [(0, _), (1, _), (2, _), (3, _)]) rfl ?_
  refine V_iconst 3 C dX2_majority_2 rfl ic0 ?_
  refine V_istore 5 C dX2_majority_3 rfl (by decide) (L' := [(0, _), (1, _), (2, _), (3, _), (4, _)]) rfl ?_
  have J5 : ∀ (fuel : Nat) (i : Nat) (hi : i ≤ 6), 6 - i < fuel → V p l e (rmD 2 0 0) s m args below meth c (MQ below (Po G (Rt (nI (mj a b c3)) n h)) args s 0 0 (rg G)) G 6 0 0 n h 5 [(0, .int (nI a)), (1, .int (nI b)), (2, .int (nI c3)), (3, .int (nI (mjk a b c3 i))), (4, .int (nI i))] [] := by
    intro fuel
    induction fuel with
    | zero => intro i hi hf; omega
    | succ fuel ih5 =>
      intro i hi hf
      refine V_iload 7 C dX2_majority_5 rfl rfl ?_
      refine V_bipush 9 C dX2_majority_7 rfl bip6 ?_
      refine V_icmp_geN 57 12 C dX2_majority_9 (by decide) rfl (by omega) (by omega) (fun c9 => ?_) (fun c9 => ?_)
      · refine V_iload_n 58 C dX2_majority_57 rfl rfl ?_
        refine V_ireturn C dX2_majority_58 rfl rfl (by omega) (by omega) ?_
        exact (Rt_mk (by rw [show i = 6 from by omega]; rfl))
      · have J43 : ∀ (k : Nat) (hk : k = mjd a b c3 i), V p l e (rmD 2 0 0) s m args below meth c (MQ below (Po G (Rt (nI (mj a b c3)) n h)) args s 0 0 (rg G)) G 6 0 0 n h 43 [(0, .int (nI a)), (1, .int (nI b)), (2, .int (nI c3)), (3, .int (nI (mjk a b c3 i))), (4, .int (nI i)), (5, .int (nI k))] [] := by
          intro k hk
          subst hk
          refine V_bipush 45 C dX2_majority_43 rfl bip10 ?_
          refine V_iload_n 46 C dX2_majority_45 rfl rfl ?_
          refine V_imulN 47 C dX2_majority_46 rfl  ?_
          refine V_iload 49 C dX2_majority_47 rfl rfl ?_
          refine V_iaddN 50 C dX2_majority_49 rfl  ?_
          refine V_istore_n 51 C dX2_majority_50 rfl (by decide) (L' := [(0, _), (1, _), (2, _), (3, _), (4, _), (5, _)]) rfl ?_
          refine V_iinc 54 C dX2_majority_51 rfl (by decide) rfl (ii1 _) (L' := [(0, _), (1, _), (2, _), (3, _), (4, _), (5, _)]) rfl ?_
          refine V_goto 5 C dX2_majority_54 (by decide) ?_
          refine V_L [0, 1, 2, 3, 4] rfl ?_
          exact ih5 (i + 1) (by omega) (by omega)
        refine V_iload_n 13 C dX2_majority_12 rfl rfl ?_
        refine V_iload 15 C dX2_majority_13 rfl rfl ?_
        refine V_callS 18 C dX2_majority_15 rfl mX2_digitAt tw552 (c_X2_digitAt l G _ _ a i h1 (by omega)) rfl rfl (by decide) ⟨by omega, by omega⟩ (Nat.le_of_ble_eq_true rfl) ?_
        rintro _ _ _ ⟨rfl, rfl, rfl⟩
        refine V_istore 20 C dX2_majority_18 rfl (by decide) (L' := [(0, _), (1, _), (2, _), (3, _), (4, _), (5, _)]) rfl ?_
        refine V_iload_n 21 C dX2_majority_20 rfl rfl ?_
        refine V_iload 23 C dX2_majority_21 rfl rfl ?_
        refine V_callS 26 C dX2_majority_23 rfl mX2_digitAt tw552 (c_X2_digitAt l G _ _ b i h2 (by omega)) rfl rfl (by decide) ⟨by omega, by omega⟩ (Nat.le_of_ble_eq_true rfl) ?_
        rintro _ _ _ ⟨rfl, rfl, rfl⟩
        refine V_iload_n 27 C dX2_majority_26 rfl rfl ?_
        refine V_iload 29 C dX2_majority_27 rfl rfl ?_
        refine V_callS 32 C dX2_majority_29 rfl mX2_digitAt tw552 (c_X2_digitAt l G _ _ c3 i h3 (by omega)) rfl rfl (by decide) ⟨by omega, by omega⟩ (Nat.le_of_ble_eq_true rfl) ?_
        rintro _ _ _ ⟨rfl, rfl, rfl⟩
        refine V_icmp_neN 43 35 C dX2_majority_32 (by decide) rfl (by have := dg_lt b i; omega) (by have := dg_lt c3 i; omega) (fun c32 => ?_) (fun c32 => ?_)
        · refine V_L [0, 1, 2, 3, 4, 5] rfl ?_
          exact J43 _ (by unfold mjd; rw [if_neg c32])
        · refine V_iload_n 36 C dX2_majority_35 rfl rfl ?_
          refine V_iload 38 C dX2_majority_36 rfl rfl ?_
          refine V_callS 41 C dX2_majority_38 rfl mX2_digitAt tw552 (c_X2_digitAt l G _ _ b i h2 (by omega)) rfl rfl (by decide) ⟨by omega, by omega⟩ (Nat.le_of_ble_eq_true rfl) ?_
          rintro _ _ _ ⟨rfl, rfl, rfl⟩
          refine V_istore 43 C dX2_majority_41 rfl (by decide) (L' := [(0, _), (1, _), (2, _), (3, _), (4, _), (5, _)]) rfl ?_
          refine V_L [0, 1, 2, 3, 4, 5] rfl ?_
          exact J43 _ (by unfold mjd; rw [if_pos c32])
  refine V_L [0, 1, 2, 3, 4] rfl ?_
  exact J5 7 0 (by omega) (by omega)


