/-! THE LAW'S SMALL METHODS -/
theorem dL_thrown_0 : decode cL_thrown 0 = .ok (.iload_n 0, 1) := by decide +kernel
theorem dL_thrown_1 : decode cL_thrown 1 = .ok (.ldc 15, 2) := by decide +kernel
theorem dL_thrown_3 : decode cL_thrown 3 = .ok (.if_icmp .eq 15, 3) := by decide +kernel
theorem dL_thrown_6 : decode cL_thrown 6 = .ok (.iload_n 0, 1) := by decide +kernel
theorem dL_thrown_7 : decode cL_thrown 7 = .ok (.ldc 18, 2) := by decide +kernel
theorem dL_thrown_9 : decode cL_thrown 9 = .ok (.if_icmp .eq 9, 3) := by decide +kernel
theorem dL_thrown_12 : decode cL_thrown 12 = .ok (.iload_n 0, 1) := by decide +kernel
theorem dL_thrown_13 : decode cL_thrown 13 = .ok (.ldc 33, 2) := by decide +kernel
theorem dL_thrown_15 : decode cL_thrown 15 = .ok (.if_icmp .ne 7, 3) := by decide +kernel
theorem dL_thrown_18 : decode cL_thrown 18 = .ok (.iconst 1, 1) := by decide +kernel
theorem dL_thrown_19 : decode cL_thrown 19 = .ok (.goto 4, 3) := by decide +kernel
theorem dL_thrown_22 : decode cL_thrown 22 = .ok (.iconst 0, 1) := by decide +kernel
theorem dL_thrown_23 : decode cL_thrown 23 = .ok (.ireturn, 1) := by decide +kernel
set_option maxRecDepth 100000 in
set_option maxHeartbeats 4000000 in
theorem c_L_thrown (l : Launch) (G : GT) (n : Nat) (h : AH) (v : Int32) (h1 : ¬ v = eI) (h2 : ¬ v = eA) (h3 : ¬ v = eS) : Ct l yL_thrown cL_thrown 1 (some .boolean) 1 0 0 G n h [.int v] (Rt (nI 0) n h) := by
  refine Ct_of mL_thrown.1 (Nat.le_of_ble_eq_true rfl) ?_
  intro p₀ e₀ s₀ m₀ as₀ bl₀ me₀ c₀ C hin
  refine V_Le (L' := [(0, .int v)]) rfl ?_
  refine V_iload_n 1 C dL_thrown_0 rfl rfl ?_
  refine V_ldc 3 C dL_thrown_1 rfl tw593 ?_
  refine V_icmp_eq 18 6 C dL_thrown_3 (by decide) rfl (fun c => absurd c h1) (fun c => ?_)
  refine V_iload_n 7 C dL_thrown_6 rfl rfl ?_
  refine V_ldc 9 C dL_thrown_7 rfl tw360 ?_
  refine V_icmp_eq 18 12 C dL_thrown_9 (by decide) rfl (fun c => absurd c h2) (fun c => ?_)
  refine V_iload_n 13 C dL_thrown_12 rfl rfl ?_
  refine V_ldc 15 C dL_thrown_13 rfl tw361 ?_
  refine V_icmp_ne 22 18 C dL_thrown_15 (by decide) rfl (fun c => ?_) (fun c => absurd c h3)
  refine V_iconst 23 C dL_thrown_22 rfl ic0 ?_
  refine V_ireturn C dL_thrown_23 rfl nar_0 (by omega) (by omega) ?_
  exact ⟨rfl, rfl, rfl⟩
theorem dL_differ_0 : decode cL_differ 0 = .ok (.iload_n 0, 1) := by decide +kernel
theorem dL_differ_1 : decode cL_differ 1 = .ok (.istore_n 2, 1) := by decide +kernel
theorem dL_differ_2 : decode cL_differ 2 = .ok (.iload_n 1, 1) := by decide +kernel
theorem dL_differ_3 : decode cL_differ 3 = .ok (.istore_n 3, 1) := by decide +kernel
theorem dL_differ_4 : decode cL_differ 4 = .ok (.iconst 0, 1) := by decide +kernel
theorem dL_differ_5 : decode cL_differ 5 = .ok (.istore 4, 2) := by decide +kernel
theorem dL_differ_7 : decode cL_differ 7 = .ok (.iconst 0, 1) := by decide +kernel
theorem dL_differ_8 : decode cL_differ 8 = .ok (.istore 5, 2) := by decide +kernel
theorem dL_differ_10 : decode cL_differ 10 = .ok (.iload 5, 2) := by decide +kernel
theorem dL_differ_12 : decode cL_differ 12 = .ok (.bipush 6, 2) := by decide +kernel
theorem dL_differ_14 : decode cL_differ 14 = .ok (.if_icmp .ge 40, 3) := by decide +kernel
theorem dL_differ_17 : decode cL_differ 17 = .ok (.iload 4, 2) := by decide +kernel
theorem dL_differ_19 : decode cL_differ 19 = .ok (.iload_n 2, 1) := by decide +kernel
theorem dL_differ_20 : decode cL_differ 20 = .ok (.bipush 10, 2) := by decide +kernel
theorem dL_differ_22 : decode cL_differ 22 = .ok (.irem, 1) := by decide +kernel
theorem dL_differ_23 : decode cL_differ 23 = .ok (.iload_n 3, 1) := by decide +kernel
theorem dL_differ_24 : decode cL_differ 24 = .ok (.bipush 10, 2) := by decide +kernel
theorem dL_differ_26 : decode cL_differ 26 = .ok (.irem, 1) := by decide +kernel
theorem dL_differ_27 : decode cL_differ 27 = .ok (.if_icmp .ne 7, 3) := by decide +kernel
theorem dL_differ_30 : decode cL_differ 30 = .ok (.iconst 0, 1) := by decide +kernel
theorem dL_differ_31 : decode cL_differ 31 = .ok (.goto 4, 3) := by decide +kernel
theorem dL_differ_34 : decode cL_differ 34 = .ok (.iconst 1, 1) := by decide +kernel
theorem dL_differ_35 : decode cL_differ 35 = .ok (.iadd, 1) := by decide +kernel
theorem dL_differ_36 : decode cL_differ 36 = .ok (.istore 4, 2) := by decide +kernel
theorem dL_differ_38 : decode cL_differ 38 = .ok (.iload_n 2, 1) := by decide +kernel
theorem dL_differ_39 : decode cL_differ 39 = .ok (.bipush 10, 2) := by decide +kernel
theorem dL_differ_41 : decode cL_differ 41 = .ok (.idiv, 1) := by decide +kernel
theorem dL_differ_42 : decode cL_differ 42 = .ok (.istore_n 2, 1) := by decide +kernel
theorem dL_differ_43 : decode cL_differ 43 = .ok (.iload_n 3, 1) := by decide +kernel
theorem dL_differ_44 : decode cL_differ 44 = .ok (.bipush 10, 2) := by decide +kernel
theorem dL_differ_46 : decode cL_differ 46 = .ok (.idiv, 1) := by decide +kernel
theorem dL_differ_47 : decode cL_differ 47 = .ok (.istore_n 3, 1) := by decide +kernel
theorem dL_differ_48 : decode cL_differ 48 = .ok (.iinc 5 1, 3) := by decide +kernel
theorem dL_differ_51 : decode cL_differ 51 = .ok (.goto (-41), 3) := by decide +kernel
theorem dL_differ_54 : decode cL_differ 54 = .ok (.iload 4, 2) := by decide +kernel
theorem dL_differ_56 : decode cL_differ 56 = .ok (.ireturn, 1) := by decide +kernel
set_option maxRecDepth 100000 in
set_option maxHeartbeats 4000000 in
theorem c_L_differ (l : Launch) (G : GT) (n : Nat) (h : AH) (a b : Nat) (h1 : a < 1000000) (h2 : b < 1000000) : Ct l yL_differ cL_differ 6 (some .int) 1 0 0 G n h [.int (nI a), .int (nI b)] (Rt (nI (ud a b)) n h) := by
  refine Ct_of mL_differ.1 (Nat.le_of_ble_eq_true rfl) ?_
  intro p₀ e₀ s₀ m₀ as₀ bl₀ me₀ c₀ C hin
  refine V_Le (L' := [(0, .int (nI a)), (1, .int (nI b))]) rfl ?_
  refine V_iload_n 1 C dL_differ_0 rfl rfl ?_
  refine V_istore_n 2 C dL_differ_1 rfl (by decide) (L' := [(0, _), (1, _), (2, _)]) rfl ?_
  refine V_iload_n 3 C dL_differ_2 rfl rfl ?_
  refine V_istore_n 4 C dL_differ_3 rfl (by decide) (L' := [(0, _), (1, _), (2, _), (3, _)]) rfl ?_
  refine V_iconst 5 C dL_differ_4 rfl ic0 ?_
  refine V_istore 7 C dL_differ_5 rfl (by decide) (L' := [(0, _), (1, _), (2, _), (3, _), (4, _)]) rfl ?_
  refine V_iconst 8 C dL_differ_7 rfl ic0 ?_
  refine V_istore 10 C dL_differ_8 rfl (by decide) (L' := [(0, _), (1, _), (2, _), (3, _), (4, _), (5, _)]) rfl ?_
  have J10 : ∀ (fuel : Nat) (k9 a9 b9 : Nat) (hk : k9 ≤ 6) (ha9 : a9 = a / p10 k9) (hb9 : b9 = b / p10 k9), 6 - k9 < fuel → V p₀ l e₀ (rmD 1 0 0) s₀ m₀ as₀ bl₀ me₀ c₀ (MQ bl₀ (Po G (Rt (nI (ud a b)) n h)) as₀ s₀ 0 0 (rg G)) G 6 0 0 n h 10 [(2, .int (nI a9)), (3, .int (nI b9)), (4, .int (nI (dfk a b k9))), (5, .int (nI k9))] [] := by
    intro fuel
    induction fuel with
    | zero => intro k9 a9 b9 hk ha9 hb9 hf; omega
    | succ fuel ih10 =>
      intro k9 a9 b9 hk ha9 hb9 hf
      have hl := dfk_le a b k9
      have ha1 : a9 ≤ a := by rw [ha9]; exact Nat.div_le_self _ _
      have hb1 : b9 ≤ b := by rw [hb9]; exact Nat.div_le_self _ _
      refine V_iload 12 C dL_differ_10 rfl rfl ?_
      refine V_bipush 14 C dL_differ_12 rfl bip6 ?_
      refine V_icmp_geN 54 17 C dL_differ_14 (by decide) rfl (by omega) (by omega) (fun c14 => ?_) (fun c14 => ?_)
      · have e6 : k9 = 6 := by omega
        subst e6
        have hz := dfk_6 a b
        refine V_iload 56 C dL_differ_54 rfl rfl ?_
        refine V_ireturn C dL_differ_56 rfl rfl (by omega) (by omega) ?_
        exact (Rt_mk hz)
      · have hk9 : k9 < 6 := by omega
        have J35 : ∀ (e9 : Nat) (he9 : dfk a b k9 + e9 = dfk a b (k9 + 1)), V p₀ l e₀ (rmD 1 0 0) s₀ m₀ as₀ bl₀ me₀ c₀ (MQ bl₀ (Po G (Rt (nI (ud a b)) n h)) as₀ s₀ 0 0 (rg G)) G 6 0 0 n h 35 [(2, .int (nI a9)), (3, .int (nI b9)), (4, .int (nI (dfk a b k9))), (5, .int (nI k9))] [.int (nI e9), .int (nI (dfk a b k9))] := by
          intro e9 he9
          have hz := he9
          refine V_iaddN 36 C dL_differ_35 rfl  ?_
          rw [hz]
          refine V_istore 38 C dL_differ_36 rfl (by decide) (L' := [(2, _), (3, _), (4, _), (5, _)]) rfl ?_
          refine V_iload_n 39 C dL_differ_38 rfl rfl ?_
          refine V_bipush 41 C dL_differ_39 rfl bip10 ?_
          refine V_idivN 42 C dL_differ_41 rfl (by omega) (by omega) (by omega) ?_
          refine V_istore_n 43 C dL_differ_42 rfl (by decide) (L' := [(2, _), (3, _), (4, _), (5, _)]) rfl ?_
          refine V_iload_n 44 C dL_differ_43 rfl rfl ?_
          refine V_bipush 46 C dL_differ_44 rfl bip10 ?_
          refine V_idivN 47 C dL_differ_46 rfl (by omega) (by omega) (by omega) ?_
          refine V_istore_n 48 C dL_differ_47 rfl (by decide) (L' := [(2, _), (3, _), (4, _), (5, _)]) rfl ?_
          refine V_iinc 51 C dL_differ_48 rfl (by decide) rfl (ii1 _) (L' := [(2, _), (3, _), (4, _), (5, _)]) rfl ?_
          refine V_goto 10 C dL_differ_51 (by decide) ?_
          refine V_L [2, 3, 4, 5] rfl ?_
          exact ih10 (k9 + 1) (a9 / 10) (b9 / 10) (by omega) (by rw [ha9, div10]) (by rw [hb9, div10]) (by omega)
        refine V_iload 19 C dL_differ_17 rfl rfl ?_
        refine V_iload_n 20 C dL_differ_19 rfl rfl ?_
        refine V_bipush 22 C dL_differ_20 rfl bip10 ?_
        refine V_iremN 23 C dL_differ_22 rfl (by omega) (by omega) (by omega) ?_
        refine V_iload_n 24 C dL_differ_23 rfl rfl ?_
        refine V_bipush 26 C dL_differ_24 rfl bip10 ?_
        refine V_iremN 27 C dL_differ_26 rfl (by omega) (by omega) (by omega) ?_
        refine V_icmp_neN 34 30 C dL_differ_27 (by decide) rfl (by omega) (by omega) (fun c27 => ?_) (fun c27 => ?_)
        · have hc : dfk a b k9 + 1 = dfk a b (k9 + 1) := by
            simp only [dfk]
            rw [bp_t (by rw [← ha9, ← hb9]; exact c27)]
          refine V_iconst 35 C dL_differ_34 rfl ic1 ?_
          refine V_L [2, 3, 4, 5] rfl ?_
          exact J35 1 hc
        · have hc : dfk a b k9 + 0 = dfk a b (k9 + 1) := by
            simp only [dfk]
            rw [bp_f (not_not_intro (by rw [← ha9, ← hb9]; exact c27))]
          refine V_iconst 31 C dL_differ_30 rfl ic0 ?_
          refine V_goto 35 C dL_differ_31 (by decide) ?_
          refine V_L [2, 3, 4, 5] rfl ?_
          exact J35 0 hc
  refine V_L [2, 3, 4, 5] rfl ?_
  exact J10 7 0 a b (by omega) (by rw [show p10 0 = 1 from rfl, Nat.div_one]) (by rw [show p10 0 = 1 from rfl, Nat.div_one]) (by omega)

theorem dL_goes_0 : decode cL_goes 0 = .ok (.aload_n 0, 1) := by decide +kernel
theorem dL_goes_1 : decode cL_goes 1 = .ok (.bipush 20, 2) := by decide +kernel
theorem dL_goes_3 : decode cL_goes 3 = .ok (.iload_n 1, 1) := by decide +kernel
theorem dL_goes_4 : decode cL_goes 4 = .ok (.iload_n 2, 1) := by decide +kernel
theorem dL_goes_5 : decode cL_goes 5 = .ok (.iconst 0, 1) := by decide +kernel
theorem dL_goes_6 : decode cL_goes 6 = .ok (.invokestatic 198, 3) := by decide +kernel
theorem dL_goes_9 : decode cL_goes 9 = .ok (.istore 4, 2) := by decide +kernel
theorem dL_goes_11 : decode cL_goes 11 = .ok (.aload_n 0, 1) := by decide +kernel
theorem dL_goes_12 : decode cL_goes 12 = .ok (.bipush 20, 2) := by decide +kernel
theorem dL_goes_14 : decode cL_goes 14 = .ok (.iload_n 1, 1) := by decide +kernel
theorem dL_goes_15 : decode cL_goes 15 = .ok (.iload_n 3, 1) := by decide +kernel
theorem dL_goes_16 : decode cL_goes 16 = .ok (.iconst 0, 1) := by decide +kernel
theorem dL_goes_17 : decode cL_goes 17 = .ok (.invokestatic 198, 3) := by decide +kernel
theorem dL_goes_20 : decode cL_goes 20 = .ok (.istore 5, 2) := by decide +kernel
theorem dL_goes_22 : decode cL_goes 22 = .ok (.aload_n 0, 1) := by decide +kernel
theorem dL_goes_23 : decode cL_goes 23 = .ok (.bipush 20, 2) := by decide +kernel
theorem dL_goes_25 : decode cL_goes 25 = .ok (.iload_n 3, 1) := by decide +kernel
theorem dL_goes_26 : decode cL_goes 26 = .ok (.iload_n 2, 1) := by decide +kernel
theorem dL_goes_27 : decode cL_goes 27 = .ok (.iconst 1, 1) := by decide +kernel
theorem dL_goes_28 : decode cL_goes 28 = .ok (.invokestatic 198, 3) := by decide +kernel
theorem dL_goes_31 : decode cL_goes 31 = .ok (.istore 6, 2) := by decide +kernel
theorem dL_goes_33 : decode cL_goes 33 = .ok (.aload_n 0, 1) := by decide +kernel
theorem dL_goes_34 : decode cL_goes 34 = .ok (.bipush 21, 2) := by decide +kernel
theorem dL_goes_36 : decode cL_goes 36 = .ok (.iload_n 1, 1) := by decide +kernel
theorem dL_goes_37 : decode cL_goes 37 = .ok (.iload_n 2, 1) := by decide +kernel
theorem dL_goes_38 : decode cL_goes 38 = .ok (.iconst 0, 1) := by decide +kernel
theorem dL_goes_39 : decode cL_goes 39 = .ok (.invokestatic 198, 3) := by decide +kernel
theorem dL_goes_42 : decode cL_goes 42 = .ok (.istore 7, 2) := by decide +kernel
theorem dL_goes_44 : decode cL_goes 44 = .ok (.iload 4, 2) := by decide +kernel
theorem dL_goes_46 : decode cL_goes 46 = .ok (.aload_n 0, 1) := by decide +kernel
theorem dL_goes_47 : decode cL_goes 47 = .ok (.bipush 20, 2) := by decide +kernel
theorem dL_goes_49 : decode cL_goes 49 = .ok (.iload_n 1, 1) := by decide +kernel
theorem dL_goes_50 : decode cL_goes 50 = .ok (.iload_n 2, 1) := by decide +kernel
theorem dL_goes_51 : decode cL_goes 51 = .ok (.iconst 1, 1) := by decide +kernel
theorem dL_goes_52 : decode cL_goes 52 = .ok (.invokestatic 198, 3) := by decide +kernel
theorem dL_goes_55 : decode cL_goes 55 = .ok (.if_icmp .ne 102, 3) := by decide +kernel
theorem dL_goes_58 : decode cL_goes 58 = .ok (.iload 4, 2) := by decide +kernel
theorem dL_goes_60 : decode cL_goes 60 = .ok (.aload_n 0, 1) := by decide +kernel
theorem dL_goes_61 : decode cL_goes 61 = .ok (.bipush 20, 2) := by decide +kernel
theorem dL_goes_63 : decode cL_goes 63 = .ok (.iload_n 2, 1) := by decide +kernel
theorem dL_goes_64 : decode cL_goes 64 = .ok (.iload_n 1, 1) := by decide +kernel
theorem dL_goes_65 : decode cL_goes 65 = .ok (.iconst 0, 1) := by decide +kernel
theorem dL_goes_66 : decode cL_goes 66 = .ok (.invokestatic 198, 3) := by decide +kernel
theorem dL_goes_69 : decode cL_goes 69 = .ok (.if_icmp .ne 88, 3) := by decide +kernel
theorem dL_goes_72 : decode cL_goes 72 = .ok (.iload 4, 2) := by decide +kernel
theorem dL_goes_74 : decode cL_goes 74 = .ok (.ifCond .ne 7, 3) := by decide +kernel
theorem dL_goes_77 : decode cL_goes 77 = .ok (.iconst 1, 1) := by decide +kernel
theorem dL_goes_78 : decode cL_goes 78 = .ok (.goto 4, 3) := by decide +kernel
theorem dL_goes_81 : decode cL_goes 81 = .ok (.iconst 0, 1) := by decide +kernel
theorem dL_goes_82 : decode cL_goes 82 = .ok (.iload_n 1, 1) := by decide +kernel
theorem dL_goes_83 : decode cL_goes 83 = .ok (.iload_n 2, 1) := by decide +kernel
theorem dL_goes_84 : decode cL_goes 84 = .ok (.if_icmp .ne 7, 3) := by decide +kernel
theorem dL_goes_87 : decode cL_goes 87 = .ok (.iconst 1, 1) := by decide +kernel
theorem dL_goes_88 : decode cL_goes 88 = .ok (.goto 4, 3) := by decide +kernel
theorem dL_goes_91 : decode cL_goes 91 = .ok (.iconst 0, 1) := by decide +kernel
theorem dL_goes_92 : decode cL_goes 92 = .ok (.if_icmp .ne 65, 3) := by decide +kernel
theorem dL_goes_95 : decode cL_goes 95 = .ok (.iload 5, 2) := by decide +kernel
theorem dL_goes_97 : decode cL_goes 97 = .ok (.iconst (-1), 1) := by decide +kernel
theorem dL_goes_98 : decode cL_goes 98 = .ok (.if_icmp .eq 25, 3) := by decide +kernel
theorem dL_goes_101 : decode cL_goes 101 = .ok (.iload 6, 2) := by decide +kernel
theorem dL_goes_103 : decode cL_goes 103 = .ok (.iconst (-1), 1) := by decide +kernel
theorem dL_goes_104 : decode cL_goes 104 = .ok (.if_icmp .eq 19, 3) := by decide +kernel
theorem dL_goes_107 : decode cL_goes 107 = .ok (.iload 4, 2) := by decide +kernel
theorem dL_goes_109 : decode cL_goes 109 = .ok (.iconst (-1), 1) := by decide +kernel
theorem dL_goes_110 : decode cL_goes 110 = .ok (.if_icmp .eq 47, 3) := by decide +kernel
theorem dL_goes_113 : decode cL_goes 113 = .ok (.iload 4, 2) := by decide +kernel
theorem dL_goes_115 : decode cL_goes 115 = .ok (.iload 5, 2) := by decide +kernel
theorem dL_goes_117 : decode cL_goes 117 = .ok (.iload 6, 2) := by decide +kernel
theorem dL_goes_119 : decode cL_goes 119 = .ok (.iadd, 1) := by decide +kernel
theorem dL_goes_120 : decode cL_goes 120 = .ok (.if_icmp .gt 37, 3) := by decide +kernel
theorem dL_goes_123 : decode cL_goes 123 = .ok (.iload 7, 2) := by decide +kernel
theorem dL_goes_125 : decode cL_goes 125 = .ok (.iconst (-1), 1) := by decide +kernel
theorem dL_goes_126 : decode cL_goes 126 = .ok (.if_icmp .ne 7, 3) := by decide +kernel
theorem dL_goes_129 : decode cL_goes 129 = .ok (.iconst 1, 1) := by decide +kernel
theorem dL_goes_130 : decode cL_goes 130 = .ok (.goto 4, 3) := by decide +kernel
theorem dL_goes_133 : decode cL_goes 133 = .ok (.iconst 0, 1) := by decide +kernel
theorem dL_goes_134 : decode cL_goes 134 = .ok (.iload 4, 2) := by decide +kernel
theorem dL_goes_136 : decode cL_goes 136 = .ok (.iconst (-1), 1) := by decide +kernel
theorem dL_goes_137 : decode cL_goes 137 = .ok (.if_icmp .eq 8, 3) := by decide +kernel
theorem dL_goes_140 : decode cL_goes 140 = .ok (.iload_n 1, 1) := by decide +kernel
theorem dL_goes_141 : decode cL_goes 141 = .ok (.iload_n 2, 1) := by decide +kernel
theorem dL_goes_142 : decode cL_goes 142 = .ok (.if_icmp .ne 7, 3) := by decide +kernel
theorem dL_goes_145 : decode cL_goes 145 = .ok (.iconst 1, 1) := by decide +kernel
theorem dL_goes_146 : decode cL_goes 146 = .ok (.goto 4, 3) := by decide +kernel
theorem dL_goes_149 : decode cL_goes 149 = .ok (.iconst 0, 1) := by decide +kernel
theorem dL_goes_150 : decode cL_goes 150 = .ok (.if_icmp .ne 7, 3) := by decide +kernel
theorem dL_goes_153 : decode cL_goes 153 = .ok (.iconst 1, 1) := by decide +kernel
theorem dL_goes_154 : decode cL_goes 154 = .ok (.goto 4, 3) := by decide +kernel
theorem dL_goes_157 : decode cL_goes 157 = .ok (.iconst 0, 1) := by decide +kernel
theorem dL_goes_158 : decode cL_goes 158 = .ok (.istore 8, 2) := by decide +kernel
theorem dL_goes_160 : decode cL_goes 160 = .ok (.iload 7, 2) := by decide +kernel
theorem dL_goes_162 : decode cL_goes 162 = .ok (.iconst (-1), 1) := by decide +kernel
theorem dL_goes_163 : decode cL_goes 163 = .ok (.if_icmp .eq 92, 3) := by decide +kernel
theorem dL_goes_166 : decode cL_goes 166 = .ok (.iload 8, 2) := by decide +kernel
theorem dL_goes_168 : decode cL_goes 168 = .ok (.ifCond .eq 87, 3) := by decide +kernel
theorem dL_goes_171 : decode cL_goes 171 = .ok (.aload_n 0, 1) := by decide +kernel
theorem dL_goes_172 : decode cL_goes 172 = .ok (.iconst 3, 1) := by decide +kernel
theorem dL_goes_173 : decode cL_goes 173 = .ok (.iload 7, 2) := by decide +kernel
theorem dL_goes_175 : decode cL_goes 175 = .ok (.iconst 0, 1) := by decide +kernel
theorem dL_goes_176 : decode cL_goes 176 = .ok (.iconst 0, 1) := by decide +kernel
theorem dL_goes_177 : decode cL_goes 177 = .ok (.invokestatic 198, 3) := by decide +kernel
theorem dL_goes_180 : decode cL_goes 180 = .ok (.istore 9, 2) := by decide +kernel
theorem dL_goes_182 : decode cL_goes 182 = .ok (.iload 9, 2) := by decide +kernel
theorem dL_goes_184 : decode cL_goes 184 = .ok (.iload_n 1, 1) := by decide +kernel
theorem dL_goes_185 : decode cL_goes 185 = .ok (.if_icmp .ne 15, 3) := by decide +kernel
theorem dL_goes_188 : decode cL_goes 188 = .ok (.aload_n 0, 1) := by decide +kernel
theorem dL_goes_189 : decode cL_goes 189 = .ok (.iconst 3, 1) := by decide +kernel
theorem dL_goes_190 : decode cL_goes 190 = .ok (.iload 7, 2) := by decide +kernel
theorem dL_goes_192 : decode cL_goes 192 = .ok (.iconst 1, 1) := by decide +kernel
theorem dL_goes_193 : decode cL_goes 193 = .ok (.iconst 0, 1) := by decide +kernel
theorem dL_goes_194 : decode cL_goes 194 = .ok (.invokestatic 198, 3) := by decide +kernel
theorem dL_goes_197 : decode cL_goes 197 = .ok (.goto 5, 3) := by decide +kernel
theorem dL_goes_200 : decode cL_goes 200 = .ok (.iload 9, 2) := by decide +kernel
theorem dL_goes_202 : decode cL_goes 202 = .ok (.istore 10, 2) := by decide +kernel
theorem dL_goes_204 : decode cL_goes 204 = .ok (.iload 9, 2) := by decide +kernel
theorem dL_goes_206 : decode cL_goes 206 = .ok (.iload_n 1, 1) := by decide +kernel
theorem dL_goes_207 : decode cL_goes 207 = .ok (.if_icmp .eq 16, 3) := by decide +kernel
theorem dL_goes_210 : decode cL_goes 210 = .ok (.aload_n 0, 1) := by decide +kernel
theorem dL_goes_211 : decode cL_goes 211 = .ok (.iconst 3, 1) := by decide +kernel
theorem dL_goes_212 : decode cL_goes 212 = .ok (.iload 7, 2) := by decide +kernel
theorem dL_goes_214 : decode cL_goes 214 = .ok (.iconst 1, 1) := by decide +kernel
theorem dL_goes_215 : decode cL_goes 215 = .ok (.iconst 0, 1) := by decide +kernel
theorem dL_goes_216 : decode cL_goes 216 = .ok (.invokestatic 198, 3) := by decide +kernel
theorem dL_goes_219 : decode cL_goes 219 = .ok (.iload_n 1, 1) := by decide +kernel
theorem dL_goes_220 : decode cL_goes 220 = .ok (.if_icmp .ne 32, 3) := by decide +kernel
theorem dL_goes_223 : decode cL_goes 223 = .ok (.aload_n 0, 1) := by decide +kernel
theorem dL_goes_224 : decode cL_goes 224 = .ok (.bipush 20, 2) := by decide +kernel
theorem dL_goes_226 : decode cL_goes 226 = .ok (.iload 10, 2) := by decide +kernel
theorem dL_goes_228 : decode cL_goes 228 = .ok (.iload_n 2, 1) := by decide +kernel
theorem dL_goes_229 : decode cL_goes 229 = .ok (.iconst 0, 1) := by decide +kernel
theorem dL_goes_230 : decode cL_goes 230 = .ok (.invokestatic 198, 3) := by decide +kernel
theorem dL_goes_233 : decode cL_goes 233 = .ok (.aload_n 0, 1) := by decide +kernel
theorem dL_goes_234 : decode cL_goes 234 = .ok (.iconst 3, 1) := by decide +kernel
theorem dL_goes_235 : decode cL_goes 235 = .ok (.iload 7, 2) := by decide +kernel
theorem dL_goes_237 : decode cL_goes 237 = .ok (.iconst 2, 1) := by decide +kernel
theorem dL_goes_238 : decode cL_goes 238 = .ok (.iconst 0, 1) := by decide +kernel
theorem dL_goes_239 : decode cL_goes 239 = .ok (.invokestatic 198, 3) := by decide +kernel
theorem dL_goes_242 : decode cL_goes 242 = .ok (.iadd, 1) := by decide +kernel
theorem dL_goes_243 : decode cL_goes 243 = .ok (.iload 4, 2) := by decide +kernel
theorem dL_goes_245 : decode cL_goes 245 = .ok (.if_icmp .ne 7, 3) := by decide +kernel
theorem dL_goes_248 : decode cL_goes 248 = .ok (.iconst 1, 1) := by decide +kernel
theorem dL_goes_249 : decode cL_goes 249 = .ok (.goto 4, 3) := by decide +kernel
theorem dL_goes_252 : decode cL_goes 252 = .ok (.iconst 0, 1) := by decide +kernel
theorem dL_goes_253 : decode cL_goes 253 = .ok (.istore 8, 2) := by decide +kernel
theorem dL_goes_255 : decode cL_goes 255 = .ok (.iload 8, 2) := by decide +kernel
theorem dL_goes_257 : decode cL_goes 257 = .ok (.ireturn, 1) := by decide +kernel
set_option maxRecDepth 100000 in
set_option maxHeartbeats 4000000 in
theorem c_L_goes (l : Launch) (G : GT) (n0 : Nat) (h0 : AH) (hl : l.stackTraces = false) (x : Nat) (σ : St) (hS0 : SC x σ h0) (hI : SIs σ) (a b c : Nat) (ha : a < σ.1 0) (hb : b < σ.1 0) (hc : c < σ.1 0) : Ct l yL_goes cL_goes 11 (some .boolean) 11 44 264 G n0 h0 [.ref x, .int (nI a), .int (nI b), .int (nI c)] (PoS x h0 (nI 1) σ) := by
  have hIv : Iv σ.1 := hI.1
  have i0 := hIv.1
  have hF6 := FAR_eq
  have hN := NO_eq
  have hz := dst_z hIv (a := a) (t := b)
  have m1 := mo_dst hIv (a := a) (t := b) (by omega)
  have m2 := mo_dst hIv (a := a) (t := c) (by omega)
  have m3 := mo_dst hIv (a := c) (t := b) (by omega)
  have ht : ¬ dst σ.1 a c = FAR → ¬ dst σ.1 c b = FAR → ¬ dst σ.1 a b = FAR ∧ dst σ.1 a b ≤ dst σ.1 a c + dst σ.1 c b := fun g1 g2 => dst_tri g1 g2 (by omega)
  have hr := rto_at hIv a b
  have hsy := dst_sy σ.1 b a
  have m6 := mo_dst hIv (a := b) (t := a) (by omega)
  refine Ct_ofZ mL_goes.z (Nat.le_of_ble_eq_true rfl) ?_
  intro p₀ e₀ s₀ m₀ as₀ bl₀ me₀ c₀ C
  refine V_Le (L' := [(0, .ref x), (1, .int (nI a)), (2, .int (nI b)), (3, .int (nI c))]) rfl ?_
  suffices H : ∀ (n : Nat) (h : AH) (hS : SC x σ h) (hF : FX x h0 h), V p₀ l e₀ (rmD 11 44 264) s₀ m₀ as₀ bl₀ me₀ c₀ (MQ bl₀ (Po G (PoS x h0 (nI 1) σ)) as₀ s₀ 44 264 (rg G)) G 11 0 0 n h 0 [(0, .ref x), (1, .int (nI a)), (2, .int (nI b)), (3, .int (nI c))] [] from H n0 h0 hS0 FX.rf
  have J160 : ∀ (n : Nat) (h : AH) (hS : SC x σ h) (hF : FX x h0 h), V p₀ l e₀ (rmD 11 44 264) s₀ m₀ as₀ bl₀ me₀ c₀ (MQ bl₀ (Po G (PoS x h0 (nI 1) σ)) as₀ s₀ 44 264 (rg G)) G 11 24 144 n h 160 [(0, .ref x), (1, .int (nI a)), (2, .int (nI b)), (3, .int (nI c)), (4, .int (nI (mo (dst σ.1 a b)))), (5, .int (nI (mo (dst σ.1 a c)))), (6, .int (nI (mo (dst σ.1 c b)))), (7, .int (nI (rto σ.1 a b))), (8, .int (nI 1))] [] := by
    intro  n h hS hF
    rcases hr with ⟨r1, r2⟩ | ⟨r0, r1, r2, r3, r4⟩
    · skip
      refine V_iload 162 C dL_goes_160 rfl rfl ?_
      refine V_iconst 163 C dL_goes_162 rfl icm1 ?_
      refine V_icmp_eqN 255 166 C dL_goes_163 (by decide) rfl (by omega) (by omega) (fun c163 => ?_) (fun c163 => by omega)
      refine V_iload 257 C dL_goes_255 rfl rfl ?_
      refine V_ireturn C dL_goes_257 rfl nar_1 (by omega) (by omega) ?_
      exact ⟨rfl, hS, hF⟩
    · skip
      have hb2 : rto σ.1 a b < 2 ^ 31 := by omega
      have hRd := hIv.2.1 _ r2
      have hto : nto σ.1 a (rto σ.1 a b) < σ.1 0 := by unfold nto; split <;> omega
      have m4 := mo_dst hIv (a := nto σ.1 a (rto σ.1 a b)) (t := b) (by omega)
      have e0 : σ.1 (7 + 3 * rto σ.1 a b + 0) = σ.1 (7 + 3 * rto σ.1 a b) := rfl
      refine V_iload 162 C dL_goes_160 rfl rfl ?_
      refine V_iconst 163 C dL_goes_162 rfl icm1 ?_
      refine V_icmp_eqN 255 166 C dL_goes_163 (by decide) rfl (by omega) (by omega) (fun c163 => by omega) (fun c163 => ?_)
      refine V_iload 168 C dL_goes_166 rfl rfl ?_
      refine V_if_eqN 255 171 C dL_goes_168 (by decide) rfl (by omega) (fun c168 => by omega) (fun c168 => ?_)
      refine V_aload_n 172 C dL_goes_171 rfl rfl ?_
      refine V_iconst 173 C dL_goes_172 rfl ic3 ?_
      refine V_iload 175 C dL_goes_173 rfl rfl ?_
      refine V_iconst 176 C dL_goes_175 rfl ic0 ?_
      refine V_iconst 177 C dL_goes_176 rfl ic0 ?_
      refine V_q1 180 (24 + 4) (144 + 24) C hF dL_goes_177 rfl mL_call.z tw250 (k_way l G _ _ hl x σ hS hI _ _ _ _ (v_way r2 hIv (j := 0) (by omega) rfl)) rfl rfl ⟨Nat.le_of_ble_eq_true rfl, Nat.le_of_ble_eq_true rfl⟩ ⟨by omega, by omega⟩ ⟨by show _ ≤ 44; omega, by show _ ≤ 264; omega⟩ (Nat.le_of_ble_eq_true rfl) ?_
      clear hS hF n h
      intro n h hS hF
      by_cases e1 : σ.1 (7 + 3 * rto σ.1 a b + 0) = a
      · skip
        have en : σ.1 (7 + 3 * rto σ.1 a b + 1) = nto σ.1 a (rto σ.1 a b) := (if_pos e1).symm
        refine V_istore 182 C dL_goes_180 rfl (by decide) (L' := [(0, _), (1, _), (2, _), (3, _), (4, _), (5, _), (6, _), (7, _), (8, _), (9, _)]) rfl ?_
        refine V_iload 184 C dL_goes_182 rfl rfl ?_
        refine V_iload_n 185 C dL_goes_184 rfl rfl ?_
        refine V_icmp_neN 200 188 C dL_goes_185 (by decide) rfl (by omega) (by omega) (fun c185 => by omega) (fun c185 => ?_)
        refine V_aload_n 189 C dL_goes_188 rfl rfl ?_
        refine V_iconst 190 C dL_goes_189 rfl ic3 ?_
        refine V_iload 192 C dL_goes_190 rfl rfl ?_
        refine V_iconst 193 C dL_goes_192 rfl ic1 ?_
        refine V_iconst 194 C dL_goes_193 rfl ic0 ?_
        refine V_q1 197 (24 + 8) (144 + 48) C hF dL_goes_194 rfl mL_call.z tw250 (k_way l G _ _ hl x σ hS hI _ _ _ _ ((v_way r2 hIv (j := 1) (by omega) rfl).trans (by rw [en]))) rfl rfl ⟨Nat.le_of_ble_eq_true rfl, Nat.le_of_ble_eq_true rfl⟩ ⟨by omega, by omega⟩ ⟨by show _ ≤ 44; omega, by show _ ≤ 264; omega⟩ (Nat.le_of_ble_eq_true rfl) ?_
        clear hS hF n h
        intro n h hS hF
        refine V_goto 202 C dL_goes_197 (by decide) ?_
        refine V_istore 204 C dL_goes_202 rfl (by decide) (L' := [(0, _), (1, _), (2, _), (3, _), (4, _), (5, _), (6, _), (7, _), (8, _), (9, _), (10, _)]) rfl ?_
        refine V_iload 206 C dL_goes_204 rfl rfl ?_
        refine V_iload_n 207 C dL_goes_206 rfl rfl ?_
        refine V_icmp_eqN 223 210 C dL_goes_207 (by decide) rfl (by omega) (by omega) (fun c207 => ?_) (fun c207 => by omega)
        refine V_aload_n 224 C dL_goes_223 rfl rfl ?_
        refine V_bipush 226 C dL_goes_224 rfl bip20 ?_
        refine V_iload 228 C dL_goes_226 rfl rfl ?_
        refine V_iload_n 229 C dL_goes_228 rfl rfl ?_
        refine V_iconst 230 C dL_goes_229 rfl ic0 ?_
        refine V_q1 233 (24 + 12) (144 + 72) C hF dL_goes_230 rfl mL_call.z tw250 (k_route l G _ _ hl x σ hS hI _ _ _ _ (v_route hto hb hIv (by omega))) rfl rfl ⟨Nat.le_of_ble_eq_true rfl, Nat.le_of_ble_eq_true rfl⟩ ⟨by omega, by omega⟩ ⟨by show _ ≤ 44; omega, by show _ ≤ 264; omega⟩ (Nat.le_of_ble_eq_true rfl) ?_
        clear hS hF n h
        intro n h hS hF
        refine V_aload_n 234 C dL_goes_233 rfl rfl ?_
        refine V_iconst 235 C dL_goes_234 rfl ic3 ?_
        refine V_iload 237 C dL_goes_235 rfl rfl ?_
        refine V_iconst 238 C dL_goes_237 rfl ic2 ?_
        refine V_iconst 239 C dL_goes_238 rfl ic0 ?_
        refine V_q1 242 (24 + 16) (144 + 96) C hF dL_goes_239 rfl mL_call.z tw250 (k_way l G _ _ hl x σ hS hI _ _ _ _ (v_way r2 hIv (j := 2) (by omega) rfl)) rfl rfl ⟨Nat.le_of_ble_eq_true rfl, Nat.le_of_ble_eq_true rfl⟩ ⟨by omega, by omega⟩ ⟨by show _ ≤ 44; omega, by show _ ≤ 264; omega⟩ (Nat.le_of_ble_eq_true rfl) ?_
        clear hS hF n h
        intro n h hS hF
        refine V_iaddN 243 C dL_goes_242 rfl  ?_
        refine V_iload 245 C dL_goes_243 rfl rfl ?_
        refine V_icmp_neN 252 248 C dL_goes_245 (by decide) rfl (by omega) (by omega) (fun c245 => by omega) (fun c245 => ?_)
        refine V_iconst 249 C dL_goes_248 rfl ic1 ?_
        refine V_goto 253 C dL_goes_249 (by decide) ?_
        refine V_istore 255 C dL_goes_253 rfl (by decide) (L' := [(0, _), (1, _), (2, _), (3, _), (4, _), (5, _), (6, _), (7, _), (8, _), (9, _), (10, _)]) rfl ?_
        refine V_iload 257 C dL_goes_255 rfl rfl ?_
        refine V_ireturn C dL_goes_257 rfl nar_1 (by omega) (by omega) ?_
        exact ⟨rfl, hS, hF⟩
      · skip
        have en : σ.1 (7 + 3 * rto σ.1 a b + 0) = nto σ.1 a (rto σ.1 a b) := (if_neg e1).symm
        rw [← en] at m4 r4
        refine V_istore 182 C dL_goes_180 rfl (by decide) (L' := [(0, _), (1, _), (2, _), (3, _), (4, _), (5, _), (6, _), (7, _), (8, _), (9, _)]) rfl ?_
        refine V_iload 184 C dL_goes_182 rfl rfl ?_
        refine V_iload_n 185 C dL_goes_184 rfl rfl ?_
        refine V_icmp_neN 200 188 C dL_goes_185 (by decide) rfl (by omega) (by omega) (fun c185 => ?_) (fun c185 => by omega)
        refine V_iload 202 C dL_goes_200 rfl rfl ?_
        refine V_istore 204 C dL_goes_202 rfl (by decide) (L' := [(0, _), (1, _), (2, _), (3, _), (4, _), (5, _), (6, _), (7, _), (8, _), (9, _), (10, _)]) rfl ?_
        refine V_iload 206 C dL_goes_204 rfl rfl ?_
        refine V_iload_n 207 C dL_goes_206 rfl rfl ?_
        refine V_icmp_eqN 223 210 C dL_goes_207 (by decide) rfl (by omega) (by omega) (fun c207 => by omega) (fun c207 => ?_)
        refine V_aload_n 211 C dL_goes_210 rfl rfl ?_
        refine V_iconst 212 C dL_goes_211 rfl ic3 ?_
        refine V_iload 214 C dL_goes_212 rfl rfl ?_
        refine V_iconst 215 C dL_goes_214 rfl ic1 ?_
        refine V_iconst 216 C dL_goes_215 rfl ic0 ?_
        refine V_q1 219 (24 + 8) (144 + 48) C hF dL_goes_216 rfl mL_call.z tw250 (k_way l G _ _ hl x σ hS hI _ _ _ _ (v_way r2 hIv (j := 1) (by omega) rfl)) rfl rfl ⟨Nat.le_of_ble_eq_true rfl, Nat.le_of_ble_eq_true rfl⟩ ⟨by omega, by omega⟩ ⟨by show _ ≤ 44; omega, by show _ ≤ 264; omega⟩ (Nat.le_of_ble_eq_true rfl) ?_
        clear hS hF n h
        intro n h hS hF
        refine V_iload_n 220 C dL_goes_219 rfl rfl ?_
        refine V_icmp_neN 252 223 C dL_goes_220 (by decide) rfl (by omega) (by omega) (fun c220 => by omega) (fun c220 => ?_)
        refine V_aload_n 224 C dL_goes_223 rfl rfl ?_
        refine V_bipush 226 C dL_goes_224 rfl bip20 ?_
        refine V_iload 228 C dL_goes_226 rfl rfl ?_
        refine V_iload_n 229 C dL_goes_228 rfl rfl ?_
        refine V_iconst 230 C dL_goes_229 rfl ic0 ?_
        have hs4 := v_route hto hb hIv (w := 0) (by omega)
        rw [← en] at hs4
        refine V_q1 233 (24 + 12) (144 + 72) C hF dL_goes_230 rfl mL_call.z tw250 (k_route l G _ _ hl x σ hS hI _ _ _ _ hs4) rfl rfl ⟨Nat.le_of_ble_eq_true rfl, Nat.le_of_ble_eq_true rfl⟩ ⟨by omega, by omega⟩ ⟨by show _ ≤ 44; omega, by show _ ≤ 264; omega⟩ (Nat.le_of_ble_eq_true rfl) ?_
        clear hS hF n h
        intro n h hS hF
        refine V_aload_n 234 C dL_goes_233 rfl rfl ?_
        refine V_iconst 235 C dL_goes_234 rfl ic3 ?_
        refine V_iload 237 C dL_goes_235 rfl rfl ?_
        refine V_iconst 238 C dL_goes_237 rfl ic2 ?_
        refine V_iconst 239 C dL_goes_238 rfl ic0 ?_
        refine V_q1 242 (24 + 16) (144 + 96) C hF dL_goes_239 rfl mL_call.z tw250 (k_way l G _ _ hl x σ hS hI _ _ _ _ (v_way r2 hIv (j := 2) (by omega) rfl)) rfl rfl ⟨Nat.le_of_ble_eq_true rfl, Nat.le_of_ble_eq_true rfl⟩ ⟨by omega, by omega⟩ ⟨by show _ ≤ 44; omega, by show _ ≤ 264; omega⟩ (Nat.le_of_ble_eq_true rfl) ?_
        clear hS hF n h
        intro n h hS hF
        refine V_iaddN 243 C dL_goes_242 rfl  ?_
        refine V_iload 245 C dL_goes_243 rfl rfl ?_
        refine V_icmp_neN 252 248 C dL_goes_245 (by decide) rfl (by omega) (by omega) (fun c245 => by omega) (fun c245 => ?_)
        refine V_iconst 249 C dL_goes_248 rfl ic1 ?_
        refine V_goto 253 C dL_goes_249 (by decide) ?_
        refine V_istore 255 C dL_goes_253 rfl (by decide) (L' := [(0, _), (1, _), (2, _), (3, _), (4, _), (5, _), (6, _), (7, _), (8, _), (9, _), (10, _)]) rfl ?_
        refine V_iload 257 C dL_goes_255 rfl rfl ?_
        refine V_ireturn C dL_goes_257 rfl nar_1 (by omega) (by omega) ?_
        exact ⟨rfl, hS, hF⟩
  have J123 : ∀ (n : Nat) (h : AH) (hS : SC x σ h) (hF : FX x h0 h), V p₀ l e₀ (rmD 11 44 264) s₀ m₀ as₀ bl₀ me₀ c₀ (MQ bl₀ (Po G (PoS x h0 (nI 1) σ)) as₀ s₀ 44 264 (rg G)) G 11 24 144 n h 123 [(0, .ref x), (1, .int (nI a)), (2, .int (nI b)), (3, .int (nI c)), (4, .int (nI (mo (dst σ.1 a b)))), (5, .int (nI (mo (dst σ.1 a c)))), (6, .int (nI (mo (dst σ.1 c b)))), (7, .int (nI (rto σ.1 a b)))] [] := by
    intro  n h hS hF
    rcases hr with ⟨r1, r2⟩ | ⟨r0, r1, r2, r3, r4⟩
    · skip
      refine V_iload 125 C dL_goes_123 rfl rfl ?_
      refine V_iconst 126 C dL_goes_125 rfl icm1 ?_
      refine V_icmp_neN 133 129 C dL_goes_126 (by decide) rfl (by omega) (by omega) (fun c126 => by omega) (fun c126 => ?_)
      refine V_iconst 130 C dL_goes_129 rfl ic1 ?_
      refine V_goto 134 C dL_goes_130 (by decide) ?_
      refine V_iload 136 C dL_goes_134 rfl rfl ?_
      refine V_iconst 137 C dL_goes_136 rfl icm1 ?_
      by_cases e2 : mo (dst σ.1 a b) = NO
      · skip
        refine V_icmp_eqN 145 140 C dL_goes_137 (by decide) rfl (by omega) (by omega) (fun c137 => ?_) (fun c137 => by omega)
        refine V_iconst 146 C dL_goes_145 rfl ic1 ?_
        refine V_goto 150 C dL_goes_146 (by decide) ?_
        refine V_icmp_neN 157 153 C dL_goes_150 (by decide) rfl (by omega) (by omega) (fun c150 => by omega) (fun c150 => ?_)
        refine V_iconst 154 C dL_goes_153 rfl ic1 ?_
        refine V_goto 158 C dL_goes_154 (by decide) ?_
        refine V_istore 160 C dL_goes_158 rfl (by decide) (L' := [(0, _), (1, _), (2, _), (3, _), (4, _), (5, _), (6, _), (7, _), (8, _)]) rfl ?_
        refine V_L [0, 1, 2, 3, 4, 5, 6, 7, 8] rfl ?_
        exact V_wid _ _ (by omega) (by omega) (J160 _ _ hS hF)
      · skip
        refine V_icmp_eqN 145 140 C dL_goes_137 (by decide) rfl (by omega) (by omega) (fun c137 => by omega) (fun c137 => ?_)
        refine V_iload_n 141 C dL_goes_140 rfl rfl ?_
        refine V_iload_n 142 C dL_goes_141 rfl rfl ?_
        refine V_icmp_neN 149 145 C dL_goes_142 (by decide) rfl (by omega) (by omega) (fun c142 => by omega) (fun c142 => ?_)
        refine V_iconst 146 C dL_goes_145 rfl ic1 ?_
        refine V_goto 150 C dL_goes_146 (by decide) ?_
        refine V_icmp_neN 157 153 C dL_goes_150 (by decide) rfl (by omega) (by omega) (fun c150 => by omega) (fun c150 => ?_)
        refine V_iconst 154 C dL_goes_153 rfl ic1 ?_
        refine V_goto 158 C dL_goes_154 (by decide) ?_
        refine V_istore 160 C dL_goes_158 rfl (by decide) (L' := [(0, _), (1, _), (2, _), (3, _), (4, _), (5, _), (6, _), (7, _), (8, _)]) rfl ?_
        refine V_L [0, 1, 2, 3, 4, 5, 6, 7, 8] rfl ?_
        exact V_wid _ _ (by omega) (by omega) (J160 _ _ hS hF)
    · skip
      have hb2 : rto σ.1 a b < 2 ^ 31 := by omega
      refine V_iload 125 C dL_goes_123 rfl rfl ?_
      refine V_iconst 126 C dL_goes_125 rfl icm1 ?_
      refine V_icmp_neN 133 129 C dL_goes_126 (by decide) rfl (by omega) (by omega) (fun c126 => ?_) (fun c126 => by omega)
      refine V_iconst 134 C dL_goes_133 rfl ic0 ?_
      refine V_iload 136 C dL_goes_134 rfl rfl ?_
      refine V_iconst 137 C dL_goes_136 rfl icm1 ?_
      refine V_icmp_eqN 145 140 C dL_goes_137 (by decide) rfl (by omega) (by omega) (fun c137 => by omega) (fun c137 => ?_)
      refine V_iload_n 141 C dL_goes_140 rfl rfl ?_
      refine V_iload_n 142 C dL_goes_141 rfl rfl ?_
      refine V_icmp_neN 149 145 C dL_goes_142 (by decide) rfl (by omega) (by omega) (fun c142 => ?_) (fun c142 => by omega)
      refine V_iconst 150 C dL_goes_149 rfl ic0 ?_
      refine V_icmp_neN 157 153 C dL_goes_150 (by decide) rfl (by omega) (by omega) (fun c150 => by omega) (fun c150 => ?_)
      refine V_iconst 154 C dL_goes_153 rfl ic1 ?_
      refine V_goto 158 C dL_goes_154 (by decide) ?_
      refine V_istore 160 C dL_goes_158 rfl (by decide) (L' := [(0, _), (1, _), (2, _), (3, _), (4, _), (5, _), (6, _), (7, _), (8, _)]) rfl ?_
      refine V_L [0, 1, 2, 3, 4, 5, 6, 7, 8] rfl ?_
      exact V_wid _ _ (by omega) (by omega) (J160 _ _ hS hF)
  have J95 : ∀ (n : Nat) (h : AH) (hS : SC x σ h) (hF : FX x h0 h), V p₀ l e₀ (rmD 11 44 264) s₀ m₀ as₀ bl₀ me₀ c₀ (MQ bl₀ (Po G (PoS x h0 (nI 1) σ)) as₀ s₀ 44 264 (rg G)) G 11 24 144 n h 95 [(0, .ref x), (1, .int (nI a)), (2, .int (nI b)), (3, .int (nI c)), (4, .int (nI (mo (dst σ.1 a b)))), (5, .int (nI (mo (dst σ.1 a c)))), (6, .int (nI (mo (dst σ.1 c b)))), (7, .int (nI (rto σ.1 a b)))] [] := by
    intro  n h hS hF
    by_cases e1 : dst σ.1 a c = FAR
    · skip
      refine V_iload 97 C dL_goes_95 rfl rfl ?_
      refine V_iconst 98 C dL_goes_97 rfl icm1 ?_
      refine V_icmp_eqN 123 101 C dL_goes_98 (by decide) rfl (by omega) (by omega) (fun c98 => ?_) (fun c98 => by omega)
      refine V_L [0, 1, 2, 3, 4, 5, 6, 7] rfl ?_
      exact V_wid _ _ (by omega) (by omega) (J123 _ _ hS hF)
    · skip
      refine V_iload 97 C dL_goes_95 rfl rfl ?_
      refine V_iconst 98 C dL_goes_97 rfl icm1 ?_
      refine V_icmp_eqN 123 101 C dL_goes_98 (by decide) rfl (by omega) (by omega) (fun c98 => by omega) (fun c98 => ?_)
      refine V_iload 103 C dL_goes_101 rfl rfl ?_
      refine V_iconst 104 C dL_goes_103 rfl icm1 ?_
      by_cases e2 : dst σ.1 c b = FAR
      · skip
        refine V_icmp_eqN 123 107 C dL_goes_104 (by decide) rfl (by omega) (by omega) (fun c104 => ?_) (fun c104 => by omega)
        refine V_L [0, 1, 2, 3, 4, 5, 6, 7] rfl ?_
        exact V_wid _ _ (by omega) (by omega) (J123 _ _ hS hF)
      · skip
        have h3 := ht e1 e2
        refine V_icmp_eqN 123 107 C dL_goes_104 (by decide) rfl (by omega) (by omega) (fun c104 => by omega) (fun c104 => ?_)
        refine V_iload 109 C dL_goes_107 rfl rfl ?_
        refine V_iconst 110 C dL_goes_109 rfl icm1 ?_
        refine V_icmp_eqN 157 113 C dL_goes_110 (by decide) rfl (by omega) (by omega) (fun c110 => by omega) (fun c110 => ?_)
        refine V_iload 115 C dL_goes_113 rfl rfl ?_
        refine V_iload 117 C dL_goes_115 rfl rfl ?_
        refine V_iload 119 C dL_goes_117 rfl rfl ?_
        refine V_iaddN 120 C dL_goes_119 rfl  ?_
        refine V_icmp_gtN 157 123 C dL_goes_120 (by decide) rfl (by omega) (by omega) (fun c120 => by omega) (fun c120 => ?_)
        refine V_L [0, 1, 2, 3, 4, 5, 6, 7] rfl ?_
        exact V_wid _ _ (by omega) (by omega) (J123 _ _ hS hF)
  intro n h hS hF
  refine V_aload_n 1 C dL_goes_0 rfl rfl ?_
  refine V_bipush 3 C dL_goes_1 rfl bip20 ?_
  refine V_iload_n 4 C dL_goes_3 rfl rfl ?_
  refine V_iload_n 5 C dL_goes_4 rfl rfl ?_
  refine V_iconst 6 C dL_goes_5 rfl ic0 ?_
  refine V_q1 9 (4) (24) C hF dL_goes_6 rfl mL_call.z tw250 (k_route l G _ _ hl x σ hS hI _ _ _ _ (v_route ha hb hIv (by omega))) rfl rfl ⟨Nat.le_of_ble_eq_true rfl, Nat.le_of_ble_eq_true rfl⟩ ⟨by omega, by omega⟩ ⟨by show _ ≤ 44; omega, by show _ ≤ 264; omega⟩ (Nat.le_of_ble_eq_true rfl) ?_
  clear hS hF n h
  intro n h hS hF
  refine V_istore 11 C dL_goes_9 rfl (by decide) (L' := [(0, _), (1, _), (2, _), (3, _), (4, _)]) rfl ?_
  refine V_aload_n 12 C dL_goes_11 rfl rfl ?_
  refine V_bipush 14 C dL_goes_12 rfl bip20 ?_
  refine V_iload_n 15 C dL_goes_14 rfl rfl ?_
  refine V_iload_n 16 C dL_goes_15 rfl rfl ?_
  refine V_iconst 17 C dL_goes_16 rfl ic0 ?_
  refine V_q1 20 (8) (48) C hF dL_goes_17 rfl mL_call.z tw250 (k_route l G _ _ hl x σ hS hI _ _ _ _ (v_route ha hc hIv (by omega))) rfl rfl ⟨Nat.le_of_ble_eq_true rfl, Nat.le_of_ble_eq_true rfl⟩ ⟨by omega, by omega⟩ ⟨by show _ ≤ 44; omega, by show _ ≤ 264; omega⟩ (Nat.le_of_ble_eq_true rfl) ?_
  clear hS hF n h
  intro n h hS hF
  refine V_istore 22 C dL_goes_20 rfl (by decide) (L' := [(0, _), (1, _), (2, _), (3, _), (4, _), (5, _)]) rfl ?_
  refine V_aload_n 23 C dL_goes_22 rfl rfl ?_
  refine V_bipush 25 C dL_goes_23 rfl bip20 ?_
  refine V_iload_n 26 C dL_goes_25 rfl rfl ?_
  refine V_iload_n 27 C dL_goes_26 rfl rfl ?_
  refine V_iconst 28 C dL_goes_27 rfl ic1 ?_
  refine V_q1 31 (12) (72) C hF dL_goes_28 rfl mL_call.z tw250 (k_route l G _ _ hl x σ hS hI _ _ _ _ (v_route hc hb hIv (by omega))) rfl rfl ⟨Nat.le_of_ble_eq_true rfl, Nat.le_of_ble_eq_true rfl⟩ ⟨by omega, by omega⟩ ⟨by show _ ≤ 44; omega, by show _ ≤ 264; omega⟩ (Nat.le_of_ble_eq_true rfl) ?_
  clear hS hF n h
  intro n h hS hF
  refine V_istore 33 C dL_goes_31 rfl (by decide) (L' := [(0, _), (1, _), (2, _), (3, _), (4, _), (5, _), (6, _)]) rfl ?_
  refine V_aload_n 34 C dL_goes_33 rfl rfl ?_
  refine V_bipush 36 C dL_goes_34 rfl bip21 ?_
  refine V_iload_n 37 C dL_goes_36 rfl rfl ?_
  refine V_iload_n 38 C dL_goes_37 rfl rfl ?_
  refine V_iconst 39 C dL_goes_38 rfl ic0 ?_
  refine V_q1 42 (16) (96) C hF dL_goes_39 rfl mL_call.z tw250 (k_next l G _ _ hl x σ hS hI _ _ _ _ (v_next ha hb hIv)) rfl rfl ⟨Nat.le_of_ble_eq_true rfl, Nat.le_of_ble_eq_true rfl⟩ ⟨by omega, by omega⟩ ⟨by show _ ≤ 44; omega, by show _ ≤ 264; omega⟩ (Nat.le_of_ble_eq_true rfl) ?_
  clear hS hF n h
  intro n h hS hF
  refine V_istore 44 C dL_goes_42 rfl (by decide) (L' := [(0, _), (1, _), (2, _), (3, _), (4, _), (5, _), (6, _), (7, _)]) rfl ?_
  refine V_iload 46 C dL_goes_44 rfl rfl ?_
  refine V_aload_n 47 C dL_goes_46 rfl rfl ?_
  refine V_bipush 49 C dL_goes_47 rfl bip20 ?_
  refine V_iload_n 50 C dL_goes_49 rfl rfl ?_
  refine V_iload_n 51 C dL_goes_50 rfl rfl ?_
  refine V_iconst 52 C dL_goes_51 rfl ic1 ?_
  refine V_q1 55 (20) (120) C hF dL_goes_52 rfl mL_call.z tw250 (k_route l G _ _ hl x σ hS hI _ _ _ _ (v_route ha hb hIv (by omega))) rfl rfl ⟨Nat.le_of_ble_eq_true rfl, Nat.le_of_ble_eq_true rfl⟩ ⟨by omega, by omega⟩ ⟨by show _ ≤ 44; omega, by show _ ≤ 264; omega⟩ (Nat.le_of_ble_eq_true rfl) ?_
  clear hS hF n h
  intro n h hS hF
  refine V_icmp_neN 157 58 C dL_goes_55 (by decide) rfl (by omega) (by omega) (fun c55 => by omega) (fun c55 => ?_)
  refine V_iload 60 C dL_goes_58 rfl rfl ?_
  refine V_aload_n 61 C dL_goes_60 rfl rfl ?_
  refine V_bipush 63 C dL_goes_61 rfl bip20 ?_
  refine V_iload_n 64 C dL_goes_63 rfl rfl ?_
  refine V_iload_n 65 C dL_goes_64 rfl rfl ?_
  refine V_iconst 66 C dL_goes_65 rfl ic0 ?_
  refine V_q1 69 (24) (144) C hF dL_goes_66 rfl mL_call.z tw250 (k_route l G _ _ hl x σ hS hI _ _ _ _ (v_route hb ha hIv (by omega))) rfl rfl ⟨Nat.le_of_ble_eq_true rfl, Nat.le_of_ble_eq_true rfl⟩ ⟨by omega, by omega⟩ ⟨by show _ ≤ 44; omega, by show _ ≤ 264; omega⟩ (Nat.le_of_ble_eq_true rfl) ?_
  clear hS hF n h
  intro n h hS hF
  refine V_icmp_neN 157 72 C dL_goes_69 (by decide) rfl (by omega) (by omega) (fun c69 => by omega) (fun c69 => ?_)
  by_cases eab : a = b
  · skip
    refine V_iload 74 C dL_goes_72 rfl rfl ?_
    refine V_if_neN 81 77 C dL_goes_74 (by decide) rfl (by omega) (fun c74 => by omega) (fun c74 => ?_)
    refine V_iconst 78 C dL_goes_77 rfl ic1 ?_
    refine V_goto 82 C dL_goes_78 (by decide) ?_
    refine V_iload_n 83 C dL_goes_82 rfl rfl ?_
    refine V_iload_n 84 C dL_goes_83 rfl rfl ?_
    refine V_icmp_neN 91 87 C dL_goes_84 (by decide) rfl (by omega) (by omega) (fun c84 => by omega) (fun c84 => ?_)
    refine V_iconst 88 C dL_goes_87 rfl ic1 ?_
    refine V_goto 92 C dL_goes_88 (by decide) ?_
    refine V_icmp_neN 157 95 C dL_goes_92 (by decide) rfl (by omega) (by omega) (fun c92 => by omega) (fun c92 => ?_)
    refine V_L [0, 1, 2, 3, 4, 5, 6, 7] rfl ?_
    exact V_wid _ _ (by omega) (by omega) (J95 _ _ hS hF)
  · skip
    refine V_iload 74 C dL_goes_72 rfl rfl ?_
    refine V_if_neN 81 77 C dL_goes_74 (by decide) rfl (by omega) (fun c74 => ?_) (fun c74 => by omega)
    refine V_iconst 82 C dL_goes_81 rfl ic0 ?_
    refine V_iload_n 83 C dL_goes_82 rfl rfl ?_
    refine V_iload_n 84 C dL_goes_83 rfl rfl ?_
    refine V_icmp_neN 91 87 C dL_goes_84 (by decide) rfl (by omega) (by omega) (fun c84 => ?_) (fun c84 => by omega)
    refine V_iconst 92 C dL_goes_91 rfl ic0 ?_
    refine V_icmp_neN 157 95 C dL_goes_92 (by decide) rfl (by omega) (by omega) (fun c92 => by omega) (fun c92 => ?_)
    refine V_L [0, 1, 2, 3, 4, 5, 6, 7] rfl ?_
    exact V_wid _ _ (by omega) (by omega) (J95 _ _ hS hF)

