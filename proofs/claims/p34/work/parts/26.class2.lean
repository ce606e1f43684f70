/-! THE CLASS: actions -/
theorem dX1_proofHindrance_0 : decode cX1_proofHindrance 0 = .ok (.aload_n 0, 1) := by decide +kernel
theorem dX1_proofHindrance_1 : decode cX1_proofHindrance 1 = .ok (.iload_n 1, 1) := by decide +kernel
theorem dX1_proofHindrance_2 : decode cX1_proofHindrance 2 = .ok (.invokevirtual 108, 3) := by decide +kernel
theorem dX1_proofHindrance_5 : decode cX1_proofHindrance 5 = .ok (.istore 4, 2) := by decide +kernel
theorem dX1_proofHindrance_7 : decode cX1_proofHindrance 7 = .ok (.iload 4, 2) := by decide +kernel
theorem dX1_proofHindrance_9 : decode cX1_proofHindrance 9 = .ok (.iconst (-1), 1) := by decide +kernel
theorem dX1_proofHindrance_10 : decode cX1_proofHindrance 10 = .ok (.if_icmp .eq 23, 3) := by decide +kernel
theorem dX1_proofHindrance_13 : decode cX1_proofHindrance 13 = .ok (.aload_n 0, 1) := by decide +kernel
theorem dX1_proofHindrance_14 : decode cX1_proofHindrance 14 = .ok (.iload_n 2, 1) := by decide +kernel
theorem dX1_proofHindrance_15 : decode cX1_proofHindrance 15 = .ok (.invokevirtual 108, 3) := by decide +kernel
theorem dX1_proofHindrance_18 : decode cX1_proofHindrance 18 = .ok (.iload 4, 2) := by decide +kernel
theorem dX1_proofHindrance_20 : decode cX1_proofHindrance 20 = .ok (.if_icmp .ne 13, 3) := by decide +kernel
theorem dX1_proofHindrance_23 : decode cX1_proofHindrance 23 = .ok (.aload_n 0, 1) := by decide +kernel
theorem dX1_proofHindrance_24 : decode cX1_proofHindrance 24 = .ok (.iload_n 3, 1) := by decide +kernel
theorem dX1_proofHindrance_25 : decode cX1_proofHindrance 25 = .ok (.invokevirtual 108, 3) := by decide +kernel
theorem dX1_proofHindrance_28 : decode cX1_proofHindrance 28 = .ok (.iload 4, 2) := by decide +kernel
theorem dX1_proofHindrance_30 : decode cX1_proofHindrance 30 = .ok (.if_icmp .eq 5, 3) := by decide +kernel
theorem dX1_proofHindrance_33 : decode cX1_proofHindrance 33 = .ok (.iconst 1, 1) := by decide +kernel
theorem dX1_proofHindrance_34 : decode cX1_proofHindrance 34 = .ok (.ireturn, 1) := by decide +kernel
theorem dX1_proofHindrance_35 : decode cX1_proofHindrance 35 = .ok (.aload_n 0, 1) := by decide +kernel
theorem dX1_proofHindrance_36 : decode cX1_proofHindrance 36 = .ok (.getfield 31, 3) := by decide +kernel
theorem dX1_proofHindrance_39 : decode cX1_proofHindrance 39 = .ok (.iload_n 1, 1) := by decide +kernel
theorem dX1_proofHindrance_40 : decode cX1_proofHindrance 40 = .ok (.aaload, 1) := by decide +kernel
theorem dX1_proofHindrance_41 : decode cX1_proofHindrance 41 = .ok (.invokevirtual 100, 3) := by decide +kernel
theorem dX1_proofHindrance_44 : decode cX1_proofHindrance 44 = .ok (.ifCond .eq 27, 3) := by decide +kernel
theorem dX1_proofHindrance_47 : decode cX1_proofHindrance 47 = .ok (.aload_n 0, 1) := by decide +kernel
theorem dX1_proofHindrance_48 : decode cX1_proofHindrance 48 = .ok (.getfield 31, 3) := by decide +kernel
theorem dX1_proofHindrance_51 : decode cX1_proofHindrance 51 = .ok (.iload_n 2, 1) := by decide +kernel
theorem dX1_proofHindrance_52 : decode cX1_proofHindrance 52 = .ok (.aaload, 1) := by decide +kernel
theorem dX1_proofHindrance_53 : decode cX1_proofHindrance 53 = .ok (.invokevirtual 100, 3) := by decide +kernel
theorem dX1_proofHindrance_56 : decode cX1_proofHindrance 56 = .ok (.ifCond .eq 15, 3) := by decide +kernel
theorem dX1_proofHindrance_59 : decode cX1_proofHindrance 59 = .ok (.aload_n 0, 1) := by decide +kernel
theorem dX1_proofHindrance_60 : decode cX1_proofHindrance 60 = .ok (.getfield 31, 3) := by decide +kernel
theorem dX1_proofHindrance_63 : decode cX1_proofHindrance 63 = .ok (.iload_n 3, 1) := by decide +kernel
theorem dX1_proofHindrance_64 : decode cX1_proofHindrance 64 = .ok (.aaload, 1) := by decide +kernel
theorem dX1_proofHindrance_65 : decode cX1_proofHindrance 65 = .ok (.invokevirtual 100, 3) := by decide +kernel
theorem dX1_proofHindrance_68 : decode cX1_proofHindrance 68 = .ok (.ifCond .ne 5, 3) := by decide +kernel
theorem dX1_proofHindrance_71 : decode cX1_proofHindrance 71 = .ok (.iconst 2, 1) := by decide +kernel
theorem dX1_proofHindrance_72 : decode cX1_proofHindrance 72 = .ok (.ireturn, 1) := by decide +kernel
theorem dX1_proofHindrance_73 : decode cX1_proofHindrance 73 = .ok (.aload_n 0, 1) := by decide +kernel
theorem dX1_proofHindrance_74 : decode cX1_proofHindrance 74 = .ok (.iload 4, 2) := by decide +kernel
theorem dX1_proofHindrance_76 : decode cX1_proofHindrance 76 = .ok (.iconst (-1), 1) := by decide +kernel
theorem dX1_proofHindrance_77 : decode cX1_proofHindrance 77 = .ok (.invokevirtual 111, 3) := by decide +kernel
theorem dX1_proofHindrance_80 : decode cX1_proofHindrance 80 = .ok (.ifCond .ne 5, 3) := by decide +kernel
theorem dX1_proofHindrance_83 : decode cX1_proofHindrance 83 = .ok (.iconst 3, 1) := by decide +kernel
theorem dX1_proofHindrance_84 : decode cX1_proofHindrance 84 = .ok (.ireturn, 1) := by decide +kernel
theorem dX1_proofHindrance_85 : decode cX1_proofHindrance 85 = .ok (.aload_n 0, 1) := by decide +kernel
theorem dX1_proofHindrance_86 : decode cX1_proofHindrance 86 = .ok (.getfield 49, 3) := by decide +kernel
theorem dX1_proofHindrance_89 : decode cX1_proofHindrance 89 = .ok (.bipush 12, 2) := by decide +kernel
theorem dX1_proofHindrance_91 : decode cX1_proofHindrance 91 = .ok (.if_icmp .lt 7, 3) := by decide +kernel
theorem dX1_proofHindrance_94 : decode cX1_proofHindrance 94 = .ok (.iconst 4, 1) := by decide +kernel
theorem dX1_proofHindrance_95 : decode cX1_proofHindrance 95 = .ok (.goto 4, 3) := by decide +kernel
theorem dX1_proofHindrance_98 : decode cX1_proofHindrance 98 = .ok (.iconst 0, 1) := by decide +kernel
theorem dX1_proofHindrance_99 : decode cX1_proofHindrance 99 = .ok (.ireturn, 1) := by decide +kernel
set_option maxRecDepth 100000 in
set_option maxHeartbeats 4000000 in
theorem c_X1_proofHindrance (l : Launch) (G : GT) (n : Nat) (h : AH) (q : Nat) (y : Nat → Nat) (hC : cty q y h) (hI : Iv y) (u v w : Nat) (hu : u < y 4) (hv : v < y 4) (hw : w < y 4) : Ct l yX1_proofHindrance cX1_proofHindrance 5 (some .int) 3 0 0 G n h [.ref q, .int (nI u), .int (nI v), .int (nI w)] (Rt (nI (prs y u v w)) n h) := by
  obtain ⟨⟨i0, i1, i2, i3, i4⟩, iR, iU, iM, iS⟩ := id hI
  obtain ⟨hob, ⟨fR, hfR, hR⟩, ⟨fU, hfU, hU⟩, ⟨fS, hfS, hS⟩, ⟨fM, hfM, hM⟩, -, -, -⟩ := id hC
  obtain ⟨s0u, s1u, s2u, s3u, s4u, s5u⟩ := iS u hu
  unfold NO at s4u
  obtain ⟨s0v, s1v, s2v, s3v, s4v, s5v⟩ := iS v hv
  unfold NO at s4v
  obtain ⟨s0w, s1w, s2w, s3w, s4w, s5w⟩ := iS w hw
  unfold NO at s4w
  have hpu := pof_b hI hu
  have hpv := pof_b hI hv
  have hpw := pof_b hI hw
  unfold NO at hpu hpv hpw
  have hsu := cty_sh hC hu i4
  have hsv := cty_sh hC hv i4
  have hsw := cty_sh hC hw i4
  refine Ct_of mX1_proofHindrance.1 (Nat.le_of_ble_eq_true rfl) ?_
  intro p e s m args below meth c C hin
  refine V_Le (L' := [(0, .ref q), (1, .int (nI u)), (2, .int (nI v)), (3, .int (nI w))]) rfl ?_
  refine V_aload_n 1 C dX1_proofHindrance_0 rfl rfl ?_
  refine V_iload_n 2 C dX1_proofHindrance_1 rfl rfl ?_
  refine V_callV 5 C dX1_proofHindrance_2 rfl mX1_placeOf tw460 fcX1 hob (c_X1_placeOf l G _ _ q y hC hI u hu) rfl rfl (by decide) ⟨by omega, by omega⟩ (Nat.le_of_ble_eq_true rfl) ?_
  rintro _ _ _ ⟨rfl, rfl, rfl⟩
  refine V_istore 7 C dX1_proofHindrance_5 rfl (by decide) (L' := [(0, _), (1, _), (2, _), (3, _), (4, _)]) rfl ?_
  refine V_iload 9 C dX1_proofHindrance_7 rfl rfl ?_
  refine V_iconst 10 C dX1_proofHindrance_9 rfl icm1 ?_
  refine V_icmp_eqN 33 13 C dX1_proofHindrance_10 (by decide) rfl (by omega) (by omega) (fun c10 => ?_) (fun c10 => ?_)
  · refine V_iconst 34 C dX1_proofHindrance_33 rfl ic1 ?_
    refine V_ireturn C dX1_proofHindrance_34 rfl rfl (by omega) (by omega) ?_
    exact (Rt_mk (by unfold prs; rw [NO_eq, if_pos (by omega)]))
  · refine V_aload_n 14 C dX1_proofHindrance_13 rfl rfl ?_
    refine V_iload_n 15 C dX1_proofHindrance_14 rfl rfl ?_
    refine V_callV 18 C dX1_proofHindrance_15 rfl mX1_placeOf tw460 fcX1 hob (c_X1_placeOf l G _ _ q y hC hI v hv) rfl rfl (by decide) ⟨by omega, by omega⟩ (Nat.le_of_ble_eq_true rfl) ?_
    rintro _ _ _ ⟨rfl, rfl, rfl⟩
    refine V_iload 20 C dX1_proofHindrance_18 rfl rfl ?_
    refine V_icmp_neN 33 23 C dX1_proofHindrance_20 (by decide) rfl (by omega) (by omega) (fun c20 => ?_) (fun c20 => ?_)
    · refine V_iconst 34 C dX1_proofHindrance_33 rfl ic1 ?_
      refine V_ireturn C dX1_proofHindrance_34 rfl rfl (by omega) (by omega) ?_
      exact (Rt_mk (by unfold prs; rw [NO_eq, if_pos (by omega)]))
    · refine V_aload_n 24 C dX1_proofHindrance_23 rfl rfl ?_
      refine V_iload_n 25 C dX1_proofHindrance_24 rfl rfl ?_
      refine V_callV 28 C dX1_proofHindrance_25 rfl mX1_placeOf tw460 fcX1 hob (c_X1_placeOf l G _ _ q y hC hI w hw) rfl rfl (by decide) ⟨by omega, by omega⟩ (Nat.le_of_ble_eq_true rfl) ?_
      rintro _ _ _ ⟨rfl, rfl, rfl⟩
      refine V_iload 30 C dX1_proofHindrance_28 rfl rfl ?_
      refine V_icmp_eqN 35 33 C dX1_proofHindrance_30 (by decide) rfl (by omega) (by omega) (fun c30 => ?_) (fun c30 => ?_)
      · refine V_aload_n 36 C dX1_proofHindrance_35 rfl rfl ?_
        refine V_get (k := 10) 39 C dX1_proofHindrance_36 rfl fcX1 tw145 (by decide) rfl hob rfl ?_
        refine V_iload_n 40 C dX1_proofHindrance_39 rfl rfl ?_
        refine V_aald (j := u) 41 C dX1_proofHindrance_40 rfl hfS rfl rfl (by omega) (by omega) (hS _ (by omega)) ?_
        refine V_callV 44 C dX1_proofHindrance_41 rfl mX8_isReadable tw492 fcX8 hsu (c_X8_isReadable l G _ _ _ _ _ _ _ _ _ hsu (by omega)) rfl rfl (by decide) ⟨by omega, by omega⟩ (Nat.le_of_ble_eq_true rfl) ?_
        rintro _ _ _ ⟨rfl, rfl, rfl⟩
        refine V_if_eqB 71 47 C dX1_proofHindrance_44 (by decide) rfl  (fun c44 => ?_) (fun c44 => ?_)
        · refine V_iconst 72 C dX1_proofHindrance_71 rfl ic2 ?_
          refine V_ireturn C dX1_proofHindrance_72 rfl rfl (by omega) (by omega) ?_
          exact (Rt_mk (by unfold prs; rw [NO_eq, if_neg (by omega), if_pos (by omega)]))
        · refine V_aload_n 48 C dX1_proofHindrance_47 rfl rfl ?_
          refine V_get (k := 10) 51 C dX1_proofHindrance_48 rfl fcX1 tw145 (by decide) rfl hob rfl ?_
          refine V_iload_n 52 C dX1_proofHindrance_51 rfl rfl ?_
          refine V_aald (j := v) 53 C dX1_proofHindrance_52 rfl hfS rfl rfl (by omega) (by omega) (hS _ (by omega)) ?_
          refine V_callV 56 C dX1_proofHindrance_53 rfl mX8_isReadable tw492 fcX8 hsv (c_X8_isReadable l G _ _ _ _ _ _ _ _ _ hsv (by omega)) rfl rfl (by decide) ⟨by omega, by omega⟩ (Nat.le_of_ble_eq_true rfl) ?_
          rintro _ _ _ ⟨rfl, rfl, rfl⟩
          refine V_if_eqB 71 59 C dX1_proofHindrance_56 (by decide) rfl  (fun c56 => ?_) (fun c56 => ?_)
          · refine V_iconst 72 C dX1_proofHindrance_71 rfl ic2 ?_
            refine V_ireturn C dX1_proofHindrance_72 rfl rfl (by omega) (by omega) ?_
            exact (Rt_mk (by unfold prs; rw [NO_eq, if_neg (by omega), if_pos (by omega)]))
          · refine V_aload_n 60 C dX1_proofHindrance_59 rfl rfl ?_
            refine V_get (k := 10) 63 C dX1_proofHindrance_60 rfl fcX1 tw145 (by decide) rfl hob rfl ?_
            refine V_iload_n 64 C dX1_proofHindrance_63 rfl rfl ?_
            refine V_aald (j := w) 65 C dX1_proofHindrance_64 rfl hfS rfl rfl (by omega) (by omega) (hS _ (by omega)) ?_
            refine V_callV 68 C dX1_proofHindrance_65 rfl mX8_isReadable tw492 fcX8 hsw (c_X8_isReadable l G _ _ _ _ _ _ _ _ _ hsw (by omega)) rfl rfl (by decide) ⟨by omega, by omega⟩ (Nat.le_of_ble_eq_true rfl) ?_
            rintro _ _ _ ⟨rfl, rfl, rfl⟩
            refine V_if_neB 73 71 C dX1_proofHindrance_68 (by decide) rfl  (fun c68 => ?_) (fun c68 => ?_)
            · refine V_aload_n 74 C dX1_proofHindrance_73 rfl rfl ?_
              refine V_iload 76 C dX1_proofHindrance_74 rfl rfl ?_
              refine V_iconst 77 C dX1_proofHindrance_76 rfl icm1 ?_
              refine V_callV 80 C dX1_proofHindrance_77 rfl mX1_hasRunnerIn tw496 fcX1 hob (c_X1_hasRunnerIn l G _ _ q y hC hI _ _ (by omega) (by decide)) rfl rfl (by decide) ⟨by omega, by omega⟩ (Nat.le_of_ble_eq_true rfl) ?_
              rintro _ _ _ ⟨b9, hb9, rfl, rfl, rfl⟩
              have hb9b : b9 < 2 := by omega
              refine V_if_neN 85 83 C dX1_proofHindrance_80 (by decide) rfl (by omega) (fun c80 => ?_) (fun c80 => ?_)
              · have hrb := rinb_iff.mpr (show rin y _ _ _ by rcases hb9 with ⟨e, hz⟩ | ⟨e, hz⟩; exact hz; exact absurd e c80)
                refine V_aload_n 86 C dX1_proofHindrance_85 rfl rfl ?_
                refine V_get (k := 4) 89 C dX1_proofHindrance_86 rfl fcX1 tw131 (by decide) rfl hob rfl ?_
                refine V_bipush 91 C dX1_proofHindrance_89 rfl bip12 ?_
                refine V_icmp_ltN 98 94 C dX1_proofHindrance_91 (by decide) rfl (by omega) (by omega) (fun c91 => ?_) (fun c91 => ?_)
                · refine V_iconst 99 C dX1_proofHindrance_98 rfl ic0 ?_
                  refine V_ireturn C dX1_proofHindrance_99 rfl rfl (by omega) (by omega) ?_
                  exact (Rt_mk (by unfold prs; rw [NO_eq, if_neg (by omega), if_neg (by omega), hrb, if_neg (by decide)]; first | rw [if_pos (by omega)] | rw [if_neg (by omega)]))
                · refine V_iconst 95 C dX1_proofHindrance_94 rfl ic4 ?_
                  refine V_goto 99 C dX1_proofHindrance_95 (by decide) ?_
                  refine V_ireturn C dX1_proofHindrance_99 rfl rfl (by omega) (by omega) ?_
                  exact (Rt_mk (by unfold prs; rw [NO_eq, if_neg (by omega), if_neg (by omega), hrb, if_neg (by decide)]; first | rw [if_pos (by omega)] | rw [if_neg (by omega)]))
              · have hrb := eq_false_of_ne_true (fun z => (show ¬ rin y _ _ _ by rcases hb9 with ⟨e, hz⟩ | ⟨e, hz⟩; (rw [e] at c80; exact absurd c80 (by decide)); exact hz) (rinb_iff.mp z))
                refine V_iconst 84 C dX1_proofHindrance_83 rfl ic3 ?_
                refine V_ireturn C dX1_proofHindrance_84 rfl rfl (by omega) (by omega) ?_
                exact (Rt_mk (by unfold prs; rw [NO_eq, if_neg (by omega), if_neg (by omega), if_pos hrb]))
            · refine V_iconst 72 C dX1_proofHindrance_71 rfl ic2 ?_
              refine V_ireturn C dX1_proofHindrance_72 rfl rfl (by omega) (by omega) ?_
              exact (Rt_mk (by unfold prs; rw [NO_eq, if_neg (by omega), if_pos (by omega)]))
      · refine V_iconst 34 C dX1_proofHindrance_33 rfl ic1 ?_
        refine V_ireturn C dX1_proofHindrance_34 rfl rfl (by omega) (by omega) ?_
        exact (Rt_mk (by unfold prs; rw [NO_eq, if_pos (by omega)]))

theorem dX1_isBetter_0 : decode cX1_isBetter 0 = .ok (.aload_n 0, 1) := by decide +kernel
theorem dX1_isBetter_1 : decode cX1_isBetter 1 = .ok (.iload_n 1, 1) := by decide +kernel
theorem dX1_isBetter_2 : decode cX1_isBetter 2 = .ok (.iconst 0, 1) := by decide +kernel
theorem dX1_isBetter_3 : decode cX1_isBetter 3 = .ok (.invokevirtual 97, 3) := by decide +kernel
theorem dX1_isBetter_6 : decode cX1_isBetter 6 = .ok (.istore_n 3, 1) := by decide +kernel
theorem dX1_isBetter_7 : decode cX1_isBetter 7 = .ok (.aload_n 0, 1) := by decide +kernel
theorem dX1_isBetter_8 : decode cX1_isBetter 8 = .ok (.iload_n 2, 1) := by decide +kernel
theorem dX1_isBetter_9 : decode cX1_isBetter 9 = .ok (.iconst 0, 1) := by decide +kernel
theorem dX1_isBetter_10 : decode cX1_isBetter 10 = .ok (.invokevirtual 97, 3) := by decide +kernel
theorem dX1_isBetter_13 : decode cX1_isBetter 13 = .ok (.istore 4, 2) := by decide +kernel
theorem dX1_isBetter_15 : decode cX1_isBetter 15 = .ok (.iload_n 3, 1) := by decide +kernel
theorem dX1_isBetter_16 : decode cX1_isBetter 16 = .ok (.iload 4, 2) := by decide +kernel
theorem dX1_isBetter_18 : decode cX1_isBetter 18 = .ok (.if_icmp .lt 30, 3) := by decide +kernel
theorem dX1_isBetter_21 : decode cX1_isBetter 21 = .ok (.iload_n 3, 1) := by decide +kernel
theorem dX1_isBetter_22 : decode cX1_isBetter 22 = .ok (.iload 4, 2) := by decide +kernel
theorem dX1_isBetter_24 : decode cX1_isBetter 24 = .ok (.if_icmp .ne 28, 3) := by decide +kernel
theorem dX1_isBetter_27 : decode cX1_isBetter 27 = .ok (.aload_n 0, 1) := by decide +kernel
theorem dX1_isBetter_28 : decode cX1_isBetter 28 = .ok (.getfield 31, 3) := by decide +kernel
theorem dX1_isBetter_31 : decode cX1_isBetter 31 = .ok (.iload_n 1, 1) := by decide +kernel
theorem dX1_isBetter_32 : decode cX1_isBetter 32 = .ok (.aaload, 1) := by decide +kernel
theorem dX1_isBetter_33 : decode cX1_isBetter 33 = .ok (.getfield 78, 3) := by decide +kernel
theorem dX1_isBetter_36 : decode cX1_isBetter 36 = .ok (.aload_n 0, 1) := by decide +kernel
theorem dX1_isBetter_37 : decode cX1_isBetter 37 = .ok (.getfield 31, 3) := by decide +kernel
theorem dX1_isBetter_40 : decode cX1_isBetter 40 = .ok (.iload_n 2, 1) := by decide +kernel
theorem dX1_isBetter_41 : decode cX1_isBetter 41 = .ok (.aaload, 1) := by decide +kernel
theorem dX1_isBetter_42 : decode cX1_isBetter 42 = .ok (.getfield 78, 3) := by decide +kernel
theorem dX1_isBetter_45 : decode cX1_isBetter 45 = .ok (.if_icmp .le 7, 3) := by decide +kernel
theorem dX1_isBetter_48 : decode cX1_isBetter 48 = .ok (.iconst 1, 1) := by decide +kernel
theorem dX1_isBetter_49 : decode cX1_isBetter 49 = .ok (.goto 4, 3) := by decide +kernel
theorem dX1_isBetter_52 : decode cX1_isBetter 52 = .ok (.iconst 0, 1) := by decide +kernel
theorem dX1_isBetter_53 : decode cX1_isBetter 53 = .ok (.ireturn, 1) := by decide +kernel
set_option maxRecDepth 100000 in
set_option maxHeartbeats 4000000 in
theorem c_X1_isBetter (l : Launch) (G : GT) (n : Nat) (h : AH) (q : Nat) (y : Nat → Nat) (hC : cty q y h) (hI : Iv y) (u v : Nat) (hu : u < y 4) (hv : v < y 4) : Ct l yX1_isBetter cX1_isBetter 5 (some .boolean) 4 0 0 G n h [.ref q, .int (nI u), .int (nI v)] (Rt (nI (bp (ers y u 0 < ers y v 0 ∨ (ers y u 0 = ers y v 0 ∧ y (58 + 6 * v + 2) < y (58 + 6 * u + 2))))) n h) := by
  obtain ⟨⟨i0, i1, i2, i3, i4⟩, iR, iU, iM, iS⟩ := id hI
  obtain ⟨hob, ⟨fR, hfR, hR⟩, ⟨fU, hfU, hU⟩, ⟨fS, hfS, hS⟩, ⟨fM, hfM, hM⟩, -, -, -⟩ := id hC
  obtain ⟨s0u, s1u, s2u, s3u, s4u, s5u⟩ := iS u hu
  unfold NO at s4u
  obtain ⟨s0v, s1v, s2v, s3v, s4v, s5v⟩ := iS v hv
  unfold NO at s4v
  have hsu := cty_sh hC hu i4
  have hsv := cty_sh hC hv i4
  have eu := ers_le y u 0
  have ev := ers_le y v 0
  refine Ct_of mX1_isBetter.1 (Nat.le_of_ble_eq_true rfl) ?_
  intro p e s m args below meth c C hin
  refine V_Le (L' := [(0, .ref q), (1, .int (nI u)), (2, .int (nI v))]) rfl ?_
  refine V_aload_n 1 C dX1_isBetter_0 rfl rfl ?_
  refine V_iload_n 2 C dX1_isBetter_1 rfl rfl ?_
  refine V_iconst 3 C dX1_isBetter_2 rfl ic0 ?_
  refine V_callV 6 C dX1_isBetter_3 rfl mX1_errorsAfter tw545 fcX1 hob (c_X1_errorsAfter l G _ _ q y hC hI u 0 hu (by omega)) rfl rfl (by decide) ⟨by omega, by omega⟩ (Nat.le_of_ble_eq_true rfl) ?_
  rintro _ _ _ ⟨rfl, rfl, rfl⟩
  refine V_istore_n 7 C dX1_isBetter_6 rfl (by decide) (L' := [(0, _), (1, _), (2, _), (3, _)]) rfl ?_
  refine V_aload_n 8 C dX1_isBetter_7 rfl rfl ?_
  refine V_iload_n 9 C dX1_isBetter_8 rfl rfl ?_
  refine V_iconst 10 C dX1_isBetter_9 rfl ic0 ?_
  refine V_callV 13 C dX1_isBetter_10 rfl mX1_errorsAfter tw545 fcX1 hob (c_X1_errorsAfter l G _ _ q y hC hI v 0 hv (by omega)) rfl rfl (by decide) ⟨by omega, by omega⟩ (Nat.le_of_ble_eq_true rfl) ?_
  rintro _ _ _ ⟨rfl, rfl, rfl⟩
  refine V_istore 15 C dX1_isBetter_13 rfl (by decide) (L' := [(0, _), (1, _), (2, _), (3, _), (4, _)]) rfl ?_
  refine V_iload_n 16 C dX1_isBetter_15 rfl rfl ?_
  refine V_iload 18 C dX1_isBetter_16 rfl rfl ?_
  refine V_icmp_ltN 48 21 C dX1_isBetter_18 (by decide) rfl (by omega) (by omega) (fun c18 => ?_) (fun c18 => ?_)
  · refine V_iconst 49 C dX1_isBetter_48 rfl ic1 ?_
    refine V_goto 53 C dX1_isBetter_49 (by decide) ?_
    refine V_ireturn C dX1_isBetter_53 rfl (by decide) (by omega) (by omega) ?_
    exact (Rt_mk (by first | exact (bp_t (by omega)).symm | exact (bp_f (by omega)).symm))
  · refine V_iload_n 22 C dX1_isBetter_21 rfl rfl ?_
    refine V_iload 24 C dX1_isBetter_22 rfl rfl ?_
    refine V_icmp_neN 52 27 C dX1_isBetter_24 (by decide) rfl (by omega) (by omega) (fun c24 => ?_) (fun c24 => ?_)
    · refine V_iconst 53 C dX1_isBetter_52 rfl ic0 ?_
      refine V_ireturn C dX1_isBetter_53 rfl (by decide) (by omega) (by omega) ?_
      exact (Rt_mk (by first | exact (bp_t (by omega)).symm | exact (bp_f (by omega)).symm))
    · refine V_aload_n 28 C dX1_isBetter_27 rfl rfl ?_
      refine V_get (k := 10) 31 C dX1_isBetter_28 rfl fcX1 tw145 (by decide) rfl hob rfl ?_
      refine V_iload_n 32 C dX1_isBetter_31 rfl rfl ?_
      refine V_aald (j := u) 33 C dX1_isBetter_32 rfl hfS rfl rfl (by omega) (by omega) (hS _ (by omega)) ?_
      refine V_get (k := 2) 36 C dX1_isBetter_33 rfl fcX8 tw98 (by decide) rfl hsu rfl ?_
      refine V_aload_n 37 C dX1_isBetter_36 rfl rfl ?_
      refine V_get (k := 10) 40 C dX1_isBetter_37 rfl fcX1 tw145 (by decide) rfl hob rfl ?_
      refine V_iload_n 41 C dX1_isBetter_40 rfl rfl ?_
      refine V_aald (j := v) 42 C dX1_isBetter_41 rfl hfS rfl rfl (by omega) (by omega) (hS _ (by omega)) ?_
      refine V_get (k := 2) 45 C dX1_isBetter_42 rfl fcX8 tw98 (by decide) rfl hsv rfl ?_
      refine V_icmp_leN 52 48 C dX1_isBetter_45 (by decide) rfl (by omega) (by omega) (fun c45 => ?_) (fun c45 => ?_)
      · refine V_iconst 53 C dX1_isBetter_52 rfl ic0 ?_
        refine V_ireturn C dX1_isBetter_53 rfl (by decide) (by omega) (by omega) ?_
        exact (Rt_mk (by first | exact (bp_t (by omega)).symm | exact (bp_f (by omega)).symm))
      · refine V_iconst 49 C dX1_isBetter_48 rfl ic1 ?_
        refine V_goto 53 C dX1_isBetter_49 (by decide) ?_
        refine V_ireturn C dX1_isBetter_53 rfl (by decide) (by omega) (by omega) ?_
        exact (Rt_mk (by first | exact (bp_t (by omega)).symm | exact (bp_f (by omega)).symm))

theorem dX1_bestOf_0 : decode cX1_bestOf 0 = .ok (.iconst (-1), 1) := by decide +kernel
theorem dX1_bestOf_1 : decode cX1_bestOf 1 = .ok (.istore_n 2, 1) := by decide +kernel
theorem dX1_bestOf_2 : decode cX1_bestOf 2 = .ok (.iconst 0, 1) := by decide +kernel
theorem dX1_bestOf_3 : decode cX1_bestOf 3 = .ok (.istore_n 3, 1) := by decide +kernel
theorem dX1_bestOf_4 : decode cX1_bestOf 4 = .ok (.iload_n 3, 1) := by decide +kernel
theorem dX1_bestOf_5 : decode cX1_bestOf 5 = .ok (.aload_n 0, 1) := by decide +kernel
theorem dX1_bestOf_6 : decode cX1_bestOf 6 = .ok (.getfield 49, 3) := by decide +kernel
theorem dX1_bestOf_9 : decode cX1_bestOf 9 = .ok (.if_icmp .ge 38, 3) := by decide +kernel
theorem dX1_bestOf_12 : decode cX1_bestOf 12 = .ok (.aload_n 0, 1) := by decide +kernel
theorem dX1_bestOf_13 : decode cX1_bestOf 13 = .ok (.getfield 31, 3) := by decide +kernel
theorem dX1_bestOf_16 : decode cX1_bestOf 16 = .ok (.iload_n 3, 1) := by decide +kernel
theorem dX1_bestOf_17 : decode cX1_bestOf 17 = .ok (.aaload, 1) := by decide +kernel
theorem dX1_bestOf_18 : decode cX1_bestOf 18 = .ok (.getfield 88, 3) := by decide +kernel
theorem dX1_bestOf_21 : decode cX1_bestOf 21 = .ok (.iload_n 1, 1) := by decide +kernel
theorem dX1_bestOf_22 : decode cX1_bestOf 22 = .ok (.if_icmp .ne 19, 3) := by decide +kernel
theorem dX1_bestOf_25 : decode cX1_bestOf 25 = .ok (.iload_n 2, 1) := by decide +kernel
theorem dX1_bestOf_26 : decode cX1_bestOf 26 = .ok (.iconst (-1), 1) := by decide +kernel
theorem dX1_bestOf_27 : decode cX1_bestOf 27 = .ok (.if_icmp .eq 12, 3) := by decide +kernel
theorem dX1_bestOf_30 : decode cX1_bestOf 30 = .ok (.aload_n 0, 1) := by decide +kernel
theorem dX1_bestOf_31 : decode cX1_bestOf 31 = .ok (.iload_n 3, 1) := by decide +kernel
theorem dX1_bestOf_32 : decode cX1_bestOf 32 = .ok (.iload_n 2, 1) := by decide +kernel
theorem dX1_bestOf_33 : decode cX1_bestOf 33 = .ok (.invokevirtual 115, 3) := by decide +kernel
theorem dX1_bestOf_36 : decode cX1_bestOf 36 = .ok (.ifCond .eq 5, 3) := by decide +kernel
theorem dX1_bestOf_39 : decode cX1_bestOf 39 = .ok (.iload_n 3, 1) := by decide +kernel
theorem dX1_bestOf_40 : decode cX1_bestOf 40 = .ok (.istore_n 2, 1) := by decide +kernel
theorem dX1_bestOf_41 : decode cX1_bestOf 41 = .ok (.iinc 3 1, 3) := by decide +kernel
theorem dX1_bestOf_44 : decode cX1_bestOf 44 = .ok (.goto (-40), 3) := by decide +kernel
theorem dX1_bestOf_47 : decode cX1_bestOf 47 = .ok (.iload_n 2, 1) := by decide +kernel
theorem dX1_bestOf_48 : decode cX1_bestOf 48 = .ok (.ireturn, 1) := by decide +kernel
set_option maxRecDepth 100000 in
set_option maxHeartbeats 4000000 in
theorem c_X1_bestOf (l : Launch) (G : GT) (n : Nat) (h : AH) (q : Nat) (y : Nat → Nat) (hC : cty q y h) (hI : Iv y) (m9 : Nat) (hm : m9 < 2 ^ 31) : Ct l yX1_bestOf cX1_bestOf 4 (some .int) 5 0 0 G n h [.ref q, .int (nI m9)] (Rt (nI (bestk y m9 (y 4))) n h) := by
  obtain ⟨⟨i0, i1, i2, i3, i4⟩, iR, iU, iM, iS⟩ := id hI
  obtain ⟨hob, ⟨fR, hfR, hR⟩, ⟨fU, hfU, hU⟩, ⟨fS, hfS, hS⟩, ⟨fM, hfM, hM⟩, -, -, -⟩ := id hC
  refine Ct_of mX1_bestOf.1 (Nat.le_of_ble_eq_true rfl) ?_
  intro p e s m args below meth c C hin
  refine V_Le (L' := [(0, .ref q), (1, .int (nI m9))]) rfl ?_
  refine V_iconst 1 C dX1_bestOf_0 rfl icm1 ?_
  refine V_istore_n 2 C dX1_bestOf_1 rfl (by decide) (L' := [(0, _), (1, _), (2, _)]) rfl ?_
  refine V_iconst 3 C dX1_bestOf_2 rfl ic0 ?_
  refine V_istore_n 4 C dX1_bestOf_3 rfl (by decide) (L' := [(0, _), (1, _), (2, _), (3, _)]) rfl ?_
  have J4 : ∀ (fuel : Nat) (i b : Nat) (hi : i ≤ y 4) (hb : b = bestk y m9 i), y 4 - i < fuel → V p l e (rmD 5 0 0) s m args below meth c (MQ below (Po G (Rt (nI (bestk y m9 (y 4))) n h)) args s 0 0 (rg G)) G 4 0 0 n h 4 [(0, .ref q), (1, .int (nI m9)), (2, .int (nI b)), (3, .int (nI i))] [] := by
    intro fuel
    induction fuel with
    | zero => intro i b hi hb hf; omega
    | succ fuel ih4 =>
      intro i b hi hb hf
      have hbk := bestk_b y m9 i
      rw [← hb] at hbk
      unfold NO at hbk
      refine V_iload_n 5 C dX1_bestOf_4 rfl rfl ?_
      refine V_aload_n 6 C dX1_bestOf_5 rfl rfl ?_
      refine V_get (k := 4) 9 C dX1_bestOf_6 rfl fcX1 tw131 (by decide) rfl hob rfl ?_
      refine V_icmp_geN 47 12 C dX1_bestOf_9 (by decide) rfl (by omega) (by omega) (fun c9 => ?_) (fun c9 => ?_)
      · refine V_iload_n 48 C dX1_bestOf_47 rfl rfl ?_
        refine V_ireturn C dX1_bestOf_48 rfl rfl (by omega) (by omega) ?_
        exact (Rt_mk (by rw [hb, show i = y 4 from by omega]))
      · refine V_aload_n 13 C dX1_bestOf_12 rfl rfl ?_
        refine V_get (k := 10) 16 C dX1_bestOf_13 rfl fcX1 tw145 (by decide) rfl hob rfl ?_
        refine V_iload_n 17 C dX1_bestOf_16 rfl rfl ?_
        refine V_aald (j := i) 18 C dX1_bestOf_17 rfl hfS rfl rfl (by omega) (by omega) (hS _ (by omega)) ?_
        have hs : i < y 4 := by omega
        have hsh := cty_sh hC hs i4
        obtain ⟨s0, s1, s2, s3, s4, s5⟩ := iS i hs
        unfold NO at s4
        refine V_get (k := 0) 21 C dX1_bestOf_18 rfl fcX8 tw91 (by decide) rfl hsh rfl ?_
        refine V_iload_n 22 C dX1_bestOf_21 rfl rfl ?_
        refine V_icmp_neN 41 25 C dX1_bestOf_22 (by decide) rfl (by omega) (by omega) (fun c22 => ?_) (fun c22 => ?_)
        · have hz : b = bestk y m9 (i + 1) := by simp only [bestk]; rw [if_neg (fun e => c22 e.1)]; exact hb
          refine V_iinc 44 C dX1_bestOf_41 rfl (by decide) rfl (ii1 _) (L' := [(0, _), (1, _), (2, _), (3, _)]) rfl ?_
          refine V_goto 4 C dX1_bestOf_44 (by decide) ?_
          refine V_L [0, 1, 2, 3] rfl ?_
          exact ih4 (i + 1) _ (by omega) hz (by omega)
        · refine V_iload_n 26 C dX1_bestOf_25 rfl rfl ?_
          refine V_iconst 27 C dX1_bestOf_26 rfl icm1 ?_
          refine V_icmp_eqN 39 30 C dX1_bestOf_27 (by decide) rfl (by omega) (by omega) (fun c27 => ?_) (fun c27 => ?_)
          · have hz : i = bestk y m9 (i + 1) := by simp only [bestk]; rw [← hb, if_pos ⟨c22, Or.inl c27⟩]
            refine V_iload_n 40 C dX1_bestOf_39 rfl rfl ?_
            refine V_istore_n 41 C dX1_bestOf_40 rfl (by decide) (L' := [(0, _), (1, _), (2, _), (3, _)]) rfl ?_
            refine V_iinc 44 C dX1_bestOf_41 rfl (by decide) rfl (ii1 _) (L' := [(0, _), (1, _), (2, _), (3, _)]) rfl ?_
            refine V_goto 4 C dX1_bestOf_44 (by decide) ?_
            refine V_L [0, 1, 2, 3] rfl ?_
            exact ih4 (i + 1) _ (by omega) hz (by omega)
          · refine V_aload_n 31 C dX1_bestOf_30 rfl rfl ?_
            refine V_iload_n 32 C dX1_bestOf_31 rfl rfl ?_
            refine V_iload_n 33 C dX1_bestOf_32 rfl rfl ?_
            refine V_callV 36 C dX1_bestOf_33 rfl mX1_isBetter tw834 fcX1 hob (c_X1_isBetter l G _ _ q y hC hI i _ hs (by omega)) rfl rfl (by decide) ⟨by omega, by omega⟩ (Nat.le_of_ble_eq_true rfl) ?_
            rintro _ _ _ ⟨rfl, rfl, rfl⟩
            refine V_if_eqB 41 39 C dX1_bestOf_36 (by decide) rfl  (fun c36 => ?_) (fun c36 => ?_)
            · have hz : b = bestk y m9 (i + 1) := by simp only [bestk]; rw [← hb, if_neg (fun e => e.2.elim c27 c36)]
              refine V_iinc 44 C dX1_bestOf_41 rfl (by decide) rfl (ii1 _) (L' := [(0, _), (1, _), (2, _), (3, _)]) rfl ?_
              refine V_goto 4 C dX1_bestOf_44 (by decide) ?_
              refine V_L [0, 1, 2, 3] rfl ?_
              exact ih4 (i + 1) _ (by omega) hz (by omega)
            · have hz : i = bestk y m9 (i + 1) := by simp only [bestk]; rw [← hb, if_pos ⟨c22, Or.inr c36⟩]
              refine V_iload_n 40 C dX1_bestOf_39 rfl rfl ?_
              refine V_istore_n 41 C dX1_bestOf_40 rfl (by decide) (L' := [(0, _), (1, _), (2, _), (3, _)]) rfl ?_
              refine V_iinc 44 C dX1_bestOf_41 rfl (by decide) rfl (ii1 _) (L' := [(0, _), (1, _), (2, _), (3, _)]) rfl ?_
              refine V_goto 4 C dX1_bestOf_44 (by decide) ?_
              refine V_L [0, 1, 2, 3] rfl ?_
              exact ih4 (i + 1) _ (by omega) hz (by omega)
  refine V_L [0, 1, 2, 3] rfl ?_
  exact J4 (y 4 + 1) 0 _ (by omega) rfl (by omega)

theorem dX1_carriedBy_0 : decode cX1_carriedBy 0 = .ok (.iconst 0, 1) := by decide +kernel
theorem dX1_carriedBy_1 : decode cX1_carriedBy 1 = .ok (.istore_n 2, 1) := by decide +kernel
theorem dX1_carriedBy_2 : decode cX1_carriedBy 2 = .ok (.iconst 0, 1) := by decide +kernel
theorem dX1_carriedBy_3 : decode cX1_carriedBy 3 = .ok (.istore_n 3, 1) := by decide +kernel
theorem dX1_carriedBy_4 : decode cX1_carriedBy 4 = .ok (.iload_n 3, 1) := by decide +kernel
theorem dX1_carriedBy_5 : decode cX1_carriedBy 5 = .ok (.aload_n 0, 1) := by decide +kernel
theorem dX1_carriedBy_6 : decode cX1_carriedBy 6 = .ok (.getfield 49, 3) := by decide +kernel
theorem dX1_carriedBy_9 : decode cX1_carriedBy 9 = .ok (.if_icmp .ge 28, 3) := by decide +kernel
theorem dX1_carriedBy_12 : decode cX1_carriedBy 12 = .ok (.aload_n 0, 1) := by decide +kernel
theorem dX1_carriedBy_13 : decode cX1_carriedBy 13 = .ok (.getfield 31, 3) := by decide +kernel
theorem dX1_carriedBy_16 : decode cX1_carriedBy 16 = .ok (.iload_n 3, 1) := by decide +kernel
theorem dX1_carriedBy_17 : decode cX1_carriedBy 17 = .ok (.aaload, 1) := by decide +kernel
theorem dX1_carriedBy_18 : decode cX1_carriedBy 18 = .ok (.getfield 68, 3) := by decide +kernel
theorem dX1_carriedBy_21 : decode cX1_carriedBy 21 = .ok (.iload_n 1, 1) := by decide +kernel
theorem dX1_carriedBy_22 : decode cX1_carriedBy 22 = .ok (.if_icmp .ne 9, 3) := by decide +kernel
theorem dX1_carriedBy_25 : decode cX1_carriedBy 25 = .ok (.iload_n 2, 1) := by decide +kernel
theorem dX1_carriedBy_26 : decode cX1_carriedBy 26 = .ok (.iconst 1, 1) := by decide +kernel
theorem dX1_carriedBy_27 : decode cX1_carriedBy 27 = .ok (.iload_n 3, 1) := by decide +kernel
theorem dX1_carriedBy_28 : decode cX1_carriedBy 28 = .ok (.ishl, 1) := by decide +kernel
theorem dX1_carriedBy_29 : decode cX1_carriedBy 29 = .ok (.ior, 1) := by decide +kernel
theorem dX1_carriedBy_30 : decode cX1_carriedBy 30 = .ok (.istore_n 2, 1) := by decide +kernel
theorem dX1_carriedBy_31 : decode cX1_carriedBy 31 = .ok (.iinc 3 1, 3) := by decide +kernel
theorem dX1_carriedBy_34 : decode cX1_carriedBy 34 = .ok (.goto (-30), 3) := by decide +kernel
theorem dX1_carriedBy_37 : decode cX1_carriedBy 37 = .ok (.iload_n 2, 1) := by decide +kernel
theorem dX1_carriedBy_38 : decode cX1_carriedBy 38 = .ok (.ireturn, 1) := by decide +kernel
set_option maxRecDepth 100000 in
set_option maxHeartbeats 4000000 in
theorem c_X1_carriedBy (l : Launch) (G : GT) (n : Nat) (h : AH) (q : Nat) (y : Nat → Nat) (hC : cty q y h) (hI : Iv y) (r : Nat) (hr : r < 2 ^ 32) : Ct l yX1_carriedBy cX1_carriedBy 4 (some .int) 1 0 0 G n h [.ref q, .int (nI r)] (Rt (nI (cbk y r (y 4))) n h) := by
  obtain ⟨⟨i0, i1, i2, i3, i4⟩, iR, iU, iM, iS⟩ := id hI
  obtain ⟨hob, ⟨fR, hfR, hR⟩, ⟨fU, hfU, hU⟩, ⟨fS, hfS, hS⟩, ⟨fM, hfM, hM⟩, -, -, -⟩ := id hC
  refine Ct_of mX1_carriedBy.1 (Nat.le_of_ble_eq_true rfl) ?_
  intro p e s m args below meth c C hin
  refine V_Le (L' := [(0, .ref q), (1, .int (nI r))]) rfl ?_
  refine V_iconst 1 C dX1_carriedBy_0 rfl ic0 ?_
  refine V_istore_n 2 C dX1_carriedBy_1 rfl (by decide) (L' := [(0, _), (1, _), (2, _)]) rfl ?_
  refine V_iconst 3 C dX1_carriedBy_2 rfl ic0 ?_
  refine V_istore_n 4 C dX1_carriedBy_3 rfl (by decide) (L' := [(0, _), (1, _), (2, _), (3, _)]) rfl ?_
  have J4 : ∀ (fuel : Nat) (i : Nat) (hi : i ≤ y 4), y 4 - i < fuel → V p l e (rmD 1 0 0) s m args below meth c (MQ below (Po G (Rt (nI (cbk y r (y 4))) n h)) args s 0 0 (rg G)) G 4 0 0 n h 4 [(0, .ref q), (1, .int (nI r)), (2, .int (nI (cbk y r i))), (3, .int (nI i))] [] := by
    intro fuel
    induction fuel with
    | zero => intro i hi hf; omega
    | succ fuel ih4 =>
      intro i hi hf
      refine V_iload_n 5 C dX1_carriedBy_4 rfl rfl ?_
      refine V_aload_n 6 C dX1_carriedBy_5 rfl rfl ?_
      refine V_get (k := 4) 9 C dX1_carriedBy_6 rfl fcX1 tw131 (by decide) rfl hob rfl ?_
      refine V_icmp_geN 37 12 C dX1_carriedBy_9 (by decide) rfl (by omega) (by omega) (fun c9 => ?_) (fun c9 => ?_)
      · refine V_iload_n 38 C dX1_carriedBy_37 rfl rfl ?_
        refine V_ireturn C dX1_carriedBy_38 rfl rfl (by omega) (by omega) ?_
        exact (Rt_mk (by rw [show i = y 4 from by omega]))
      · refine V_aload_n 13 C dX1_carriedBy_12 rfl rfl ?_
        refine V_get (k := 10) 16 C dX1_carriedBy_13 rfl fcX1 tw145 (by decide) rfl hob rfl ?_
        refine V_iload_n 17 C dX1_carriedBy_16 rfl rfl ?_
        refine V_aald (j := i) 18 C dX1_carriedBy_17 rfl hfS rfl rfl (by omega) (by omega) (hS _ (by omega)) ?_
        have hs : i < y 4 := by omega
        have hsh := cty_sh hC hs i4
        obtain ⟨s0, s1, s2, s3, s4, s5⟩ := iS i hs
        unfold NO at s4
        refine V_get (k := 4) 21 C dX1_carriedBy_18 rfl fcX8 tw103 (by decide) rfl hsh rfl ?_
        refine V_iload_n 22 C dX1_carriedBy_21 rfl rfl ?_
        refine V_icmp_neN 31 25 C dX1_carriedBy_22 (by decide) rfl (by omega) (by omega) (fun c22 => ?_) (fun c22 => ?_)
        · have hz : cbk y r i = cbk y r (i + 1) := by simp only [cbk]; rw [bp_f c22]; omega
          refine V_iinc 34 C dX1_carriedBy_31 rfl (by decide) rfl (ii1 _) (L' := [(0, _), (1, _), (2, _), (3, _)]) rfl ?_
          refine V_goto 4 C dX1_carriedBy_34 (by decide) ?_
          refine V_L [0, 1, 2, 3] rfl ?_
          rw [hz]; exact ih4 (i + 1) (by omega) (by omega)
        · have hz : cbk y r i + 2 ^ i = cbk y r (i + 1) := by simp only [cbk]; rw [bp_t c22]; omega
          refine V_iload_n 26 C dX1_carriedBy_25 rfl rfl ?_
          refine V_iconst 27 C dX1_carriedBy_26 rfl ic1 ?_
          refine V_iload_n 28 C dX1_carriedBy_27 rfl rfl ?_
          refine V_ishl 29 C dX1_carriedBy_28 rfl  ?_
          refine V_ior 30 C dX1_carriedBy_29 rfl  ?_
          rw [orbit (by omega) (cbk_lt y r i)]
          refine V_istore_n 31 C dX1_carriedBy_30 rfl (by decide) (L' := [(0, _), (1, _), (2, _), (3, _)]) rfl ?_
          refine V_iinc 34 C dX1_carriedBy_31 rfl (by decide) rfl (ii1 _) (L' := [(0, _), (1, _), (2, _), (3, _)]) rfl ?_
          refine V_goto 4 C dX1_carriedBy_34 (by decide) ?_
          refine V_L [0, 1, 2, 3] rfl ?_
          rw [hz]; exact ih4 (i + 1) (by omega) (by omega)
  refine V_L [0, 1, 2, 3] rfl ?_
  exact J4 (y 4 + 1) 0 (by omega) (by omega)

theorem dX1_runnersInTowns_0 : decode cX1_runnersInTowns 0 = .ok (.iconst 0, 1) := by decide +kernel
theorem dX1_runnersInTowns_1 : decode cX1_runnersInTowns 1 = .ok (.istore_n 1, 1) := by decide +kernel
theorem dX1_runnersInTowns_2 : decode cX1_runnersInTowns 2 = .ok (.iconst 0, 1) := by decide +kernel
theorem dX1_runnersInTowns_3 : decode cX1_runnersInTowns 3 = .ok (.istore_n 2, 1) := by decide +kernel
theorem dX1_runnersInTowns_4 : decode cX1_runnersInTowns 4 = .ok (.iload_n 2, 1) := by decide +kernel
theorem dX1_runnersInTowns_5 : decode cX1_runnersInTowns 5 = .ok (.aload_n 0, 1) := by decide +kernel
theorem dX1_runnersInTowns_6 : decode cX1_runnersInTowns 6 = .ok (.getfield 43, 3) := by decide +kernel
theorem dX1_runnersInTowns_9 : decode cX1_runnersInTowns 9 = .ok (.if_icmp .ge 27, 3) := by decide +kernel
theorem dX1_runnersInTowns_12 : decode cX1_runnersInTowns 12 = .ok (.aload_n 0, 1) := by decide +kernel
theorem dX1_runnersInTowns_13 : decode cX1_runnersInTowns 13 = .ok (.getfield 20, 3) := by decide +kernel
theorem dX1_runnersInTowns_16 : decode cX1_runnersInTowns 16 = .ok (.iload_n 2, 1) := by decide +kernel
theorem dX1_runnersInTowns_17 : decode cX1_runnersInTowns 17 = .ok (.aaload, 1) := by decide +kernel
theorem dX1_runnersInTowns_18 : decode cX1_runnersInTowns 18 = .ok (.getfield 74, 3) := by decide +kernel
theorem dX1_runnersInTowns_21 : decode cX1_runnersInTowns 21 = .ok (.ifCond .ne 9, 3) := by decide +kernel
theorem dX1_runnersInTowns_24 : decode cX1_runnersInTowns 24 = .ok (.iload_n 1, 1) := by decide +kernel
theorem dX1_runnersInTowns_25 : decode cX1_runnersInTowns 25 = .ok (.iconst 1, 1) := by decide +kernel
theorem dX1_runnersInTowns_26 : decode cX1_runnersInTowns 26 = .ok (.iload_n 2, 1) := by decide +kernel
theorem dX1_runnersInTowns_27 : decode cX1_runnersInTowns 27 = .ok (.ishl, 1) := by decide +kernel
theorem dX1_runnersInTowns_28 : decode cX1_runnersInTowns 28 = .ok (.ior, 1) := by decide +kernel
theorem dX1_runnersInTowns_29 : decode cX1_runnersInTowns 29 = .ok (.istore_n 1, 1) := by decide +kernel
theorem dX1_runnersInTowns_30 : decode cX1_runnersInTowns 30 = .ok (.iinc 2 1, 3) := by decide +kernel
theorem dX1_runnersInTowns_33 : decode cX1_runnersInTowns 33 = .ok (.goto (-29), 3) := by decide +kernel
theorem dX1_runnersInTowns_36 : decode cX1_runnersInTowns 36 = .ok (.iload_n 1, 1) := by decide +kernel
theorem dX1_runnersInTowns_37 : decode cX1_runnersInTowns 37 = .ok (.ireturn, 1) := by decide +kernel
set_option maxRecDepth 100000 in
set_option maxHeartbeats 4000000 in
theorem c_X1_runnersInTowns (l : Launch) (G : GT) (n : Nat) (h : AH) (q : Nat) (y : Nat → Nat) (hC : cty q y h) (hI : Iv y) : Ct l yX1_runnersInTowns cX1_runnersInTowns 3 (some .int) 1 0 0 G n h [.ref q] (Rt (nI (rtk y (y 2))) n h) := by
  obtain ⟨⟨i0, i1, i2, i3, i4⟩, iR, iU, iM, iS⟩ := id hI
  obtain ⟨hob, ⟨fR, hfR, hR⟩, ⟨fU, hfU, hU⟩, ⟨fS, hfS, hS⟩, ⟨fM, hfM, hM⟩, -, -, -⟩ := id hC
  refine Ct_of mX1_runnersInTowns.1 (Nat.le_of_ble_eq_true rfl) ?_
  intro p e s m args below meth c C hin
  refine V_Le (L' := [(0, .ref q)]) rfl ?_
  refine V_iconst 1 C dX1_runnersInTowns_0 rfl ic0 ?_
  refine V_istore_n 2 C dX1_runnersInTowns_1 rfl (by decide) (L' := [(0, _), (1, _)]) rfl ?_
  refine V_iconst 3 C dX1_runnersInTowns_2 rfl ic0 ?_
  refine V_istore_n 4 C dX1_runnersInTowns_3 rfl (by decide) (L' := [(0, _), (1, _), (2, _)]) rfl ?_
  have J4 : ∀ (fuel : Nat) (i : Nat) (hi : i ≤ y 2), y 2 - i < fuel → V p l e (rmD 1 0 0) s m args below meth c (MQ below (Po G (Rt (nI (rtk y (y 2))) n h)) args s 0 0 (rg G)) G 3 0 0 n h 4 [(0, .ref q), (1, .int (nI (rtk y i))), (2, .int (nI i))] [] := by
    intro fuel
    induction fuel with
    | zero => intro i hi hf; omega
    | succ fuel ih4 =>
      intro i hi hf
      refine V_iload_n 5 C dX1_runnersInTowns_4 rfl rfl ?_
      refine V_aload_n 6 C dX1_runnersInTowns_5 rfl rfl ?_
      refine V_get (k := 2) 9 C dX1_runnersInTowns_6 rfl fcX1 tw127 (by decide) rfl hob rfl ?_
      refine V_icmp_geN 36 12 C dX1_runnersInTowns_9 (by decide) rfl (by omega) (by omega) (fun c9 => ?_) (fun c9 => ?_)
      · refine V_iload_n 37 C dX1_runnersInTowns_36 rfl rfl ?_
        refine V_ireturn C dX1_runnersInTowns_37 rfl rfl (by omega) (by omega) ?_
        exact (Rt_mk (by rw [show i = y 2 from by omega]))
      · refine V_aload_n 13 C dX1_runnersInTowns_12 rfl rfl ?_
        refine V_get (k := 8) 16 C dX1_runnersInTowns_13 rfl fcX1 tw140 (by decide) rfl hob rfl ?_
        refine V_iload_n 17 C dX1_runnersInTowns_16 rfl rfl ?_
        refine V_aald (j := i) 18 C dX1_runnersInTowns_17 rfl hfU rfl rfl (by omega) (by omega) (hU _ (by omega)) ?_
        have hs : i < y 2 := by omega
        have hru := cty_ru hC hs i2
        obtain ⟨u0, u1⟩ := iU i hs
        refine V_get (k := 1) 21 C dX1_runnersInTowns_18 rfl fcX6 tw71 (by decide) rfl hru rfl ?_
        refine V_if_neN 30 24 C dX1_runnersInTowns_21 (by decide) rfl (by omega) (fun c21 => ?_) (fun c21 => ?_)
        · have hz : rtk y i = rtk y (i + 1) := by simp only [rtk]; rw [bp_f c21]; omega
          refine V_iinc 33 C dX1_runnersInTowns_30 rfl (by decide) rfl (ii1 _) (L' := [(0, _), (1, _), (2, _)]) rfl ?_
          refine V_goto 4 C dX1_runnersInTowns_33 (by decide) ?_
          refine V_L [0, 1, 2] rfl ?_
          rw [hz]; exact ih4 (i + 1) (by omega) (by omega)
        · have hz : rtk y i + 2 ^ i = rtk y (i + 1) := by simp only [rtk]; rw [bp_t c21]; omega
          refine V_iload_n 25 C dX1_runnersInTowns_24 rfl rfl ?_
          refine V_iconst 26 C dX1_runnersInTowns_25 rfl ic1 ?_
          refine V_iload_n 27 C dX1_runnersInTowns_26 rfl rfl ?_
          refine V_ishl 28 C dX1_runnersInTowns_27 rfl  ?_
          refine V_ior 29 C dX1_runnersInTowns_28 rfl  ?_
          rw [orbit (by omega) (rtk_lt y i)]
          refine V_istore_n 30 C dX1_runnersInTowns_29 rfl (by decide) (L' := [(0, _), (1, _), (2, _)]) rfl ?_
          refine V_iinc 33 C dX1_runnersInTowns_30 rfl (by decide) rfl (ii1 _) (L' := [(0, _), (1, _), (2, _)]) rfl ?_
          refine V_goto 4 C dX1_runnersInTowns_33 (by decide) ?_
          refine V_L [0, 1, 2] rfl ?_
          rw [hz]; exact ih4 (i + 1) (by omega) (by omega)
  refine V_L [0, 1, 2] rfl ?_
  exact J4 (y 2 + 1) 0 (by omega) (by omega)

theorem dX1_addTown_0 : decode cX1_addTown 0 = .ok (.aload_n 0, 1) := by decide +kernel
theorem dX1_addTown_1 : decode cX1_addTown 1 = .ok (.getfield 36, 3) := by decide +kernel
theorem dX1_addTown_4 : decode cX1_addTown 4 = .ok (.bipush 6, 2) := by decide +kernel
theorem dX1_addTown_6 : decode cX1_addTown 6 = .ok (.if_icmp .lt 6, 3) := by decide +kernel
theorem dX1_addTown_9 : decode cX1_addTown 9 = .ok (.bipush (-4), 2) := by decide +kernel
theorem dX1_addTown_11 : decode cX1_addTown 11 = .ok (.ireturn, 1) := by decide +kernel
theorem dX1_addTown_12 : decode cX1_addTown 12 = .ok (.aload_n 0, 1) := by decide +kernel
theorem dX1_addTown_13 : decode cX1_addTown 13 = .ok (.dup, 1) := by decide +kernel
theorem dX1_addTown_14 : decode cX1_addTown 14 = .ok (.getfield 36, 3) := by decide +kernel
theorem dX1_addTown_17 : decode cX1_addTown 17 = .ok (.iconst 1, 1) := by decide +kernel
theorem dX1_addTown_18 : decode cX1_addTown 18 = .ok (.iadd, 1) := by decide +kernel
theorem dX1_addTown_19 : decode cX1_addTown 19 = .ok (.putfield 36, 3) := by decide +kernel
theorem dX1_addTown_22 : decode cX1_addTown 22 = .ok (.aload_n 0, 1) := by decide +kernel
theorem dX1_addTown_23 : decode cX1_addTown 23 = .ok (.getfield 36, 3) := by decide +kernel
theorem dX1_addTown_26 : decode cX1_addTown 26 = .ok (.iconst 1, 1) := by decide +kernel
theorem dX1_addTown_27 : decode cX1_addTown 27 = .ok (.isub, 1) := by decide +kernel
theorem dX1_addTown_28 : decode cX1_addTown 28 = .ok (.ireturn, 1) := by decide +kernel
set_option maxRecDepth 100000 in
set_option maxHeartbeats 4000000 in
theorem c_X1_addTown (l : Launch) (G : GT) (n : Nat) (h : AH) (q : Nat) (y : Nat → Nat) (hC : cty q y h) (hI : Iv y) : Ct l yX1_addTown cX1_addTown 1 (some .int) 1 0 0 G n h [.ref q] (AP q n h (aTw y)) := by
  obtain ⟨⟨i0, i1, i2, i3, i4⟩, iR, iU, iM, iS⟩ := id hI
  obtain ⟨hob, ⟨fR, hfR, hR⟩, ⟨fU, hfU, hU⟩, ⟨fS, hfS, hS⟩, ⟨fM, hfM, hM⟩, -, -, -⟩ := id hC
  refine Ct_of mX1_addTown.1 (Nat.le_of_ble_eq_true rfl) ?_
  intro p e s m args below meth c C hin
  refine V_Le (L' := [(0, .ref q)]) rfl ?_
  refine V_aload_n 1 C dX1_addTown_0 rfl rfl ?_
  refine V_get (k := 0) 4 C dX1_addTown_1 rfl fcX1 tw122 (by decide) rfl hob rfl ?_
  refine V_bipush 6 C dX1_addTown_4 rfl bip6 ?_
  refine V_icmp_ltN 12 9 C dX1_addTown_6 (by decide) rfl (by omega) (by omega) (fun c6 => ?_) (fun c6 => ?_)
  · refine V_aload_n 13 C dX1_addTown_12 rfl rfl ?_
    refine V_dup 14 C dX1_addTown_13 rfl rfl ?_
    refine V_get (k := 0) 17 C dX1_addTown_14 rfl fcX1 tw122 (by decide) rfl hob rfl ?_
    refine V_iconst 18 C dX1_addTown_17 rfl ic1 ?_
    refine V_iaddN 19 C dX1_addTown_18 rfl  ?_
    refine V_put (fs' := [_, _, _, _, _, _, _, _, _, _, _]) (k := 0) 22 C dX1_addTown_19 rfl fcX1 tw122 (by decide) rfl rfl hob rfl rfl (Nat.le_of_ble_eq_true rfl) rfl ?_
    refine V_aload_n 23 C dX1_addTown_22 rfl rfl ?_
    refine V_get (k := 0) 26 C dX1_addTown_23 rfl fcX1 tw122 (by decide) rfl (up_s _ _ _) rfl ?_
    refine V_iconst 27 C dX1_addTown_26 rfl ic1 ?_
    refine V_isub 28 C dX1_addTown_27 rfl  ?_
    rw [sub1]
    refine V_ireturn C dX1_addTown_28 rfl rfl (by omega) (by omega) ?_
    exact (AP_mk (y' := twOn y) (by unfold aTw; rw [if_pos (by omega)]) (cty_ob (y' := twOn y) hC (Nat.le_refl _) (Nat.le_refl _) (Nat.le_refl _) (Nat.le_refl _) (fun j hj => ys_n _ (by omega))) (FR.up FR.rf _ (by omega)))
  · refine V_bipush 11 C dX1_addTown_9 rfl bipm4 ?_
    refine V_ireturn C dX1_addTown_11 rfl rfl (by omega) (by omega) ?_
    exact (AP_mk (by unfold aTw; rw [if_neg (by omega)]; rfl) hC FR.rf)

theorem dX1_addRoad_0 : decode cX1_addRoad 0 = .ok (.aload_n 0, 1) := by decide +kernel
theorem dX1_addRoad_1 : decode cX1_addRoad 1 = .ok (.iload_n 1, 1) := by decide +kernel
theorem dX1_addRoad_2 : decode cX1_addRoad 2 = .ok (.invokevirtual 118, 3) := by decide +kernel
theorem dX1_addRoad_5 : decode cX1_addRoad 5 = .ok (.ifCond .eq 11, 3) := by decide +kernel
theorem dX1_addRoad_8 : decode cX1_addRoad 8 = .ok (.aload_n 0, 1) := by decide +kernel
theorem dX1_addRoad_9 : decode cX1_addRoad 9 = .ok (.iload_n 2, 1) := by decide +kernel
theorem dX1_addRoad_10 : decode cX1_addRoad 10 = .ok (.invokevirtual 118, 3) := by decide +kernel
theorem dX1_addRoad_13 : decode cX1_addRoad 13 = .ok (.ifCond .ne 6, 3) := by decide +kernel
theorem dX1_addRoad_16 : decode cX1_addRoad 16 = .ok (.bipush (-2), 2) := by decide +kernel
theorem dX1_addRoad_18 : decode cX1_addRoad 18 = .ok (.ireturn, 1) := by decide +kernel
theorem dX1_addRoad_19 : decode cX1_addRoad 19 = .ok (.iload_n 1, 1) := by decide +kernel
theorem dX1_addRoad_20 : decode cX1_addRoad 20 = .ok (.iload_n 2, 1) := by decide +kernel
theorem dX1_addRoad_21 : decode cX1_addRoad 21 = .ok (.if_icmp .eq 13, 3) := by decide +kernel
theorem dX1_addRoad_24 : decode cX1_addRoad 24 = .ok (.iload_n 3, 1) := by decide +kernel
theorem dX1_addRoad_25 : decode cX1_addRoad 25 = .ok (.iconst 1, 1) := by decide +kernel
theorem dX1_addRoad_26 : decode cX1_addRoad 26 = .ok (.bipush 20, 2) := by decide +kernel
theorem dX1_addRoad_28 : decode cX1_addRoad 28 = .ok (.invokestatic 121, 3) := by decide +kernel
theorem dX1_addRoad_31 : decode cX1_addRoad 31 = .ok (.ifCond .ne 6, 3) := by decide +kernel
theorem dX1_addRoad_34 : decode cX1_addRoad 34 = .ok (.bipush (-3), 2) := by decide +kernel
theorem dX1_addRoad_36 : decode cX1_addRoad 36 = .ok (.ireturn, 1) := by decide +kernel
theorem dX1_addRoad_37 : decode cX1_addRoad 37 = .ok (.aload_n 0, 1) := by decide +kernel
theorem dX1_addRoad_38 : decode cX1_addRoad 38 = .ok (.getfield 40, 3) := by decide +kernel
theorem dX1_addRoad_41 : decode cX1_addRoad 41 = .ok (.bipush 10, 2) := by decide +kernel
theorem dX1_addRoad_43 : decode cX1_addRoad 43 = .ok (.if_icmp .lt 6, 3) := by decide +kernel
theorem dX1_addRoad_46 : decode cX1_addRoad 46 = .ok (.bipush (-4), 2) := by decide +kernel
theorem dX1_addRoad_48 : decode cX1_addRoad 48 = .ok (.ireturn, 1) := by decide +kernel
theorem dX1_addRoad_49 : decode cX1_addRoad 49 = .ok (.aload_n 0, 1) := by decide +kernel
theorem dX1_addRoad_50 : decode cX1_addRoad 50 = .ok (.getfield 11, 3) := by decide +kernel
theorem dX1_addRoad_53 : decode cX1_addRoad 53 = .ok (.aload_n 0, 1) := by decide +kernel
theorem dX1_addRoad_54 : decode cX1_addRoad 54 = .ok (.getfield 40, 3) := by decide +kernel
theorem dX1_addRoad_57 : decode cX1_addRoad 57 = .ok (.aaload, 1) := by decide +kernel
theorem dX1_addRoad_58 : decode cX1_addRoad 58 = .ok (.astore 4, 2) := by decide +kernel
theorem dX1_addRoad_60 : decode cX1_addRoad 60 = .ok (.aload 4, 2) := by decide +kernel
theorem dX1_addRoad_62 : decode cX1_addRoad 62 = .ok (.iload_n 1, 1) := by decide +kernel
theorem dX1_addRoad_63 : decode cX1_addRoad 63 = .ok (.putfield 125, 3) := by decide +kernel
theorem dX1_addRoad_66 : decode cX1_addRoad 66 = .ok (.aload 4, 2) := by decide +kernel
theorem dX1_addRoad_68 : decode cX1_addRoad 68 = .ok (.iload_n 2, 1) := by decide +kernel
theorem dX1_addRoad_69 : decode cX1_addRoad 69 = .ok (.putfield 128, 3) := by decide +kernel
theorem dX1_addRoad_72 : decode cX1_addRoad 72 = .ok (.aload 4, 2) := by decide +kernel
theorem dX1_addRoad_74 : decode cX1_addRoad 74 = .ok (.iload_n 3, 1) := by decide +kernel
theorem dX1_addRoad_75 : decode cX1_addRoad 75 = .ok (.putfield 131, 3) := by decide +kernel
theorem dX1_addRoad_78 : decode cX1_addRoad 78 = .ok (.aload_n 0, 1) := by decide +kernel
theorem dX1_addRoad_79 : decode cX1_addRoad 79 = .ok (.dup, 1) := by decide +kernel
theorem dX1_addRoad_80 : decode cX1_addRoad 80 = .ok (.getfield 40, 3) := by decide +kernel
theorem dX1_addRoad_83 : decode cX1_addRoad 83 = .ok (.iconst 1, 1) := by decide +kernel
theorem dX1_addRoad_84 : decode cX1_addRoad 84 = .ok (.iadd, 1) := by decide +kernel
theorem dX1_addRoad_85 : decode cX1_addRoad 85 = .ok (.putfield 40, 3) := by decide +kernel
theorem dX1_addRoad_88 : decode cX1_addRoad 88 = .ok (.aload_n 0, 1) := by decide +kernel
theorem dX1_addRoad_89 : decode cX1_addRoad 89 = .ok (.getfield 40, 3) := by decide +kernel
theorem dX1_addRoad_92 : decode cX1_addRoad 92 = .ok (.iconst 1, 1) := by decide +kernel
theorem dX1_addRoad_93 : decode cX1_addRoad 93 = .ok (.isub, 1) := by decide +kernel
theorem dX1_addRoad_94 : decode cX1_addRoad 94 = .ok (.ireturn, 1) := by decide +kernel
set_option maxRecDepth 100000 in
set_option maxHeartbeats 4000000 in
theorem c_X1_addRoad (l : Launch) (G : GT) (n : Nat) (h : AH) (q : Nat) (y : Nat → Nat) (hC : cty q y h) (hI : Iv y) (a b w : Int32) : Ct l yX1_addRoad cX1_addRoad 5 (some .int) 2 0 0 G n h [.ref q, .int a, .int b, .int w] (AP q n h (aRd y a b w)) := by
  obtain ⟨⟨i0, i1, i2, i3, i4⟩, iR, iU, iM, iS⟩ := id hI
  obtain ⟨hob, ⟨fR, hfR, hR⟩, ⟨fU, hfU, hU⟩, ⟨fS, hfS, hS⟩, ⟨fM, hfM, hM⟩, -, -, -⟩ := id hC
  refine Ct_of mX1_addRoad.1 (Nat.le_of_ble_eq_true rfl) ?_
  intro p e s m args below meth c C hin
  refine V_Le (L' := [(0, .ref q), (1, .int a), (2, .int b), (3, .int w)]) rfl ?_
  refine V_aload_n 1 C dX1_addRoad_0 rfl rfl ?_
  refine V_iload_n 2 C dX1_addRoad_1 rfl rfl ?_
  refine V_callV 5 C dX1_addRoad_2 rfl mX1_hasTown tw420 fcX1 hob (c_X1_hasTown l G _ _ q y hC hI a) rfl rfl (by decide) ⟨by omega, by omega⟩ (Nat.le_of_ble_eq_true rfl) ?_
  rintro _ _ _ ⟨rfl, rfl, rfl⟩
  refine V_if_eqB 16 8 C dX1_addRoad_5 (by decide) rfl  (fun c5 => ?_) (fun c5 => ?_)
  · refine V_bipush 18 C dX1_addRoad_16 rfl bipm2 ?_
    refine V_ireturn C dX1_addRoad_18 rfl rfl (by omega) (by omega) ?_
    exact (AP_mk (by unfold aRd; rw [if_neg (fun e => by first | exact c5 e.1 | exact c13 e.2)]; rfl) hC FR.rf)
  · refine V_aload_n 9 C dX1_addRoad_8 rfl rfl ?_
    refine V_iload_n 10 C dX1_addRoad_9 rfl rfl ?_
    refine V_callV 13 C dX1_addRoad_10 rfl mX1_hasTown tw420 fcX1 hob (c_X1_hasTown l G _ _ q y hC hI b) rfl rfl (by decide) ⟨by omega, by omega⟩ (Nat.le_of_ble_eq_true rfl) ?_
    rintro _ _ _ ⟨rfl, rfl, rfl⟩
    refine V_if_neB 19 16 C dX1_addRoad_13 (by decide) rfl  (fun c13 => ?_) (fun c13 => ?_)
    · refine V_iload_n 20 C dX1_addRoad_19 rfl rfl ?_
      refine V_iload_n 21 C dX1_addRoad_20 rfl rfl ?_
      refine V_icmp_eq 34 24 C dX1_addRoad_21 (by decide) rfl  (fun c21 => ?_) (fun c21 => ?_)
      · refine V_bipush 36 C dX1_addRoad_34 rfl bipm3 ?_
        refine V_ireturn C dX1_addRoad_36 rfl rfl (by omega) (by omega) ?_
        exact (AP_mk (by unfold aRd; rw [if_pos ⟨c5, c13⟩, if_pos (by first | exact Or.inl c21 | exact Or.inr c31)]; rfl) hC FR.rf)
      · refine V_iload_n 25 C dX1_addRoad_24 rfl rfl ?_
        refine V_iconst 26 C dX1_addRoad_25 rfl ic1 ?_
        refine V_bipush 28 C dX1_addRoad_26 rfl bip20 ?_
        refine V_callSN (host := RX9) 31 C dX1_addRoad_28 rfl mX9_inRange (by decide +kernel) (c_X9_inRange l G _ _ _ _ _) rfl rfl (by decide) ⟨by omega, by omega⟩ (Nat.le_of_ble_eq_true rfl) ?_
        rintro _ _ _ ⟨rfl, rfl, rfl⟩
        refine V_if_neB 37 34 C dX1_addRoad_31 (by decide) rfl  (fun c31 => ?_) (fun c31 => ?_)
        · have hwr : 1 ≤ w.toInt ∧ w.toInt ≤ 20 := c31
          refine V_aload_n 38 C dX1_addRoad_37 rfl rfl ?_
          refine V_get (k := 1) 41 C dX1_addRoad_38 rfl fcX1 tw124 (by decide) rfl hob rfl ?_
          refine V_bipush 43 C dX1_addRoad_41 rfl bip10 ?_
          refine V_icmp_ltN 49 46 C dX1_addRoad_43 (by decide) rfl (by omega) (by omega) (fun c43 => ?_) (fun c43 => ?_)
          · refine V_aload_n 50 C dX1_addRoad_49 rfl rfl ?_
            have eR : aRd y a b w = (nI (y 1), rdOn y (z a) (z b) (z w)) := by unfold aRd; rw [if_pos ⟨c5, c13⟩, if_neg (fun e => e.elim c21 (fun e => e hwr)), if_pos c43]
            obtain ⟨ja, hja, rfl⟩ := ix_of c5 (by omega)
            obtain ⟨jb, hjb, rfl⟩ := ix_of c13 (by omega)
            obtain ⟨jw, hjw, rfl⟩ := ix_of (t := w) (n := 21) ⟨by omega, by omega⟩ (by decide)
            rw [zn (by omega), zn (by omega), zn (by omega)] at eR
            obtain ⟨x0, x1, x2, hro, -⟩ := hC.2.2.2.2.2.1 (y 1) (by omega)
            refine V_get (k := 7) 53 C dX1_addRoad_50 rfl fcX1 tw137 (by decide) rfl hob rfl ?_
            refine V_aload_n 54 C dX1_addRoad_53 rfl rfl ?_
            refine V_get (k := 1) 57 C dX1_addRoad_54 rfl fcX1 tw124 (by decide) rfl hob rfl ?_
            refine V_aald (j := y 1) 58 C dX1_addRoad_57 rfl hfR rfl rfl (by omega) (by omega) (hR _ (by omega)) ?_
            refine V_astore 60 C dX1_addRoad_58 rfl (by decide) (L' := [(0, _), (1, _), (2, _), (3, _), (4, _)]) rfl ?_
            refine V_aload 62 C dX1_addRoad_60 rfl rfl ?_
            refine V_iload_n 63 C dX1_addRoad_62 rfl rfl ?_
            refine V_put (fs' := [_, _, _]) (k := 0) 66 C dX1_addRoad_63 rfl fcX5 tw43 (by decide) rfl rfl hro rfl rfl (Nat.le_of_ble_eq_true rfl) rfl ?_
            refine V_aload 68 C dX1_addRoad_66 rfl rfl ?_
            refine V_iload_n 69 C dX1_addRoad_68 rfl rfl ?_
            refine V_put (fs' := [_, _, _]) (k := 1) 72 C dX1_addRoad_69 rfl fcX5 tw47 (by decide) rfl rfl (up_s _ _ _) rfl rfl (Nat.le_of_ble_eq_true rfl) rfl ?_
            rw [up_up]
            refine V_aload 74 C dX1_addRoad_72 rfl rfl ?_
            refine V_iload_n 75 C dX1_addRoad_74 rfl rfl ?_
            refine V_put (fs' := [_, _, _]) (k := 2) 78 C dX1_addRoad_75 rfl fcX5 tw51 (by decide) rfl rfl (up_s _ _ _) rfl rfl (Nat.le_of_ble_eq_true rfl) rfl ?_
            rw [up_up]
            refine V_aload_n 79 C dX1_addRoad_78 rfl rfl ?_
            refine V_dup 80 C dX1_addRoad_79 rfl rfl ?_
            refine V_get (k := 1) 83 C dX1_addRoad_80 rfl fcX1 tw124 (by decide) rfl (show up h (q + 2 + y 1) _ q = _ from by rw [up_n _ (by omega)]; exact hob) rfl ?_
            refine V_iconst 84 C dX1_addRoad_83 rfl ic1 ?_
            refine V_iaddN 85 C dX1_addRoad_84 rfl  ?_
            refine V_put (fs' := [_, _, _, _, _, _, _, _, _, _, _]) (k := 1) 88 C dX1_addRoad_85 rfl fcX1 tw124 (by decide) rfl rfl (show up h (q + 2 + y 1) _ q = _ from by rw [up_n _ (by omega)]; exact hob) rfl rfl (Nat.le_of_ble_eq_true rfl) rfl ?_
            refine V_aload_n 89 C dX1_addRoad_88 rfl rfl ?_
            refine V_get (k := 1) 92 C dX1_addRoad_89 rfl fcX1 tw124 (by decide) rfl (up_s _ _ _) rfl ?_
            refine V_iconst 93 C dX1_addRoad_92 rfl ic1 ?_
            refine V_isub 94 C dX1_addRoad_93 rfl  ?_
            rw [sub1]
            refine V_ireturn C dX1_addRoad_94 rfl rfl (by omega) (by omega) ?_
            exact (AP_mk eR (cast (congrArg (fun Z => cty q (rdOn y ja jb jw) (up (up h (q + 2 + y 1) (c3 4 ja jb jw)) q Z)) (show obj q (rdOn y ja jb jw) = _ from obj_rd q y ja jb jw)) (cty_addRoad hC (by omega) i3)) (FR.up (FR.up FR.rf _ (by omega)) _ (by omega)))
          · refine V_bipush 48 C dX1_addRoad_46 rfl bipm4 ?_
            refine V_ireturn C dX1_addRoad_48 rfl rfl (by omega) (by omega) ?_
            exact (AP_mk (by unfold aRd; rw [if_pos ⟨c5, c13⟩, if_neg (fun e => e.elim c21 (fun e => e hwr)), if_neg (by omega)]; rfl) hC FR.rf)
        · refine V_bipush 36 C dX1_addRoad_34 rfl bipm3 ?_
          refine V_ireturn C dX1_addRoad_36 rfl rfl (by omega) (by omega) ?_
          exact (AP_mk (by unfold aRd; rw [if_pos ⟨c5, c13⟩, if_pos (by first | exact Or.inl c21 | exact Or.inr c31)]; rfl) hC FR.rf)
    · refine V_bipush 18 C dX1_addRoad_16 rfl bipm2 ?_
      refine V_ireturn C dX1_addRoad_18 rfl rfl (by omega) (by omega) ?_
      exact (AP_mk (by unfold aRd; rw [if_neg (fun e => by first | exact c5 e.1 | exact c13 e.2)]; rfl) hC FR.rf)

theorem dX1_addRunner_0 : decode cX1_addRunner 0 = .ok (.aload_n 0, 1) := by decide +kernel
theorem dX1_addRunner_1 : decode cX1_addRunner 1 = .ok (.iload_n 1, 1) := by decide +kernel
theorem dX1_addRunner_2 : decode cX1_addRunner 2 = .ok (.invokevirtual 118, 3) := by decide +kernel
theorem dX1_addRunner_5 : decode cX1_addRunner 5 = .ok (.ifCond .ne 6, 3) := by decide +kernel
theorem dX1_addRunner_8 : decode cX1_addRunner 8 = .ok (.bipush (-2), 2) := by decide +kernel
theorem dX1_addRunner_10 : decode cX1_addRunner 10 = .ok (.ireturn, 1) := by decide +kernel
theorem dX1_addRunner_11 : decode cX1_addRunner 11 = .ok (.aload_n 0, 1) := by decide +kernel
theorem dX1_addRunner_12 : decode cX1_addRunner 12 = .ok (.getfield 43, 3) := by decide +kernel
theorem dX1_addRunner_15 : decode cX1_addRunner 15 = .ok (.iconst 5, 1) := by decide +kernel
theorem dX1_addRunner_16 : decode cX1_addRunner 16 = .ok (.if_icmp .lt 6, 3) := by decide +kernel
theorem dX1_addRunner_19 : decode cX1_addRunner 19 = .ok (.bipush (-4), 2) := by decide +kernel
theorem dX1_addRunner_21 : decode cX1_addRunner 21 = .ok (.ireturn, 1) := by decide +kernel
theorem dX1_addRunner_22 : decode cX1_addRunner 22 = .ok (.aload_n 0, 1) := by decide +kernel
theorem dX1_addRunner_23 : decode cX1_addRunner 23 = .ok (.getfield 20, 3) := by decide +kernel
theorem dX1_addRunner_26 : decode cX1_addRunner 26 = .ok (.aload_n 0, 1) := by decide +kernel
theorem dX1_addRunner_27 : decode cX1_addRunner 27 = .ok (.getfield 43, 3) := by decide +kernel
theorem dX1_addRunner_30 : decode cX1_addRunner 30 = .ok (.aaload, 1) := by decide +kernel
theorem dX1_addRunner_31 : decode cX1_addRunner 31 = .ok (.astore_n 2, 1) := by decide +kernel
theorem dX1_addRunner_32 : decode cX1_addRunner 32 = .ok (.aload_n 2, 1) := by decide +kernel
theorem dX1_addRunner_33 : decode cX1_addRunner 33 = .ok (.iload_n 1, 1) := by decide +kernel
theorem dX1_addRunner_34 : decode cX1_addRunner 34 = .ok (.putfield 77, 3) := by decide +kernel
theorem dX1_addRunner_37 : decode cX1_addRunner 37 = .ok (.aload_n 2, 1) := by decide +kernel
theorem dX1_addRunner_38 : decode cX1_addRunner 38 = .ok (.iconst 0, 1) := by decide +kernel
theorem dX1_addRunner_39 : decode cX1_addRunner 39 = .ok (.putfield 74, 3) := by decide +kernel
theorem dX1_addRunner_42 : decode cX1_addRunner 42 = .ok (.aload_n 2, 1) := by decide +kernel
theorem dX1_addRunner_43 : decode cX1_addRunner 43 = .ok (.iconst 0, 1) := by decide +kernel
theorem dX1_addRunner_44 : decode cX1_addRunner 44 = .ok (.putfield 134, 3) := by decide +kernel
theorem dX1_addRunner_47 : decode cX1_addRunner 47 = .ok (.aload_n 0, 1) := by decide +kernel
theorem dX1_addRunner_48 : decode cX1_addRunner 48 = .ok (.dup, 1) := by decide +kernel
theorem dX1_addRunner_49 : decode cX1_addRunner 49 = .ok (.getfield 43, 3) := by decide +kernel
theorem dX1_addRunner_52 : decode cX1_addRunner 52 = .ok (.iconst 1, 1) := by decide +kernel
theorem dX1_addRunner_53 : decode cX1_addRunner 53 = .ok (.iadd, 1) := by decide +kernel
theorem dX1_addRunner_54 : decode cX1_addRunner 54 = .ok (.putfield 43, 3) := by decide +kernel
theorem dX1_addRunner_57 : decode cX1_addRunner 57 = .ok (.aload_n 0, 1) := by decide +kernel
theorem dX1_addRunner_58 : decode cX1_addRunner 58 = .ok (.getfield 43, 3) := by decide +kernel
theorem dX1_addRunner_61 : decode cX1_addRunner 61 = .ok (.iconst 1, 1) := by decide +kernel
theorem dX1_addRunner_62 : decode cX1_addRunner 62 = .ok (.isub, 1) := by decide +kernel
theorem dX1_addRunner_63 : decode cX1_addRunner 63 = .ok (.ireturn, 1) := by decide +kernel
set_option maxRecDepth 100000 in
set_option maxHeartbeats 4000000 in
theorem c_X1_addRunner (l : Launch) (G : GT) (n : Nat) (h : AH) (q : Nat) (y : Nat → Nat) (hC : cty q y h) (hI : Iv y) (t : Int32) : Ct l yX1_addRunner cX1_addRunner 3 (some .int) 2 0 0 G n h [.ref q, .int t] (AP q n h (aRu y t)) := by
  obtain ⟨⟨i0, i1, i2, i3, i4⟩, iR, iU, iM, iS⟩ := id hI
  obtain ⟨hob, ⟨fR, hfR, hR⟩, ⟨fU, hfU, hU⟩, ⟨fS, hfS, hS⟩, ⟨fM, hfM, hM⟩, -, -, -⟩ := id hC
  refine Ct_of mX1_addRunner.1 (Nat.le_of_ble_eq_true rfl) ?_
  intro p e s m args below meth c C hin
  refine V_Le (L' := [(0, .ref q), (1, .int t)]) rfl ?_
  refine V_aload_n 1 C dX1_addRunner_0 rfl rfl ?_
  refine V_iload_n 2 C dX1_addRunner_1 rfl rfl ?_
  refine V_callV 5 C dX1_addRunner_2 rfl mX1_hasTown tw420 fcX1 hob (c_X1_hasTown l G _ _ q y hC hI t) rfl rfl (by decide) ⟨by omega, by omega⟩ (Nat.le_of_ble_eq_true rfl) ?_
  rintro _ _ _ ⟨rfl, rfl, rfl⟩
  refine V_if_neB 11 8 C dX1_addRunner_5 (by decide) rfl  (fun c5 => ?_) (fun c5 => ?_)
  · refine V_aload_n 12 C dX1_addRunner_11 rfl rfl ?_
    refine V_get (k := 2) 15 C dX1_addRunner_12 rfl fcX1 tw127 (by decide) rfl hob rfl ?_
    refine V_iconst 16 C dX1_addRunner_15 rfl ic5 ?_
    refine V_icmp_ltN 22 19 C dX1_addRunner_16 (by decide) rfl (by omega) (by omega) (fun c16 => ?_) (fun c16 => ?_)
    · refine V_aload_n 23 C dX1_addRunner_22 rfl rfl ?_
      have eR : aRu y t = (nI (y 2), ruOn y (z t)) := by unfold aRu; rw [if_pos c5, if_pos (by omega)]
      obtain ⟨ja, hja, rfl⟩ := ix_of c5 (by omega)
      rw [zn (by omega)] at eR
      obtain ⟨x0, x1, x2, hro, -⟩ := hC.2.2.2.2.2.2.1 (y 2) (by omega)
      refine V_get (k := 8) 26 C dX1_addRunner_23 rfl fcX1 tw140 (by decide) rfl hob rfl ?_
      refine V_aload_n 27 C dX1_addRunner_26 rfl rfl ?_
      refine V_get (k := 2) 30 C dX1_addRunner_27 rfl fcX1 tw127 (by decide) rfl hob rfl ?_
      refine V_aald (j := y 2) 31 C dX1_addRunner_30 rfl hfU rfl rfl (by omega) (by omega) (hU _ (by omega)) ?_
      refine V_astore_n 32 C dX1_addRunner_31 rfl (by decide) (L' := [(0, _), (1, _), (2, _)]) rfl ?_
      refine V_aload_n 33 C dX1_addRunner_32 rfl rfl ?_
      refine V_iload_n 34 C dX1_addRunner_33 rfl rfl ?_
      refine V_put (fs' := [_, _, _]) (k := 0) 37 C dX1_addRunner_34 rfl fcX6 tw68 (by decide) rfl rfl hro rfl rfl (Nat.le_of_ble_eq_true rfl) rfl ?_
      refine V_aload_n 38 C dX1_addRunner_37 rfl rfl ?_
      refine V_iconst 39 C dX1_addRunner_38 rfl ic0 ?_
      refine V_put (fs' := [_, _, _]) (k := 1) 42 C dX1_addRunner_39 rfl fcX6 tw71 (by decide) rfl rfl (up_s _ _ _) rfl rfl (Nat.le_of_ble_eq_true rfl) rfl ?_
      rw [up_up]
      refine V_aload_n 43 C dX1_addRunner_42 rfl rfl ?_
      refine V_iconst 44 C dX1_addRunner_43 rfl ic0 ?_
      refine V_put (fs' := [_, _, _]) (k := 2) 47 C dX1_addRunner_44 rfl fcX6 tw74 (by decide) rfl rfl (up_s _ _ _) rfl rfl (Nat.le_of_ble_eq_true rfl) rfl ?_
      rw [up_up]
      refine V_aload_n 48 C dX1_addRunner_47 rfl rfl ?_
      refine V_dup 49 C dX1_addRunner_48 rfl rfl ?_
      refine V_get (k := 2) 52 C dX1_addRunner_49 rfl fcX1 tw127 (by decide) rfl (show up h (q + 13 + y 2) _ q = _ from by rw [up_n _ (by omega)]; exact hob) rfl ?_
      refine V_iconst 53 C dX1_addRunner_52 rfl ic1 ?_
      refine V_iaddN 54 C dX1_addRunner_53 rfl  ?_
      refine V_put (fs' := [_, _, _, _, _, _, _, _, _, _, _]) (k := 2) 57 C dX1_addRunner_54 rfl fcX1 tw127 (by decide) rfl rfl (show up h (q + 13 + y 2) _ q = _ from by rw [up_n _ (by omega)]; exact hob) rfl rfl (Nat.le_of_ble_eq_true rfl) rfl ?_
      refine V_aload_n 58 C dX1_addRunner_57 rfl rfl ?_
      refine V_get (k := 2) 61 C dX1_addRunner_58 rfl fcX1 tw127 (by decide) rfl (up_s _ _ _) rfl ?_
      refine V_iconst 62 C dX1_addRunner_61 rfl ic1 ?_
      refine V_isub 63 C dX1_addRunner_62 rfl  ?_
      rw [sub1]
      refine V_ireturn C dX1_addRunner_63 rfl rfl (by omega) (by omega) ?_
      exact (AP_mk eR (cast (congrArg (fun Z => cty q (ruOn y ja) (up (up h (q + 13 + y 2) (c3 5 ja 0 0)) q Z)) (show obj q (ruOn y ja) = _ from obj_ru q y ja)) (cty_addRunner hC (by omega) i3)) (FR.up (FR.up FR.rf _ (by omega)) _ (by omega)))
    · refine V_bipush 21 C dX1_addRunner_19 rfl bipm4 ?_
      refine V_ireturn C dX1_addRunner_21 rfl rfl (by omega) (by omega) ?_
      exact (AP_mk (by unfold aRu; rw [if_pos c5, if_neg (by omega)]; rfl) hC FR.rf)
  · refine V_bipush 10 C dX1_addRunner_8 rfl bipm2 ?_
    refine V_ireturn C dX1_addRunner_10 rfl rfl (by omega) (by omega) ?_
    exact (AP_mk (by unfold aRu; rw [if_neg c5]; rfl) hC FR.rf)

theorem dX1_addSheet_0 : decode cX1_addSheet 0 = .ok (.aload_n 0, 1) := by decide +kernel
theorem dX1_addSheet_1 : decode cX1_addSheet 1 = .ok (.getfield 31, 3) := by decide +kernel
theorem dX1_addSheet_4 : decode cX1_addSheet 4 = .ok (.aload_n 0, 1) := by decide +kernel
theorem dX1_addSheet_5 : decode cX1_addSheet 5 = .ok (.getfield 49, 3) := by decide +kernel
theorem dX1_addSheet_8 : decode cX1_addSheet 8 = .ok (.aaload, 1) := by decide +kernel
theorem dX1_addSheet_9 : decode cX1_addSheet 9 = .ok (.astore 5, 2) := by decide +kernel
theorem dX1_addSheet_11 : decode cX1_addSheet 11 = .ok (.aload 5, 2) := by decide +kernel
theorem dX1_addSheet_13 : decode cX1_addSheet 13 = .ok (.iload_n 1, 1) := by decide +kernel
theorem dX1_addSheet_14 : decode cX1_addSheet 14 = .ok (.putfield 88, 3) := by decide +kernel
theorem dX1_addSheet_17 : decode cX1_addSheet 17 = .ok (.aload 5, 2) := by decide +kernel
theorem dX1_addSheet_19 : decode cX1_addSheet 19 = .ok (.iload_n 2, 1) := by decide +kernel
theorem dX1_addSheet_20 : decode cX1_addSheet 20 = .ok (.putfield 142, 3) := by decide +kernel
theorem dX1_addSheet_23 : decode cX1_addSheet 23 = .ok (.aload 5, 2) := by decide +kernel
theorem dX1_addSheet_25 : decode cX1_addSheet 25 = .ok (.bipush 99, 2) := by decide +kernel
theorem dX1_addSheet_27 : decode cX1_addSheet 27 = .ok (.putfield 78, 3) := by decide +kernel
theorem dX1_addSheet_30 : decode cX1_addSheet 30 = .ok (.aload 5, 2) := by decide +kernel
theorem dX1_addSheet_32 : decode cX1_addSheet 32 = .ok (.iload_n 3, 1) := by decide +kernel
theorem dX1_addSheet_33 : decode cX1_addSheet 33 = .ok (.putfield 145, 3) := by decide +kernel
theorem dX1_addSheet_36 : decode cX1_addSheet 36 = .ok (.aload 5, 2) := by decide +kernel
theorem dX1_addSheet_38 : decode cX1_addSheet 38 = .ok (.iconst (-1), 1) := by decide +kernel
theorem dX1_addSheet_39 : decode cX1_addSheet 39 = .ok (.putfield 68, 3) := by decide +kernel
theorem dX1_addSheet_42 : decode cX1_addSheet 42 = .ok (.aload 5, 2) := by decide +kernel
theorem dX1_addSheet_44 : decode cX1_addSheet 44 = .ok (.iload 4, 2) := by decide +kernel
theorem dX1_addSheet_46 : decode cX1_addSheet 46 = .ok (.putfield 71, 3) := by decide +kernel
theorem dX1_addSheet_49 : decode cX1_addSheet 49 = .ok (.aload_n 0, 1) := by decide +kernel
theorem dX1_addSheet_50 : decode cX1_addSheet 50 = .ok (.dup, 1) := by decide +kernel
theorem dX1_addSheet_51 : decode cX1_addSheet 51 = .ok (.getfield 49, 3) := by decide +kernel
theorem dX1_addSheet_54 : decode cX1_addSheet 54 = .ok (.iconst 1, 1) := by decide +kernel
theorem dX1_addSheet_55 : decode cX1_addSheet 55 = .ok (.iadd, 1) := by decide +kernel
theorem dX1_addSheet_56 : decode cX1_addSheet 56 = .ok (.putfield 49, 3) := by decide +kernel
theorem dX1_addSheet_59 : decode cX1_addSheet 59 = .ok (.return_, 1) := by decide +kernel
set_option maxRecDepth 100000 in
set_option maxHeartbeats 4000000 in
theorem c_X1_addSheet (l : Launch) (G : GT) (n : Nat) (h : AH) (q : Nat) (y : Nat → Nat) (hC : cty q y h) (i1 : y 1 ≤ 10) (i2 : y 2 ≤ 5) (i3 : y 3 ≤ 6) (i4 : y 4 < 12) (m9 d9 f9 t9 : Nat) : Ct l yX1_addSheet cX1_addSheet 6 none 1 0 0 G n h [.ref q, .int (nI m9), .int (nI d9), .int (nI f9), .int (nI t9)] (Rv n (fun h' => cty q (shOn y m9 d9 f9 t9) h' ∧ FR q h h')) := by
  obtain ⟨hob, ⟨fR, hfR, hR⟩, ⟨fU, hfU, hU⟩, ⟨fS, hfS, hS⟩, ⟨fM, hfM, hM⟩, -, -, -⟩ := id hC
  obtain ⟨x0, x1, x2, x3, x4, x5, hro, -⟩ := hC.2.2.2.2.2.2.2 (y 4) (by omega)
  refine Ct_of mX1_addSheet.1 (Nat.le_of_ble_eq_true rfl) ?_
  intro p e s m args below meth c C hin
  refine V_Le (L' := [(0, .ref q), (1, .int (nI m9)), (2, .int (nI d9)), (3, .int (nI f9)), (4, .int (nI t9))]) rfl ?_
  refine V_aload_n 1 C dX1_addSheet_0 rfl rfl ?_
  refine V_get (k := 10) 4 C dX1_addSheet_1 rfl fcX1 tw145 (by decide) rfl hob rfl ?_
  refine V_aload_n 5 C dX1_addSheet_4 rfl rfl ?_
  refine V_get (k := 4) 8 C dX1_addSheet_5 rfl fcX1 tw131 (by decide) rfl hob rfl ?_
  refine V_aald (j := y 4) 9 C dX1_addSheet_8 rfl hfS rfl rfl (by omega) (by omega) (hS _ (by omega)) ?_
  refine V_astore 11 C dX1_addSheet_9 rfl (by decide) (L' := [(0, _), (1, _), (2, _), (3, _), (4, _), (5, _)]) rfl ?_
  refine V_aload 13 C dX1_addSheet_11 rfl rfl ?_
  refine V_iload_n 14 C dX1_addSheet_13 rfl rfl ?_
  refine V_put (fs' := [_, _, _, _, _, _]) (k := 0) 17 C dX1_addSheet_14 rfl fcX8 tw91 (by decide) rfl rfl hro rfl rfl (Nat.le_of_ble_eq_true rfl) rfl ?_
  refine V_aload 19 C dX1_addSheet_17 rfl rfl ?_
  refine V_iload_n 20 C dX1_addSheet_19 rfl rfl ?_
  refine V_put (fs' := [_, _, _, _, _, _]) (k := 1) 23 C dX1_addSheet_20 rfl fcX8 tw94 (by decide) rfl rfl (up_s _ _ _) rfl rfl (Nat.le_of_ble_eq_true rfl) rfl ?_
  rw [up_up]
  refine V_aload 25 C dX1_addSheet_23 rfl rfl ?_
  refine V_bipush 27 C dX1_addSheet_25 rfl bip99 ?_
  refine V_put (fs' := [_, _, _, _, _, _]) (k := 2) 30 C dX1_addSheet_27 rfl fcX8 tw98 (by decide) rfl rfl (up_s _ _ _) rfl rfl (Nat.le_of_ble_eq_true rfl) rfl ?_
  rw [up_up]
  refine V_aload 32 C dX1_addSheet_30 rfl rfl ?_
  refine V_iload_n 33 C dX1_addSheet_32 rfl rfl ?_
  refine V_put (fs' := [_, _, _, _, _, _]) (k := 3) 36 C dX1_addSheet_33 rfl fcX8 tw101 (by decide) rfl rfl (up_s _ _ _) rfl rfl (Nat.le_of_ble_eq_true rfl) rfl ?_
  rw [up_up]
  refine V_aload 38 C dX1_addSheet_36 rfl rfl ?_
  refine V_iconst 39 C dX1_addSheet_38 rfl icm1 ?_
  refine V_put (fs' := [_, _, _, _, _, _]) (k := 4) 42 C dX1_addSheet_39 rfl fcX8 tw103 (by decide) rfl rfl (up_s _ _ _) rfl rfl (Nat.le_of_ble_eq_true rfl) rfl ?_
  rw [up_up]
  refine V_aload 44 C dX1_addSheet_42 rfl rfl ?_
  refine V_iload 46 C dX1_addSheet_44 rfl rfl ?_
  refine V_put (fs' := [_, _, _, _, _, _]) (k := 5) 49 C dX1_addSheet_46 rfl fcX8 tw106 (by decide) rfl rfl (up_s _ _ _) rfl rfl (Nat.le_of_ble_eq_true rfl) rfl ?_
  rw [up_up]
  refine V_aload_n 50 C dX1_addSheet_49 rfl rfl ?_
  refine V_dup 51 C dX1_addSheet_50 rfl rfl ?_
  refine V_get (k := 4) 54 C dX1_addSheet_51 rfl fcX1 tw131 (by decide) rfl (show up h (q + 20 + y 4) _ q = _ from by rw [up_n _ (by omega)]; exact hob) rfl ?_
  refine V_iconst 55 C dX1_addSheet_54 rfl ic1 ?_
  refine V_iaddN 56 C dX1_addSheet_55 rfl  ?_
  refine V_put (fs' := [_, _, _, _, _, _, _, _, _, _, _]) (k := 4) 59 C dX1_addSheet_56 rfl fcX1 tw131 (by decide) rfl rfl (show up h (q + 20 + y 4) _ q = _ from by rw [up_n _ (by omega)]; exact hob) rfl rfl (Nat.le_of_ble_eq_true rfl) rfl ?_
  refine V_return C dX1_addSheet_59 rfl (by omega) (by omega) ?_
  exact ⟨rfl, rfl, cast (congrArg (fun Z => cty q (shOn y m9 d9 f9 t9) (up (up h (q + 20 + y 4) (c6 m9 d9 99 f9 NO t9)) q Z)) (show obj q (shOn y m9 d9 f9 t9) = _ from obj_sh q y m9 d9 f9 t9)) (cty_addSheet hC i1 i2 i3 i4), FR.up (FR.up FR.rf _ (by omega)) _ (by omega)⟩

theorem dX1_addMessage_0 : decode cX1_addMessage 0 = .ok (.aload_n 0, 1) := by decide +kernel
theorem dX1_addMessage_1 : decode cX1_addMessage 1 = .ok (.iload_n 1, 1) := by decide +kernel
theorem dX1_addMessage_2 : decode cX1_addMessage 2 = .ok (.invokevirtual 118, 3) := by decide +kernel
theorem dX1_addMessage_5 : decode cX1_addMessage 5 = .ok (.ifCond .ne 6, 3) := by decide +kernel
theorem dX1_addMessage_8 : decode cX1_addMessage 8 = .ok (.bipush (-2), 2) := by decide +kernel
theorem dX1_addMessage_10 : decode cX1_addMessage 10 = .ok (.ireturn, 1) := by decide +kernel
theorem dX1_addMessage_11 : decode cX1_addMessage 11 = .ok (.iload_n 2, 1) := by decide +kernel
theorem dX1_addMessage_12 : decode cX1_addMessage 12 = .ok (.iconst 0, 1) := by decide +kernel
theorem dX1_addMessage_13 : decode cX1_addMessage 13 = .ok (.ldc 137, 2) := by decide +kernel
theorem dX1_addMessage_15 : decode cX1_addMessage 15 = .ok (.invokestatic 121, 3) := by decide +kernel
theorem dX1_addMessage_18 : decode cX1_addMessage 18 = .ok (.ifCond .eq 13, 3) := by decide +kernel
theorem dX1_addMessage_21 : decode cX1_addMessage 21 = .ok (.iload_n 3, 1) := by decide +kernel
theorem dX1_addMessage_22 : decode cX1_addMessage 22 = .ok (.iconst 0, 1) := by decide +kernel
theorem dX1_addMessage_23 : decode cX1_addMessage 23 = .ok (.bipush 9, 2) := by decide +kernel
theorem dX1_addMessage_25 : decode cX1_addMessage 25 = .ok (.invokestatic 121, 3) := by decide +kernel
theorem dX1_addMessage_28 : decode cX1_addMessage 28 = .ok (.ifCond .ne 6, 3) := by decide +kernel
theorem dX1_addMessage_31 : decode cX1_addMessage 31 = .ok (.bipush (-3), 2) := by decide +kernel
theorem dX1_addMessage_33 : decode cX1_addMessage 33 = .ok (.ireturn, 1) := by decide +kernel
theorem dX1_addMessage_34 : decode cX1_addMessage 34 = .ok (.aload_n 0, 1) := by decide +kernel
theorem dX1_addMessage_35 : decode cX1_addMessage 35 = .ok (.getfield 46, 3) := by decide +kernel
theorem dX1_addMessage_38 : decode cX1_addMessage 38 = .ok (.bipush 6, 2) := by decide +kernel
theorem dX1_addMessage_40 : decode cX1_addMessage 40 = .ok (.if_icmp .ge 12, 3) := by decide +kernel
theorem dX1_addMessage_43 : decode cX1_addMessage 43 = .ok (.aload_n 0, 1) := by decide +kernel
theorem dX1_addMessage_44 : decode cX1_addMessage 44 = .ok (.getfield 49, 3) := by decide +kernel
theorem dX1_addMessage_47 : decode cX1_addMessage 47 = .ok (.bipush 12, 2) := by decide +kernel
theorem dX1_addMessage_49 : decode cX1_addMessage 49 = .ok (.if_icmp .lt 6, 3) := by decide +kernel
theorem dX1_addMessage_52 : decode cX1_addMessage 52 = .ok (.bipush (-4), 2) := by decide +kernel
theorem dX1_addMessage_54 : decode cX1_addMessage 54 = .ok (.ireturn, 1) := by decide +kernel
theorem dX1_addMessage_55 : decode cX1_addMessage 55 = .ok (.aload_n 0, 1) := by decide +kernel
theorem dX1_addMessage_56 : decode cX1_addMessage 56 = .ok (.getfield 25, 3) := by decide +kernel
theorem dX1_addMessage_59 : decode cX1_addMessage 59 = .ok (.aload_n 0, 1) := by decide +kernel
theorem dX1_addMessage_60 : decode cX1_addMessage 60 = .ok (.getfield 46, 3) := by decide +kernel
theorem dX1_addMessage_63 : decode cX1_addMessage 63 = .ok (.iload_n 2, 1) := by decide +kernel
theorem dX1_addMessage_64 : decode cX1_addMessage 64 = .ok (.iastore, 1) := by decide +kernel
theorem dX1_addMessage_65 : decode cX1_addMessage 65 = .ok (.aload_n 0, 1) := by decide +kernel
theorem dX1_addMessage_66 : decode cX1_addMessage 66 = .ok (.dup, 1) := by decide +kernel
theorem dX1_addMessage_67 : decode cX1_addMessage 67 = .ok (.getfield 46, 3) := by decide +kernel
theorem dX1_addMessage_70 : decode cX1_addMessage 70 = .ok (.iconst 1, 1) := by decide +kernel
theorem dX1_addMessage_71 : decode cX1_addMessage 71 = .ok (.iadd, 1) := by decide +kernel
theorem dX1_addMessage_72 : decode cX1_addMessage 72 = .ok (.putfield 46, 3) := by decide +kernel
theorem dX1_addMessage_75 : decode cX1_addMessage 75 = .ok (.aload_n 0, 1) := by decide +kernel
theorem dX1_addMessage_76 : decode cX1_addMessage 76 = .ok (.aload_n 0, 1) := by decide +kernel
theorem dX1_addMessage_77 : decode cX1_addMessage 77 = .ok (.getfield 46, 3) := by decide +kernel
theorem dX1_addMessage_80 : decode cX1_addMessage 80 = .ok (.iconst 1, 1) := by decide +kernel
theorem dX1_addMessage_81 : decode cX1_addMessage 81 = .ok (.isub, 1) := by decide +kernel
theorem dX1_addMessage_82 : decode cX1_addMessage 82 = .ok (.iload_n 2, 1) := by decide +kernel
theorem dX1_addMessage_83 : decode cX1_addMessage 83 = .ok (.iload_n 3, 1) := by decide +kernel
theorem dX1_addMessage_84 : decode cX1_addMessage 84 = .ok (.iload_n 1, 1) := by decide +kernel
theorem dX1_addMessage_85 : decode cX1_addMessage 85 = .ok (.invokevirtual 138, 3) := by decide +kernel
theorem dX1_addMessage_88 : decode cX1_addMessage 88 = .ok (.aload_n 0, 1) := by decide +kernel
theorem dX1_addMessage_89 : decode cX1_addMessage 89 = .ok (.getfield 46, 3) := by decide +kernel
theorem dX1_addMessage_92 : decode cX1_addMessage 92 = .ok (.iconst 1, 1) := by decide +kernel
theorem dX1_addMessage_93 : decode cX1_addMessage 93 = .ok (.isub, 1) := by decide +kernel
theorem dX1_addMessage_94 : decode cX1_addMessage 94 = .ok (.ireturn, 1) := by decide +kernel
set_option maxRecDepth 100000 in
set_option maxHeartbeats 4000000 in
theorem c_X1_addMessage (l : Launch) (G : GT) (n : Nat) (h : AH) (q : Nat) (y : Nat → Nat) (hC : cty q y h) (hI : Iv y) (t dt f : Int32) : Ct l yX1_addMessage cX1_addMessage 4 (some .int) 2 0 0 G n h [.ref q, .int t, .int dt, .int f] (AP q n h (aWr y t dt f)) := by
  obtain ⟨⟨i0, i1, i2, i3, i4⟩, iR, iU, iM, iS⟩ := id hI
  obtain ⟨hob, ⟨fR, hfR, hR⟩, ⟨fU, hfU, hU⟩, ⟨fS, hfS, hS⟩, ⟨fM, hfM, hM⟩, -, -, -⟩ := id hC
  refine Ct_of mX1_addMessage.1 (Nat.le_of_ble_eq_true rfl) ?_
  intro p e s m args below meth c C hin
  refine V_Le (L' := [(0, .ref q), (1, .int t), (2, .int dt), (3, .int f)]) rfl ?_
  refine V_aload_n 1 C dX1_addMessage_0 rfl rfl ?_
  refine V_iload_n 2 C dX1_addMessage_1 rfl rfl ?_
  refine V_callV 5 C dX1_addMessage_2 rfl mX1_hasTown tw420 fcX1 hob (c_X1_hasTown l G _ _ q y hC hI t) rfl rfl (by decide) ⟨by omega, by omega⟩ (Nat.le_of_ble_eq_true rfl) ?_
  rintro _ _ _ ⟨rfl, rfl, rfl⟩
  refine V_if_neB 11 8 C dX1_addMessage_5 (by decide) rfl  (fun c5 => ?_) (fun c5 => ?_)
  · refine V_iload_n 12 C dX1_addMessage_11 rfl rfl ?_
    refine V_iconst 13 C dX1_addMessage_12 rfl ic0 ?_
    refine V_ldc 15 C dX1_addMessage_13 rfl tw433 ?_
    refine V_callSN (host := RX9) 18 C dX1_addMessage_15 rfl mX9_inRange (by decide +kernel) (c_X9_inRange l G _ _ _ _ _) rfl rfl (by decide) ⟨by omega, by omega⟩ (Nat.le_of_ble_eq_true rfl) ?_
    rintro _ _ _ ⟨rfl, rfl, rfl⟩
    refine V_if_eqB 31 21 C dX1_addMessage_18 (by decide) rfl  (fun c18 => ?_) (fun c18 => ?_)
    · have hd9 : ¬ ix dt 1000000 := fun e => c18 ⟨e.1, by rw [show Int32.toInt 999999 = (999999 : Int) from by decide]; have := e.2; omega⟩
      refine V_bipush 33 C dX1_addMessage_31 rfl bipm3 ?_
      refine V_ireturn C dX1_addMessage_33 rfl rfl (by omega) (by omega) ?_
      exact (AP_mk (by unfold aWr; rw [if_pos c5, if_neg (fun e => by first | exact hd9 e.1 | exact hf9 e.2)]; rfl) hC FR.rf)
    · have hd9 : ix dt 1000000 := by refine ⟨c18.1, ?_⟩; have := c18.2; rw [show Int32.toInt 999999 = (999999 : Int) from by decide] at this; omega
      refine V_iload_n 22 C dX1_addMessage_21 rfl rfl ?_
      refine V_iconst 23 C dX1_addMessage_22 rfl ic0 ?_
      refine V_bipush 25 C dX1_addMessage_23 rfl bip9 ?_
      refine V_callSN (host := RX9) 28 C dX1_addMessage_25 rfl mX9_inRange (by decide +kernel) (c_X9_inRange l G _ _ _ _ _) rfl rfl (by decide) ⟨by omega, by omega⟩ (Nat.le_of_ble_eq_true rfl) ?_
      rintro _ _ _ ⟨rfl, rfl, rfl⟩
      refine V_if_neB 34 31 C dX1_addMessage_28 (by decide) rfl  (fun c28 => ?_) (fun c28 => ?_)
      · have hf9 : ix f 10 := by refine ⟨c28.1, ?_⟩; have := c28.2; rw [nI_toInt (by decide)] at this; omega
        refine V_aload_n 35 C dX1_addMessage_34 rfl rfl ?_
        refine V_get (k := 3) 38 C dX1_addMessage_35 rfl fcX1 tw129 (by decide) rfl hob rfl ?_
        refine V_bipush 40 C dX1_addMessage_38 rfl bip6 ?_
        refine V_icmp_geN 52 43 C dX1_addMessage_40 (by decide) rfl (by omega) (by omega) (fun c40 => ?_) (fun c40 => ?_)
        · refine V_bipush 54 C dX1_addMessage_52 rfl bipm4 ?_
          refine V_ireturn C dX1_addMessage_54 rfl rfl (by omega) (by omega) ?_
          exact (AP_mk (by unfold aWr; rw [if_pos c5, if_pos ⟨hd9, hf9⟩, if_neg (by omega)]; rfl) hC FR.rf)
        · refine V_aload_n 44 C dX1_addMessage_43 rfl rfl ?_
          refine V_get (k := 4) 47 C dX1_addMessage_44 rfl fcX1 tw131 (by decide) rfl hob rfl ?_
          refine V_bipush 49 C dX1_addMessage_47 rfl bip12 ?_
          refine V_icmp_ltN 55 52 C dX1_addMessage_49 (by decide) rfl (by omega) (by omega) (fun c49 => ?_) (fun c49 => ?_)
          · refine V_aload_n 56 C dX1_addMessage_55 rfl rfl ?_
            have eR : aWr y t dt f = (nI (y 3), wrOn y (z t) (z dt) (z f)) := by unfold aWr; rw [if_pos c5, if_pos ⟨hd9, hf9⟩, if_pos (by omega)]
            obtain ⟨ja, hja, rfl⟩ := ix_of c5 (by omega)
            obtain ⟨jd, hjd, rfl⟩ := ix_of hd9 (by decide)
            obtain ⟨jf, hjf, rfl⟩ := ix_of hf9 (by decide)
            rw [zn (by omega), zn (by omega), zn (by omega)] at eR
            have hC1 := cty_addMsg (d := jd) hC i1 i2 (by omega) i4 hfM
            refine V_get (k := 9) 59 C dX1_addMessage_56 rfl fcX1 tw143 (by decide) rfl hob rfl ?_
            refine V_aload_n 60 C dX1_addMessage_59 rfl rfl ?_
            refine V_get (k := 3) 63 C dX1_addMessage_60 rfl fcX1 tw129 (by decide) rfl hob rfl ?_
            refine V_iload_n 64 C dX1_addMessage_63 rfl rfl ?_
            refine V_iast (j := y 3) 65 C dX1_addMessage_64 rfl hfM rfl (by omega) (by omega) ?_
            refine V_aload_n 66 C dX1_addMessage_65 rfl rfl ?_
            refine V_dup 67 C dX1_addMessage_66 rfl rfl ?_
            refine V_get (k := 3) 70 C dX1_addMessage_67 rfl fcX1 tw129 (by decide) rfl (show up h (q + 18) _ q = _ from by rw [up_n _ (by omega)]; exact hob) rfl ?_
            refine V_iconst 71 C dX1_addMessage_70 rfl ic1 ?_
            refine V_iaddN 72 C dX1_addMessage_71 rfl  ?_
            refine V_put (fs' := [_, _, _, _, _, _, _, _, _, _, _]) (k := 3) 75 C dX1_addMessage_72 rfl fcX1 tw129 (by decide) rfl rfl (show up h (q + 18) _ q = _ from by rw [up_n _ (by omega)]; exact hob) rfl rfl (Nat.le_of_ble_eq_true rfl) rfl ?_
            rw [show (Sum.inr (1, _) : AE) = obj q (wrP y jd) from (obj_wr q y jd).symm]
            have hF1 : FR q h (up (up h (q + 18) (.inl (0, 6, .inl (upd fM (y 3) (nI jd))))) q (obj q (wrP y jd))) := FR.up (FR.up FR.rf _ (by omega)) _ (by omega)
            generalize up (up h (q + 18) (.inl (0, 6, .inl (upd fM (y 3) (nI jd))))) q (obj q (wrP y jd)) = h1 at hC1 hF1 ⊢
            have hw3 : wrP y jd 3 = y 3 + 1 := by unfold wrP; rw [ys_s, ys_n _ (by omega)]
            have hwn : ∀ j, ¬ j = 3 → ¬ j = 52 + y 3 → wrP y jd j = y j := fun j e1 e2 => by unfold wrP; rw [ys_n _ e1, ys_n _ e2]
            refine V_aload_n 76 C dX1_addMessage_75 rfl rfl ?_
            refine V_aload_n 77 C dX1_addMessage_76 rfl rfl ?_
            refine V_get (k := 3) 80 C dX1_addMessage_77 rfl fcX1 tw129 (by decide) rfl hC1.1 rfl ?_
            rw [hw3]
            refine V_iconst 81 C dX1_addMessage_80 rfl ic1 ?_
            refine V_isub 82 C dX1_addMessage_81 rfl  ?_
            rw [sub1]
            refine V_iload_n 83 C dX1_addMessage_82 rfl rfl ?_
            refine V_iload_n 84 C dX1_addMessage_83 rfl rfl ?_
            refine V_iload_n 85 C dX1_addMessage_84 rfl rfl ?_
            refine V_callV 88 C dX1_addMessage_85 rfl mX1_addSheet tw434 fcX1 hC1.1 (c_X1_addSheet l G _ _ q (wrP y jd) hC1 (by rw [hwn _ (by omega) (by omega)]; exact i1) (by rw [hwn _ (by omega) (by omega)]; exact i2) (by rw [hw3]; omega) (by rw [hwn _ (by omega) (by omega)]; omega) _ _ _ _) rfl rfl (by decide) ⟨by omega, by omega⟩ (Nat.le_of_ble_eq_true rfl) ?_
            rintro _ _ h2 ⟨rfl, rfl, hC2, hF2⟩
            refine V_aload_n 89 C dX1_addMessage_88 rfl rfl ?_
            refine V_get (k := 3) 92 C dX1_addMessage_89 rfl fcX1 tw129 (by decide) rfl hC2.1 rfl ?_
            rw [show shOn (wrP y jd) (y 3) jd jf ja 3 = y 3 + 1 from by unfold shOn; rw [ys_n _ (by omega), s6_n (by omega), hw3]]
            refine V_iconst 93 C dX1_addMessage_92 rfl ic1 ?_
            refine V_isub 94 C dX1_addMessage_93 rfl  ?_
            rw [sub1]
            refine V_ireturn C dX1_addMessage_94 rfl rfl (by omega) (by omega) ?_
            exact (AP_mk eR hC2 (hF1.tr hF2))
          · refine V_bipush 54 C dX1_addMessage_52 rfl bipm4 ?_
            refine V_ireturn C dX1_addMessage_54 rfl rfl (by omega) (by omega) ?_
            exact (AP_mk (by unfold aWr; rw [if_pos c5, if_pos ⟨hd9, hf9⟩, if_neg (by omega)]; rfl) hC FR.rf)
      · have hf9 : ¬ ix f 10 := fun e => c28 ⟨e.1, by rw [nI_toInt (by decide)]; have := e.2; omega⟩
        refine V_bipush 33 C dX1_addMessage_31 rfl bipm3 ?_
        refine V_ireturn C dX1_addMessage_33 rfl rfl (by omega) (by omega) ?_
        exact (AP_mk (by unfold aWr; rw [if_pos c5, if_neg (fun e => by first | exact hd9 e.1 | exact hf9 e.2)]; rfl) hC FR.rf)
  · refine V_bipush 10 C dX1_addMessage_8 rfl bipm2 ?_
    refine V_ireturn C dX1_addMessage_10 rfl rfl (by omega) (by omega) ?_
    exact (AP_mk (by unfold aWr; rw [if_neg c5]; rfl) hC FR.rf)

theorem dX1_layDown_0 : decode cX1_layDown 0 = .ok (.aload_n 0, 1) := by decide +kernel
theorem dX1_layDown_1 : decode cX1_layDown 1 = .ok (.iload_n 1, 1) := by decide +kernel
theorem dX1_layDown_2 : decode cX1_layDown 2 = .ok (.invokevirtual 151, 3) := by decide +kernel
theorem dX1_layDown_5 : decode cX1_layDown 5 = .ok (.ifCond .ne 6, 3) := by decide +kernel
theorem dX1_layDown_8 : decode cX1_layDown 8 = .ok (.bipush (-2), 2) := by decide +kernel
theorem dX1_layDown_10 : decode cX1_layDown 10 = .ok (.ireturn, 1) := by decide +kernel
theorem dX1_layDown_11 : decode cX1_layDown 11 = .ok (.aload_n 0, 1) := by decide +kernel
theorem dX1_layDown_12 : decode cX1_layDown 12 = .ok (.getfield 31, 3) := by decide +kernel
theorem dX1_layDown_15 : decode cX1_layDown 15 = .ok (.iload_n 1, 1) := by decide +kernel
theorem dX1_layDown_16 : decode cX1_layDown 16 = .ok (.aaload, 1) := by decide +kernel
theorem dX1_layDown_17 : decode cX1_layDown 17 = .ok (.astore_n 2, 1) := by decide +kernel
theorem dX1_layDown_18 : decode cX1_layDown 18 = .ok (.aload_n 0, 1) := by decide +kernel
theorem dX1_layDown_19 : decode cX1_layDown 19 = .ok (.iload_n 1, 1) := by decide +kernel
theorem dX1_layDown_20 : decode cX1_layDown 20 = .ok (.invokevirtual 108, 3) := by decide +kernel
theorem dX1_layDown_23 : decode cX1_layDown 23 = .ok (.istore_n 3, 1) := by decide +kernel
theorem dX1_layDown_24 : decode cX1_layDown 24 = .ok (.iload_n 3, 1) := by decide +kernel
theorem dX1_layDown_25 : decode cX1_layDown 25 = .ok (.iconst (-1), 1) := by decide +kernel
theorem dX1_layDown_26 : decode cX1_layDown 26 = .ok (.if_icmp .eq 11, 3) := by decide +kernel
theorem dX1_layDown_29 : decode cX1_layDown 29 = .ok (.aload_n 2, 1) := by decide +kernel
theorem dX1_layDown_30 : decode cX1_layDown 30 = .ok (.getfield 68, 3) := by decide +kernel
theorem dX1_layDown_33 : decode cX1_layDown 33 = .ok (.iconst (-1), 1) := by decide +kernel
theorem dX1_layDown_34 : decode cX1_layDown 34 = .ok (.if_icmp .ne 6, 3) := by decide +kernel
theorem dX1_layDown_37 : decode cX1_layDown 37 = .ok (.bipush (-4), 2) := by decide +kernel
theorem dX1_layDown_39 : decode cX1_layDown 39 = .ok (.ireturn, 1) := by decide +kernel
theorem dX1_layDown_40 : decode cX1_layDown 40 = .ok (.aload_n 2, 1) := by decide +kernel
theorem dX1_layDown_41 : decode cX1_layDown 41 = .ok (.iconst (-1), 1) := by decide +kernel
theorem dX1_layDown_42 : decode cX1_layDown 42 = .ok (.putfield 68, 3) := by decide +kernel
theorem dX1_layDown_45 : decode cX1_layDown 45 = .ok (.aload_n 2, 1) := by decide +kernel
theorem dX1_layDown_46 : decode cX1_layDown 46 = .ok (.iload_n 3, 1) := by decide +kernel
theorem dX1_layDown_47 : decode cX1_layDown 47 = .ok (.putfield 71, 3) := by decide +kernel
theorem dX1_layDown_50 : decode cX1_layDown 50 = .ok (.iload_n 3, 1) := by decide +kernel
theorem dX1_layDown_51 : decode cX1_layDown 51 = .ok (.ireturn, 1) := by decide +kernel
set_option maxRecDepth 100000 in
set_option maxHeartbeats 4000000 in
theorem c_X1_layDown (l : Launch) (G : GT) (n : Nat) (h : AH) (q : Nat) (y : Nat → Nat) (hC : cty q y h) (hI : Iv y) (s9 : Int32) : Ct l yX1_layDown cX1_layDown 4 (some .int) 2 0 0 G n h [.ref q, .int s9] (AP q n h (aLy y s9)) := by
  obtain ⟨⟨i0, i1, i2, i3, i4⟩, iR, iU, iM, iS⟩ := id hI
  obtain ⟨hob, ⟨fR, hfR, hR⟩, ⟨fU, hfU, hU⟩, ⟨fS, hfS, hS⟩, ⟨fM, hfM, hM⟩, -, -, -⟩ := id hC
  refine Ct_of mX1_layDown.1 (Nat.le_of_ble_eq_true rfl) ?_
  intro p e s m args below meth c C hin
  refine V_Le (L' := [(0, .ref q), (1, .int s9)]) rfl ?_
  refine V_aload_n 1 C dX1_layDown_0 rfl rfl ?_
  refine V_iload_n 2 C dX1_layDown_1 rfl rfl ?_
  refine V_callV 5 C dX1_layDown_2 rfl mX1_hasSheet tw446 fcX1 hob (c_X1_hasSheet l G _ _ q y hC hI s9) rfl rfl (by decide) ⟨by omega, by omega⟩ (Nat.le_of_ble_eq_true rfl) ?_
  rintro _ _ _ ⟨rfl, rfl, rfl⟩
  refine V_if_neB 11 8 C dX1_layDown_5 (by decide) rfl  (fun c5 => ?_) (fun c5 => ?_)
  · refine V_aload_n 12 C dX1_layDown_11 rfl rfl ?_
    obtain ⟨j9, hs, rfl⟩ := ix_of c5 (by omega)
    have zj : z (nI j9) = j9 := zn (by omega)
    obtain ⟨s0, s1, s2, s3, s4, s5⟩ := iS j9 hs
    unfold NO at s4
    have hsh := cty_sh hC hs i4
    have hpo := pof_b hI hs
    unfold NO at hpo
    refine V_get (k := 10) 15 C dX1_layDown_12 rfl fcX1 tw145 (by decide) rfl hob rfl ?_
    refine V_iload_n 16 C dX1_layDown_15 rfl rfl ?_
    refine V_aald (j := j9) 17 C dX1_layDown_16 rfl hfS rfl rfl (by omega) (by omega) (hS _ (by omega)) ?_
    refine V_astore_n 18 C dX1_layDown_17 rfl (by decide) (L' := [(0, _), (1, _), (2, _)]) rfl ?_
    refine V_aload_n 19 C dX1_layDown_18 rfl rfl ?_
    refine V_iload_n 20 C dX1_layDown_19 rfl rfl ?_
    refine V_callV 23 C dX1_layDown_20 rfl mX1_placeOf tw460 fcX1 hob (c_X1_placeOf l G _ _ q y hC hI j9 hs) rfl rfl (by decide) ⟨by omega, by omega⟩ (Nat.le_of_ble_eq_true rfl) ?_
    rintro _ _ _ ⟨rfl, rfl, rfl⟩
    refine V_istore_n 24 C dX1_layDown_23 rfl (by decide) (L' := [(0, _), (1, _), (2, _), (3, _)]) rfl ?_
    refine V_iload_n 25 C dX1_layDown_24 rfl rfl ?_
    refine V_iconst 26 C dX1_layDown_25 rfl icm1 ?_
    refine V_icmp_eqN 37 29 C dX1_layDown_26 (by decide) rfl (by omega) (by omega) (fun c26 => ?_) (fun c26 => ?_)
    · refine V_bipush 39 C dX1_layDown_37 rfl bipm4 ?_
      refine V_ireturn C dX1_layDown_39 rfl rfl (by omega) (by omega) ?_
      exact (AP_mk (by unfold aLy; rw [if_pos c5, zj, if_neg (by unfold NO; omega)]; rfl) hC FR.rf)
    · refine V_aload_n 30 C dX1_layDown_29 rfl rfl ?_
      refine V_get (k := 4) 33 C dX1_layDown_30 rfl fcX8 tw103 (by decide) rfl hsh rfl ?_
      refine V_iconst 34 C dX1_layDown_33 rfl icm1 ?_
      refine V_icmp_neN 40 37 C dX1_layDown_34 (by decide) rfl (by omega) (by omega) (fun c34 => ?_) (fun c34 => ?_)
      · refine V_aload_n 41 C dX1_layDown_40 rfl rfl ?_
        refine V_iconst 42 C dX1_layDown_41 rfl icm1 ?_
        refine V_put (fs' := [_, _, _, _, _, _]) (k := 4) 45 C dX1_layDown_42 rfl fcX8 tw103 (by decide) rfl rfl hsh rfl rfl (Nat.le_of_ble_eq_true rfl) rfl ?_
        refine V_aload_n 46 C dX1_layDown_45 rfl rfl ?_
        refine V_iload_n 47 C dX1_layDown_46 rfl rfl ?_
        refine V_put (fs' := [_, _, _, _, _, _]) (k := 5) 50 C dX1_layDown_47 rfl fcX8 tw106 (by decide) rfl rfl (up_s _ _ _) rfl rfl (Nat.le_of_ble_eq_true rfl) rfl ?_
        rw [up_up]
        refine V_iload_n 51 C dX1_layDown_50 rfl rfl ?_
        refine V_ireturn C dX1_layDown_51 rfl rfl (by omega) (by omega) ?_
        exact (AP_mk (y' := lyOn y j9) (by unfold aLy; rw [if_pos c5, zj, if_pos (by unfold NO; omega)]) (cty_shp (y' := lyOn y j9) hC (by omega) i1 i2 i3 (fun j hj => by unfold lyOn; rw [ys_n _ (by omega), ys_n _ (by omega)]) (by unfold lyOn; rw [ys_n _ (by omega), ys_n _ (by omega)]) (by unfold lyOn; rw [ys_n _ (by omega), ys_n _ (by omega)]) (by unfold lyOn; rw [ys_n _ (by omega), ys_n _ (by omega)]) (by unfold lyOn; rw [ys_n _ (by omega), ys_n _ (by omega)]) (by unfold lyOn; rw [ys_n _ (by omega), ys_s]; rfl) (by unfold lyOn; rw [ys_s])) (FR.up FR.rf _ (by omega)))
      · refine V_bipush 39 C dX1_layDown_37 rfl bipm4 ?_
        refine V_ireturn C dX1_layDown_39 rfl rfl (by omega) (by omega) ?_
        exact (AP_mk (by unfold aLy; rw [if_pos c5, zj, if_neg (by unfold NO; omega)]; rfl) hC FR.rf)
  · refine V_bipush 10 C dX1_layDown_8 rfl bipm2 ?_
    refine V_ireturn C dX1_layDown_10 rfl rfl (by omega) (by omega) ?_
    exact (AP_mk (by unfold aLy; rw [if_neg c5]; rfl) hC FR.rf)

theorem dX1_send_0 : decode cX1_send 0 = .ok (.aload_n 0, 1) := by decide +kernel
theorem dX1_send_1 : decode cX1_send 1 = .ok (.iload_n 1, 1) := by decide +kernel
theorem dX1_send_2 : decode cX1_send 2 = .ok (.invokevirtual 148, 3) := by decide +kernel
theorem dX1_send_5 : decode cX1_send 5 = .ok (.ifCond .eq 11, 3) := by decide +kernel
theorem dX1_send_8 : decode cX1_send 8 = .ok (.aload_n 0, 1) := by decide +kernel
theorem dX1_send_9 : decode cX1_send 9 = .ok (.iload_n 2, 1) := by decide +kernel
theorem dX1_send_10 : decode cX1_send 10 = .ok (.invokevirtual 162, 3) := by decide +kernel
theorem dX1_send_13 : decode cX1_send 13 = .ok (.ifCond .ne 6, 3) := by decide +kernel
theorem dX1_send_16 : decode cX1_send 16 = .ok (.bipush (-2), 2) := by decide +kernel
theorem dX1_send_18 : decode cX1_send 18 = .ok (.ireturn, 1) := by decide +kernel
theorem dX1_send_19 : decode cX1_send 19 = .ok (.aload_n 0, 1) := by decide +kernel
theorem dX1_send_20 : decode cX1_send 20 = .ok (.getfield 20, 3) := by decide +kernel
theorem dX1_send_23 : decode cX1_send 23 = .ok (.iload_n 1, 1) := by decide +kernel
theorem dX1_send_24 : decode cX1_send 24 = .ok (.aaload, 1) := by decide +kernel
theorem dX1_send_25 : decode cX1_send 25 = .ok (.astore_n 3, 1) := by decide +kernel
theorem dX1_send_26 : decode cX1_send 26 = .ok (.aload_n 0, 1) := by decide +kernel
theorem dX1_send_27 : decode cX1_send 27 = .ok (.getfield 11, 3) := by decide +kernel
theorem dX1_send_30 : decode cX1_send 30 = .ok (.iload_n 2, 1) := by decide +kernel
theorem dX1_send_31 : decode cX1_send 31 = .ok (.aaload, 1) := by decide +kernel
theorem dX1_send_32 : decode cX1_send 32 = .ok (.astore 4, 2) := by decide +kernel
theorem dX1_send_34 : decode cX1_send 34 = .ok (.aload_n 3, 1) := by decide +kernel
theorem dX1_send_35 : decode cX1_send 35 = .ok (.getfield 74, 3) := by decide +kernel
theorem dX1_send_38 : decode cX1_send 38 = .ok (.ifCond .gt 15, 3) := by decide +kernel
theorem dX1_send_41 : decode cX1_send 41 = .ok (.aload 4, 2) := by decide +kernel
theorem dX1_send_43 : decode cX1_send 43 = .ok (.aload_n 3, 1) := by decide +kernel
theorem dX1_send_44 : decode cX1_send 44 = .ok (.getfield 77, 3) := by decide +kernel
theorem dX1_send_47 : decode cX1_send 47 = .ok (.invokevirtual 165, 3) := by decide +kernel
theorem dX1_send_50 : decode cX1_send 50 = .ok (.ifCond .ne 6, 3) := by decide +kernel
theorem dX1_send_53 : decode cX1_send 53 = .ok (.bipush (-4), 2) := by decide +kernel
theorem dX1_send_55 : decode cX1_send 55 = .ok (.ireturn, 1) := by decide +kernel
theorem dX1_send_56 : decode cX1_send 56 = .ok (.aload_n 3, 1) := by decide +kernel
theorem dX1_send_57 : decode cX1_send 57 = .ok (.aload 4, 2) := by decide +kernel
theorem dX1_send_59 : decode cX1_send 59 = .ok (.aload_n 3, 1) := by decide +kernel
theorem dX1_send_60 : decode cX1_send 60 = .ok (.getfield 77, 3) := by decide +kernel
theorem dX1_send_63 : decode cX1_send 63 = .ok (.invokevirtual 168, 3) := by decide +kernel
theorem dX1_send_66 : decode cX1_send 66 = .ok (.putfield 77, 3) := by decide +kernel
theorem dX1_send_69 : decode cX1_send 69 = .ok (.aload_n 3, 1) := by decide +kernel
theorem dX1_send_70 : decode cX1_send 70 = .ok (.aload 4, 2) := by decide +kernel
theorem dX1_send_72 : decode cX1_send 72 = .ok (.getfield 131, 3) := by decide +kernel
theorem dX1_send_75 : decode cX1_send 75 = .ok (.putfield 74, 3) := by decide +kernel
theorem dX1_send_78 : decode cX1_send 78 = .ok (.aload_n 3, 1) := by decide +kernel
theorem dX1_send_79 : decode cX1_send 79 = .ok (.getfield 77, 3) := by decide +kernel
theorem dX1_send_82 : decode cX1_send 82 = .ok (.ireturn, 1) := by decide +kernel
set_option maxRecDepth 100000 in
set_option maxHeartbeats 4000000 in
theorem c_X1_send (l : Launch) (G : GT) (n : Nat) (h : AH) (q : Nat) (y : Nat → Nat) (hC : cty q y h) (hI : Iv y) (r9 w9 : Int32) : Ct l yX1_send cX1_send 5 (some .int) 2 0 0 G n h [.ref q, .int r9, .int w9] (AP q n h (aGo y r9 w9)) := by
  obtain ⟨⟨i0, i1, i2, i3, i4⟩, iR, iU, iM, iS⟩ := id hI
  obtain ⟨hob, ⟨fR, hfR, hR⟩, ⟨fU, hfU, hU⟩, ⟨fS, hfS, hS⟩, ⟨fM, hfM, hM⟩, -, -, -⟩ := id hC
  refine Ct_of mX1_send.1 (Nat.le_of_ble_eq_true rfl) ?_
  intro p e s m args below meth c C hin
  refine V_Le (L' := [(0, .ref q), (1, .int r9), (2, .int w9)]) rfl ?_
  refine V_aload_n 1 C dX1_send_0 rfl rfl ?_
  refine V_iload_n 2 C dX1_send_1 rfl rfl ?_
  refine V_callV 5 C dX1_send_2 rfl mX1_hasRunner tw442 fcX1 hob (c_X1_hasRunner l G _ _ q y hC hI r9) rfl rfl (by decide) ⟨by omega, by omega⟩ (Nat.le_of_ble_eq_true rfl) ?_
  rintro _ _ _ ⟨rfl, rfl, rfl⟩
  refine V_if_eqB 16 8 C dX1_send_5 (by decide) rfl  (fun c5 => ?_) (fun c5 => ?_)
  · refine V_bipush 18 C dX1_send_16 rfl bipm2 ?_
    refine V_ireturn C dX1_send_18 rfl rfl (by omega) (by omega) ?_
    exact (AP_mk (by unfold aGo; rw [if_neg (fun e => by first | exact c5 e.1 | exact c13 e.2)]; rfl) hC FR.rf)
  · refine V_aload_n 9 C dX1_send_8 rfl rfl ?_
    refine V_iload_n 10 C dX1_send_9 rfl rfl ?_
    refine V_callV 13 C dX1_send_10 rfl mX1_hasRoad tw472 fcX1 hob (c_X1_hasRoad l G _ _ q y hC hI w9) rfl rfl (by decide) ⟨by omega, by omega⟩ (Nat.le_of_ble_eq_true rfl) ?_
    rintro _ _ _ ⟨rfl, rfl, rfl⟩
    refine V_if_neB 19 16 C dX1_send_13 (by decide) rfl  (fun c13 => ?_) (fun c13 => ?_)
    · refine V_aload_n 20 C dX1_send_19 rfl rfl ?_
      have cc := And.intro c5 c13
      obtain ⟨r, hr, rfl⟩ := ix_of c5 (by omega)
      obtain ⟨w, hw, rfl⟩ := ix_of c13 (by omega)
      have zr : z (nI r) = r := zn (by omega)
      have zw : z (nI w) = w := zn (by omega)
      obtain ⟨u0, u1⟩ := iU r hr
      obtain ⟨r0, r1, r2, r3, r4⟩ := iR w hw
      have hru := cty_ru hC hr i2
      have hrd := cty_rd hC hw i1
      refine V_get (k := 8) 23 C dX1_send_20 rfl fcX1 tw140 (by decide) rfl hob rfl ?_
      refine V_iload_n 24 C dX1_send_23 rfl rfl ?_
      refine V_aald (j := r) 25 C dX1_send_24 rfl hfU rfl rfl (by omega) (by omega) (hU _ (by omega)) ?_
      refine V_astore_n 26 C dX1_send_25 rfl (by decide) (L' := [(0, _), (1, _), (2, _), (3, _)]) rfl ?_
      refine V_aload_n 27 C dX1_send_26 rfl rfl ?_
      refine V_get (k := 7) 30 C dX1_send_27 rfl fcX1 tw137 (by decide) rfl hob rfl ?_
      refine V_iload_n 31 C dX1_send_30 rfl rfl ?_
      refine V_aald (j := w) 32 C dX1_send_31 rfl hfR rfl rfl (by omega) (by omega) (hR _ (by omega)) ?_
      refine V_astore 34 C dX1_send_32 rfl (by decide) (L' := [(0, _), (1, _), (2, _), (3, _), (4, _)]) rfl ?_
      refine V_aload_n 35 C dX1_send_34 rfl rfl ?_
      refine V_get (k := 1) 38 C dX1_send_35 rfl fcX6 tw71 (by decide) rfl hru rfl ?_
      refine V_if_gtN 53 41 C dX1_send_38 (by decide) rfl (by omega) (fun c38 => ?_) (fun c38 => ?_)
      · have ht : ¬ (¬ tof y r = NO ∧ (y (7 + 3 * w) = tof y r ∨ y (7 + 3 * w + 1) = tof y r)) := fun e => e.1 (by unfold tof; rw [if_neg (by omega)])
        refine V_bipush 55 C dX1_send_53 rfl bipm4 ?_
        refine V_ireturn C dX1_send_55 rfl rfl (by omega) (by omega) ?_
        exact (AP_mk (by unfold aGo; rw [if_pos cc, zr, zw, if_neg ht]; rfl) hC FR.rf)
      · have ht0 : tof y r = y (37 + 3 * r) := by unfold tof; rw [if_pos c38]
        refine V_aload 43 C dX1_send_41 rfl rfl ?_
        refine V_aload_n 44 C dX1_send_43 rfl rfl ?_
        refine V_get (k := 0) 47 C dX1_send_44 rfl fcX6 tw68 (by decide) rfl hru rfl ?_
        refine V_callV 50 C dX1_send_47 rfl mX5_touches tw476 fcX5 hrd (c_X5_touches l G _ _ _ _ _ _ hrd _ (by omega) (by omega) (by omega)) rfl rfl (by decide) ⟨by omega, by omega⟩ (Nat.le_of_ble_eq_true rfl) ?_
        rintro _ _ _ ⟨rfl, rfl, rfl⟩
        refine V_if_neB 56 53 C dX1_send_50 (by decide) rfl  (fun c50 => ?_) (fun c50 => ?_)
        · have ht : ¬ tof y r = NO ∧ (y (7 + 3 * w) = tof y r ∨ y (7 + 3 * w + 1) = tof y r) := by rw [ht0]; unfold NO; exact ⟨by omega, c50⟩
          refine V_aload_n 57 C dX1_send_56 rfl rfl ?_
          refine V_aload 59 C dX1_send_57 rfl rfl ?_
          refine V_aload_n 60 C dX1_send_59 rfl rfl ?_
          refine V_get (k := 0) 63 C dX1_send_60 rfl fcX6 tw68 (by decide) rfl hru rfl ?_
          refine V_callV 66 C dX1_send_63 rfl mX5_otherEnd tw480 fcX5 hrd (c_X5_otherEnd l G _ _ _ _ _ _ hrd _ (by omega) (by omega)) rfl rfl (by decide) ⟨by omega, by omega⟩ (Nat.le_of_ble_eq_true rfl) ?_
          rintro _ _ _ ⟨rfl, rfl, rfl⟩
          rw [show (if y (7 + 3 * w) = y (37 + 3 * r) then y (7 + 3 * w + 1) else y (7 + 3 * w)) = goT y r w from by unfold goT; rw [ht0]]
          refine V_put (fs' := [_, _, _]) (k := 0) 69 C dX1_send_66 rfl fcX6 tw68 (by decide) rfl rfl hru rfl rfl (Nat.le_of_ble_eq_true rfl) rfl ?_
          refine V_aload_n 70 C dX1_send_69 rfl rfl ?_
          refine V_aload 72 C dX1_send_70 rfl rfl ?_
          refine V_get (k := 2) 75 C dX1_send_72 rfl fcX5 tw51 (by decide) rfl (show up h (q + 13 + r) _ (q + 2 + w) = _ from by rw [up_n _ (by omega)]; exact hrd) rfl ?_
          refine V_put (fs' := [_, _, _]) (k := 1) 78 C dX1_send_75 rfl fcX6 tw71 (by decide) rfl rfl (up_s _ _ _) rfl rfl (Nat.le_of_ble_eq_true rfl) rfl ?_
          rw [up_up]
          refine V_aload_n 79 C dX1_send_78 rfl rfl ?_
          refine V_get (k := 0) 82 C dX1_send_79 rfl fcX6 tw68 (by decide) rfl (up_s _ _ _) rfl ?_
          refine V_ireturn C dX1_send_82 rfl rfl (by omega) (by omega) ?_
          exact (AP_mk (y' := gOn y r w) (by unfold aGo; rw [if_pos cc, zr, zw, if_pos ht]) (cty_rup (y' := gOn y r w) hC (by omega) i3 (fun j hj => by unfold gOn; rw [ys_n _ (by omega), ys_n _ (by omega)]) (by unfold gOn; rw [ys_n _ (by omega), ys_s]) (by unfold gOn; rw [ys_s]) (by unfold gOn; rw [ys_n _ (by omega), ys_n _ (by omega)])) (FR.up FR.rf _ (by omega)))
        · have ht : ¬ (¬ tof y r = NO ∧ (y (7 + 3 * w) = tof y r ∨ y (7 + 3 * w + 1) = tof y r)) := fun e => c50 (by rw [ht0] at e; exact e.2)
          refine V_bipush 55 C dX1_send_53 rfl bipm4 ?_
          refine V_ireturn C dX1_send_55 rfl rfl (by omega) (by omega) ?_
          exact (AP_mk (by unfold aGo; rw [if_pos cc, zr, zw, if_neg ht]; rfl) hC FR.rf)
    · refine V_bipush 18 C dX1_send_16 rfl bipm2 ?_
      refine V_ireturn C dX1_send_18 rfl rfl (by omega) (by omega) ?_
      exact (AP_mk (by unfold aGo; rw [if_neg (fun e => by first | exact c5 e.1 | exact c13 e.2)]; rfl) hC FR.rf)

theorem dX1_addCopy_0 : decode cX1_addCopy 0 = .ok (.aload_n 0, 1) := by decide +kernel
theorem dX1_addCopy_1 : decode cX1_addCopy 1 = .ok (.iload_n 1, 1) := by decide +kernel
theorem dX1_addCopy_2 : decode cX1_addCopy 2 = .ok (.invokevirtual 151, 3) := by decide +kernel
theorem dX1_addCopy_5 : decode cX1_addCopy 5 = .ok (.ifCond .ne 6, 3) := by decide +kernel
theorem dX1_addCopy_8 : decode cX1_addCopy 8 = .ok (.bipush (-2), 2) := by decide +kernel
theorem dX1_addCopy_10 : decode cX1_addCopy 10 = .ok (.ireturn, 1) := by decide +kernel
theorem dX1_addCopy_11 : decode cX1_addCopy 11 = .ok (.iload_n 2, 1) := by decide +kernel
theorem dX1_addCopy_12 : decode cX1_addCopy 12 = .ok (.iconst 0, 1) := by decide +kernel
theorem dX1_addCopy_13 : decode cX1_addCopy 13 = .ok (.bipush 9, 2) := by decide +kernel
theorem dX1_addCopy_15 : decode cX1_addCopy 15 = .ok (.invokestatic 121, 3) := by decide +kernel
theorem dX1_addCopy_18 : decode cX1_addCopy 18 = .ok (.ifCond .ne 6, 3) := by decide +kernel
theorem dX1_addCopy_21 : decode cX1_addCopy 21 = .ok (.bipush (-3), 2) := by decide +kernel
theorem dX1_addCopy_23 : decode cX1_addCopy 23 = .ok (.ireturn, 1) := by decide +kernel
theorem dX1_addCopy_24 : decode cX1_addCopy 24 = .ok (.aload_n 0, 1) := by decide +kernel
theorem dX1_addCopy_25 : decode cX1_addCopy 25 = .ok (.iload_n 1, 1) := by decide +kernel
theorem dX1_addCopy_26 : decode cX1_addCopy 26 = .ok (.invokevirtual 171, 3) := by decide +kernel
theorem dX1_addCopy_29 : decode cX1_addCopy 29 = .ok (.istore_n 3, 1) := by decide +kernel
theorem dX1_addCopy_30 : decode cX1_addCopy 30 = .ok (.iload_n 3, 1) := by decide +kernel
theorem dX1_addCopy_31 : decode cX1_addCopy 31 = .ok (.ifCond .ne 27, 3) := by decide +kernel
theorem dX1_addCopy_34 : decode cX1_addCopy 34 = .ok (.aload_n 0, 1) := by decide +kernel
theorem dX1_addCopy_35 : decode cX1_addCopy 35 = .ok (.aload_n 0, 1) := by decide +kernel
theorem dX1_addCopy_36 : decode cX1_addCopy 36 = .ok (.getfield 31, 3) := by decide +kernel
theorem dX1_addCopy_39 : decode cX1_addCopy 39 = .ok (.iload_n 1, 1) := by decide +kernel
theorem dX1_addCopy_40 : decode cX1_addCopy 40 = .ok (.aaload, 1) := by decide +kernel
theorem dX1_addCopy_41 : decode cX1_addCopy 41 = .ok (.getfield 88, 3) := by decide +kernel
theorem dX1_addCopy_44 : decode cX1_addCopy 44 = .ok (.aload_n 0, 1) := by decide +kernel
theorem dX1_addCopy_45 : decode cX1_addCopy 45 = .ok (.iload_n 1, 1) := by decide +kernel
theorem dX1_addCopy_46 : decode cX1_addCopy 46 = .ok (.invokevirtual 174, 3) := by decide +kernel
theorem dX1_addCopy_49 : decode cX1_addCopy 49 = .ok (.iload_n 2, 1) := by decide +kernel
theorem dX1_addCopy_50 : decode cX1_addCopy 50 = .ok (.aload_n 0, 1) := by decide +kernel
theorem dX1_addCopy_51 : decode cX1_addCopy 51 = .ok (.iload_n 1, 1) := by decide +kernel
theorem dX1_addCopy_52 : decode cX1_addCopy 52 = .ok (.invokevirtual 108, 3) := by decide +kernel
theorem dX1_addCopy_55 : decode cX1_addCopy 55 = .ok (.invokevirtual 138, 3) := by decide +kernel
theorem dX1_addCopy_58 : decode cX1_addCopy 58 = .ok (.iload_n 3, 1) := by decide +kernel
theorem dX1_addCopy_59 : decode cX1_addCopy 59 = .ok (.ireturn, 1) := by decide +kernel
set_option maxRecDepth 100000 in
set_option maxHeartbeats 4000000 in
theorem c_X1_addCopy (l : Launch) (G : GT) (n : Nat) (h : AH) (q : Nat) (y : Nat → Nat) (hC : cty q y h) (hI : Iv y) (s9 f : Int32) : Ct l yX1_addCopy cX1_addCopy 4 (some .int) 4 0 0 G n h [.ref q, .int s9, .int f] (AP q n h (aCp y s9 f)) := by
  obtain ⟨⟨i0, i1, i2, i3, i4⟩, iR, iU, iM, iS⟩ := id hI
  obtain ⟨hob, ⟨fR, hfR, hR⟩, ⟨fU, hfU, hU⟩, ⟨fS, hfS, hS⟩, ⟨fM, hfM, hM⟩, -, -, -⟩ := id hC
  refine Ct_of mX1_addCopy.1 (Nat.le_of_ble_eq_true rfl) ?_
  intro p e s m args below meth c C hin
  refine V_Le (L' := [(0, .ref q), (1, .int s9), (2, .int f)]) rfl ?_
  refine V_aload_n 1 C dX1_addCopy_0 rfl rfl ?_
  refine V_iload_n 2 C dX1_addCopy_1 rfl rfl ?_
  refine V_callV 5 C dX1_addCopy_2 rfl mX1_hasSheet tw446 fcX1 hob (c_X1_hasSheet l G _ _ q y hC hI s9) rfl rfl (by decide) ⟨by omega, by omega⟩ (Nat.le_of_ble_eq_true rfl) ?_
  rintro _ _ _ ⟨rfl, rfl, rfl⟩
  refine V_if_neB 11 8 C dX1_addCopy_5 (by decide) rfl  (fun c5 => ?_) (fun c5 => ?_)
  · refine V_iload_n 12 C dX1_addCopy_11 rfl rfl ?_
    refine V_iconst 13 C dX1_addCopy_12 rfl ic0 ?_
    refine V_bipush 15 C dX1_addCopy_13 rfl bip9 ?_
    refine V_callSN (host := RX9) 18 C dX1_addCopy_15 rfl mX9_inRange (by decide +kernel) (c_X9_inRange l G _ _ _ _ _) rfl rfl (by decide) ⟨by omega, by omega⟩ (Nat.le_of_ble_eq_true rfl) ?_
    rintro _ _ _ ⟨rfl, rfl, rfl⟩
    refine V_if_neB 24 21 C dX1_addCopy_18 (by decide) rfl  (fun c18 => ?_) (fun c18 => ?_)
    · have hf9 : ix f 10 := by refine ⟨c18.1, ?_⟩; have := c18.2; rw [nI_toInt (by decide)] at this; omega
      have eR : aCp y s9 f = (nI (crs y (z s9)), cpC y (z s9) (z f)) := by unfold aCp; rw [if_pos c5, if_pos hf9]
      obtain ⟨j9, hs, rfl⟩ := ix_of c5 (by omega)
      obtain ⟨jf, hjf, rfl⟩ := ix_of hf9 (by decide)
      rw [zn (by omega), zn (by omega)] at eR
      obtain ⟨s0, s1, s2, s3, s4, s5⟩ := iS j9 hs
      unfold NO at s4
      have hsh := cty_sh hC hs i4
      have hcl := crs_le y j9
      refine V_aload_n 25 C dX1_addCopy_24 rfl rfl ?_
      refine V_iload_n 26 C dX1_addCopy_25 rfl rfl ?_
      refine V_callV 29 C dX1_addCopy_26 rfl mX1_copyHindrance tw488 fcX1 hob (c_X1_copyHindrance l G _ _ q y hC hI j9 hs) rfl rfl (by decide) ⟨by omega, by omega⟩ (Nat.le_of_ble_eq_true rfl) ?_
      rintro _ _ _ ⟨rfl, rfl, rfl⟩
      refine V_istore_n 30 C dX1_addCopy_29 rfl (by decide) (L' := [(0, _), (1, _), (2, _), (3, _)]) rfl ?_
      refine V_iload_n 31 C dX1_addCopy_30 rfl rfl ?_
      refine V_if_neN 58 34 C dX1_addCopy_31 (by decide) rfl (by omega) (fun c31 => ?_) (fun c31 => ?_)
      · rw [show cpC y j9 jf = y from by unfold cpC; rw [if_neg c31]] at eR
        have hC2 := hC
        have hF2 : FR q h h := FR.rf
        refine V_iload_n 59 C dX1_addCopy_58 rfl rfl ?_
        refine V_ireturn C dX1_addCopy_59 rfl rfl (by omega) (by omega) ?_
        exact (AP_mk eR hC2 hF2)
      · have hk4 := (crs_0 c31).2.2
        rw [show cpC y j9 jf = shOn y (y (58 + 6 * j9)) (rof y j9) jf (pof y j9) from by unfold cpC; rw [if_pos c31]] at eR
        refine V_aload_n 35 C dX1_addCopy_34 rfl rfl ?_
        refine V_aload_n 36 C dX1_addCopy_35 rfl rfl ?_
        refine V_get (k := 10) 39 C dX1_addCopy_36 rfl fcX1 tw145 (by decide) rfl hob rfl ?_
        refine V_iload_n 40 C dX1_addCopy_39 rfl rfl ?_
        refine V_aald (j := j9) 41 C dX1_addCopy_40 rfl hfS rfl rfl (by omega) (by omega) (hS _ (by omega)) ?_
        refine V_get (k := 0) 44 C dX1_addCopy_41 rfl fcX8 tw91 (by decide) rfl hsh rfl ?_
        refine V_aload_n 45 C dX1_addCopy_44 rfl rfl ?_
        refine V_iload_n 46 C dX1_addCopy_45 rfl rfl ?_
        refine V_callV 49 C dX1_addCopy_46 rfl mX1_readOf tw504 fcX1 hob (c_X1_readOf l G _ _ q y hC hI j9 hs) rfl rfl (by decide) ⟨by omega, by omega⟩ (Nat.le_of_ble_eq_true rfl) ?_
        rintro _ _ _ ⟨rfl, rfl, rfl⟩
        refine V_iload_n 50 C dX1_addCopy_49 rfl rfl ?_
        refine V_aload_n 51 C dX1_addCopy_50 rfl rfl ?_
        refine V_iload_n 52 C dX1_addCopy_51 rfl rfl ?_
        refine V_callV 55 C dX1_addCopy_52 rfl mX1_placeOf tw460 fcX1 hob (c_X1_placeOf l G _ _ q y hC hI j9 hs) rfl rfl (by decide) ⟨by omega, by omega⟩ (Nat.le_of_ble_eq_true rfl) ?_
        rintro _ _ _ ⟨rfl, rfl, rfl⟩
        refine V_callV 58 C dX1_addCopy_55 rfl mX1_addSheet tw434 fcX1 hob (c_X1_addSheet l G _ _ q y hC i1 i2 i3 (by omega) _ _ _ _) rfl rfl (by decide) ⟨by omega, by omega⟩ (Nat.le_of_ble_eq_true rfl) ?_
        rintro _ _ h2 ⟨rfl, rfl, hC2, hF2⟩
        refine V_iload_n 59 C dX1_addCopy_58 rfl rfl ?_
        refine V_ireturn C dX1_addCopy_59 rfl rfl (by omega) (by omega) ?_
        exact (AP_mk eR hC2 hF2)
    · have hf9 : ¬ ix f 10 := fun e => c18 ⟨e.1, by rw [nI_toInt (by decide)]; have := e.2; omega⟩
      refine V_bipush 23 C dX1_addCopy_21 rfl bipm3 ?_
      refine V_ireturn C dX1_addCopy_23 rfl rfl (by omega) (by omega) ?_
      exact (AP_mk (by unfold aCp; rw [if_pos c5, if_neg hf9]; rfl) hC FR.rf)
  · refine V_bipush 10 C dX1_addCopy_8 rfl bipm2 ?_
    refine V_ireturn C dX1_addCopy_10 rfl rfl (by omega) (by omega) ?_
    exact (AP_mk (by unfold aCp; rw [if_neg c5]; rfl) hC FR.rf)


