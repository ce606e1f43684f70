/-! THE PLANNER, and the far of the reference -/
theorem dX4_startAt_0 : decode cX4_startAt 0 = .ok (.iconst 0, 1) := by decide +kernel
theorem dX4_startAt_1 : decode cX4_startAt 1 = .ok (.istore_n 2, 1) := by decide +kernel
theorem dX4_startAt_2 : decode cX4_startAt 2 = .ok (.iload_n 2, 1) := by decide +kernel
theorem dX4_startAt_3 : decode cX4_startAt 3 = .ok (.bipush 6, 2) := by decide +kernel
theorem dX4_startAt_5 : decode cX4_startAt 5 = .ok (.if_icmp .ge 17, 3) := by decide +kernel
theorem dX4_startAt_8 : decode cX4_startAt 8 = .ok (.aload_n 0, 1) := by decide +kernel
theorem dX4_startAt_9 : decode cX4_startAt 9 = .ok (.getfield 9, 3) := by decide +kernel
theorem dX4_startAt_12 : decode cX4_startAt 12 = .ok (.iload_n 2, 1) := by decide +kernel
theorem dX4_startAt_13 : decode cX4_startAt 13 = .ok (.ldc 53, 2) := by decide +kernel
theorem dX4_startAt_15 : decode cX4_startAt 15 = .ok (.iastore, 1) := by decide +kernel
theorem dX4_startAt_16 : decode cX4_startAt 16 = .ok (.iinc 2 1, 3) := by decide +kernel
theorem dX4_startAt_19 : decode cX4_startAt 19 = .ok (.goto (-17), 3) := by decide +kernel
theorem dX4_startAt_22 : decode cX4_startAt 22 = .ok (.aload_n 0, 1) := by decide +kernel
theorem dX4_startAt_23 : decode cX4_startAt 23 = .ok (.getfield 9, 3) := by decide +kernel
theorem dX4_startAt_26 : decode cX4_startAt 26 = .ok (.iload_n 1, 1) := by decide +kernel
theorem dX4_startAt_27 : decode cX4_startAt 27 = .ok (.iconst 0, 1) := by decide +kernel
theorem dX4_startAt_28 : decode cX4_startAt 28 = .ok (.iastore, 1) := by decide +kernel
theorem dX4_startAt_29 : decode cX4_startAt 29 = .ok (.return_, 1) := by decide +kernel
set_option maxRecDepth 100000 in
set_option maxHeartbeats 4000000 in
theorem c_X4_startAt (l : Launch) (G : GT) (n : Nat) (h : AH) (p : Nat) (f g : Nat → Int32) (hP : pln p f g h) (a : Nat) (ha : a < 6) : Ct l yX4_startAt cX4_startAt 3 none 1 0 0 G n h [.ref p, .int (nI a)] (Rv n (fun h' => ∃ f', h' = up h (p + 1) (ra f') ∧ ∀ t, t < 6 → f' t = nI (st0 a t))) := by
  obtain ⟨hop, hof, hog⟩ := id hP
  have FE := FAR_eq
  have NE := NO_eq
  refine Ct_of mX4_startAt.1 (Nat.le_of_ble_eq_true rfl) ?_
  intro p₀ e₀ s₀ m₀ as₀ bl₀ me₀ c₀ C hin
  refine V_Le (L' := [(0, .ref p), (1, .int (nI a))]) rfl ?_
  refine V_iconst 1 C dX4_startAt_0 rfl ic0 ?_
  refine V_istore_n 2 C dX4_startAt_1 rfl (by decide) (L' := [(0, _), (1, _), (2, _)]) rfl ?_
  have J2 : ∀ (fuel : Nat) (i : Nat) (f1 : Nat → Int32) (hi : i ≤ 6) (hf1 : ∀ t, t < i → f1 t = nI 1000000), 6 - i < fuel → V p₀ l e₀ (rmD 1 0 0) s₀ m₀ as₀ bl₀ me₀ c₀ (MQ bl₀ (Po G (Rv n (fun h' => ∃ f', h' = up h (p + 1) (ra f') ∧ ∀ t, t < 6 → f' t = nI (st0 a t)))) as₀ s₀ 0 0 (rg G)) G 3 0 0 n (up h (p + 1) (ra f1)) 2 [(0, .ref p), (1, .int (nI a)), (2, .int (nI i))] [] := by
    intro fuel
    induction fuel with
    | zero => intro i f1 hi hf1 hf; omega
    | succ fuel ih2 =>
      intro i f1 hi hf1 hf
      have hop1 : (up h (p + 1) (ra f1)) p = _ := (up_n _ (by omega)).trans hop
      refine V_iload_n 3 C dX4_startAt_2 rfl rfl ?_
      refine V_bipush 5 C dX4_startAt_3 rfl bip6 ?_
      refine V_icmp_geN 22 8 C dX4_startAt_5 (by decide) rfl (by omega) (by omega) (fun c5 => ?_) (fun c5 => ?_)
      · refine V_aload_n 23 C dX4_startAt_22 rfl rfl ?_
        refine V_get (k := 0) 26 C dX4_startAt_23 rfl fcX4 tw197 (by decide) rfl hop1 rfl ?_
        refine V_iload_n 27 C dX4_startAt_26 rfl rfl ?_
        refine V_iconst 28 C dX4_startAt_27 rfl ic0 ?_
        refine V_iast (j := a) 29 C dX4_startAt_28 rfl (up_s _ _ _) rfl (by omega) (by omega) ?_
        rw [up_up]
        refine V_return C dX4_startAt_29 rfl (by omega) (by omega) ?_
        exact ⟨rfl, rfl, _, rfl, st0_upd (fun t ht => hf1 t (by omega))⟩
      · refine V_aload_n 9 C dX4_startAt_8 rfl rfl ?_
        refine V_get (k := 0) 12 C dX4_startAt_9 rfl fcX4 tw197 (by decide) rfl hop1 rfl ?_
        refine V_iload_n 13 C dX4_startAt_12 rfl rfl ?_
        refine V_ldc 15 C dX4_startAt_13 rfl tw786 ?_
        rw [show (1000000 : Int32) = nI 1000000 from by decide]
        refine V_iast (j := i) 16 C dX4_startAt_15 rfl (up_s _ _ _) rfl (by omega) (by omega) ?_
        rw [up_up]
        refine V_iinc 19 C dX4_startAt_16 rfl (by decide) rfl (ii1 _) (L' := [(0, _), (1, _), (2, _)]) rfl ?_
        refine V_goto 2 C dX4_startAt_19 (by decide) ?_
        refine V_L [0, 1, 2] rfl ?_
        exact ih2 (i + 1) _ (by omega) (upd_to hf1) (by omega)
  refine V_L [0, 1, 2] rfl ?_
  have J := J2 7 0 f (by omega) (fun t ht => absurd ht (Nat.not_lt_zero _)) (by omega)
  rw [up_id hof] at J
  exact J

theorem dX4_hoursTo_0 : decode cX4_hoursTo 0 = .ok (.aload_n 0, 1) := by decide +kernel
theorem dX4_hoursTo_1 : decode cX4_hoursTo 1 = .ok (.getfield 9, 3) := by decide +kernel
theorem dX4_hoursTo_4 : decode cX4_hoursTo 4 = .ok (.iload_n 1, 1) := by decide +kernel
theorem dX4_hoursTo_5 : decode cX4_hoursTo 5 = .ok (.iaload, 1) := by decide +kernel
theorem dX4_hoursTo_6 : decode cX4_hoursTo 6 = .ok (.ldc 53, 2) := by decide +kernel
theorem dX4_hoursTo_8 : decode cX4_hoursTo 8 = .ok (.if_icmp .ne 7, 3) := by decide +kernel
theorem dX4_hoursTo_11 : decode cX4_hoursTo 11 = .ok (.iconst (-1), 1) := by decide +kernel
theorem dX4_hoursTo_12 : decode cX4_hoursTo 12 = .ok (.goto 9, 3) := by decide +kernel
theorem dX4_hoursTo_15 : decode cX4_hoursTo 15 = .ok (.aload_n 0, 1) := by decide +kernel
theorem dX4_hoursTo_16 : decode cX4_hoursTo 16 = .ok (.getfield 9, 3) := by decide +kernel
theorem dX4_hoursTo_19 : decode cX4_hoursTo 19 = .ok (.iload_n 1, 1) := by decide +kernel
theorem dX4_hoursTo_20 : decode cX4_hoursTo 20 = .ok (.iaload, 1) := by decide +kernel
theorem dX4_hoursTo_21 : decode cX4_hoursTo 21 = .ok (.ireturn, 1) := by decide +kernel
set_option maxRecDepth 100000 in
set_option maxHeartbeats 4000000 in
theorem c_X4_hoursTo (l : Launch) (G : GT) (n : Nat) (h : AH) (p : Nat) (f g : Nat → Int32) (hP : pln p f g h) (v b : Nat) (hv : v ≤ FAR) (hb : b < 6) (hfv : f b = nI v) : Ct l yX4_hoursTo cX4_hoursTo 2 (some .int) 1 0 0 G n h [.ref p, .int (nI b)] (Rt (nI (mo v)) n h) := by
  obtain ⟨hop, hof, hog⟩ := id hP
  have FE := FAR_eq
  have NE := NO_eq
  refine Ct_of mX4_hoursTo.1 (Nat.le_of_ble_eq_true rfl) ?_
  intro p₀ e₀ s₀ m₀ as₀ bl₀ me₀ c₀ C hin
  refine V_Le (L' := [(0, .ref p), (1, .int (nI b))]) rfl ?_
  refine V_aload_n 1 C dX4_hoursTo_0 rfl rfl ?_
  refine V_get (k := 0) 4 C dX4_hoursTo_1 rfl fcX4 tw197 (by decide) rfl hop rfl ?_
  refine V_iload_n 5 C dX4_hoursTo_4 rfl rfl ?_
  refine V_iald (j := b) 6 C dX4_hoursTo_5 rfl hof rfl (by omega) (by omega) ?_
  rw [hfv]
  refine V_ldc 8 C dX4_hoursTo_6 rfl tw786 ?_
  rw [show (1000000 : Int32) = nI 1000000 from by decide]
  refine V_icmp_neN 15 11 C dX4_hoursTo_8 (by decide) rfl (by omega) (by omega) (fun c8 => ?_) (fun c8 => ?_)
  · have e1 : mo v = v := mo_n (by omega)
    refine V_aload_n 16 C dX4_hoursTo_15 rfl rfl ?_
    refine V_get (k := 0) 19 C dX4_hoursTo_16 rfl fcX4 tw197 (by decide) rfl hop rfl ?_
    refine V_iload_n 20 C dX4_hoursTo_19 rfl rfl ?_
    refine V_iald (j := b) 21 C dX4_hoursTo_20 rfl hof rfl (by omega) (by omega) ?_
    rw [hfv]
    refine V_ireturn C dX4_hoursTo_21 rfl rfl (by omega) (by omega) ?_
    exact (Rt_mk e1.symm)
  · have e1 : mo v = 4294967295 := mo_y (by omega)
    refine V_iconst 12 C dX4_hoursTo_11 rfl icm1 ?_
    refine V_goto 21 C dX4_hoursTo_12 (by decide) ?_
    refine V_ireturn C dX4_hoursTo_21 rfl rfl (by omega) (by omega) ?_
    exact (Rt_mk e1.symm)

theorem dX4_soonestOpen_0 : decode cX4_soonestOpen 0 = .ok (.iconst (-1), 1) := by decide +kernel
theorem dX4_soonestOpen_1 : decode cX4_soonestOpen 1 = .ok (.istore_n 1, 1) := by decide +kernel
theorem dX4_soonestOpen_2 : decode cX4_soonestOpen 2 = .ok (.iconst 0, 1) := by decide +kernel
theorem dX4_soonestOpen_3 : decode cX4_soonestOpen 3 = .ok (.istore_n 2, 1) := by decide +kernel
theorem dX4_soonestOpen_4 : decode cX4_soonestOpen 4 = .ok (.iload_n 2, 1) := by decide +kernel
theorem dX4_soonestOpen_5 : decode cX4_soonestOpen 5 = .ok (.bipush 6, 2) := by decide +kernel
theorem dX4_soonestOpen_7 : decode cX4_soonestOpen 7 = .ok (.if_icmp .ge 51, 3) := by decide +kernel
theorem dX4_soonestOpen_10 : decode cX4_soonestOpen 10 = .ok (.aload_n 0, 1) := by decide +kernel
theorem dX4_soonestOpen_11 : decode cX4_soonestOpen 11 = .ok (.getfield 15, 3) := by decide +kernel
theorem dX4_soonestOpen_14 : decode cX4_soonestOpen 14 = .ok (.iload_n 2, 1) := by decide +kernel
theorem dX4_soonestOpen_15 : decode cX4_soonestOpen 15 = .ok (.baload, 1) := by decide +kernel
theorem dX4_soonestOpen_16 : decode cX4_soonestOpen 16 = .ok (.ifCond .ne 36, 3) := by decide +kernel
theorem dX4_soonestOpen_19 : decode cX4_soonestOpen 19 = .ok (.aload_n 0, 1) := by decide +kernel
theorem dX4_soonestOpen_20 : decode cX4_soonestOpen 20 = .ok (.getfield 9, 3) := by decide +kernel
theorem dX4_soonestOpen_23 : decode cX4_soonestOpen 23 = .ok (.iload_n 2, 1) := by decide +kernel
theorem dX4_soonestOpen_24 : decode cX4_soonestOpen 24 = .ok (.iaload, 1) := by decide +kernel
theorem dX4_soonestOpen_25 : decode cX4_soonestOpen 25 = .ok (.ldc 53, 2) := by decide +kernel
theorem dX4_soonestOpen_27 : decode cX4_soonestOpen 27 = .ok (.if_icmp .ge 25, 3) := by decide +kernel
theorem dX4_soonestOpen_30 : decode cX4_soonestOpen 30 = .ok (.iload_n 1, 1) := by decide +kernel
theorem dX4_soonestOpen_31 : decode cX4_soonestOpen 31 = .ok (.iconst (-1), 1) := by decide +kernel
theorem dX4_soonestOpen_32 : decode cX4_soonestOpen 32 = .ok (.if_icmp .eq 18, 3) := by decide +kernel
theorem dX4_soonestOpen_35 : decode cX4_soonestOpen 35 = .ok (.aload_n 0, 1) := by decide +kernel
theorem dX4_soonestOpen_36 : decode cX4_soonestOpen 36 = .ok (.getfield 9, 3) := by decide +kernel
theorem dX4_soonestOpen_39 : decode cX4_soonestOpen 39 = .ok (.iload_n 2, 1) := by decide +kernel
theorem dX4_soonestOpen_40 : decode cX4_soonestOpen 40 = .ok (.iaload, 1) := by decide +kernel
theorem dX4_soonestOpen_41 : decode cX4_soonestOpen 41 = .ok (.aload_n 0, 1) := by decide +kernel
theorem dX4_soonestOpen_42 : decode cX4_soonestOpen 42 = .ok (.getfield 9, 3) := by decide +kernel
theorem dX4_soonestOpen_45 : decode cX4_soonestOpen 45 = .ok (.iload_n 1, 1) := by decide +kernel
theorem dX4_soonestOpen_46 : decode cX4_soonestOpen 46 = .ok (.iaload, 1) := by decide +kernel
theorem dX4_soonestOpen_47 : decode cX4_soonestOpen 47 = .ok (.if_icmp .ge 5, 3) := by decide +kernel
theorem dX4_soonestOpen_50 : decode cX4_soonestOpen 50 = .ok (.iload_n 2, 1) := by decide +kernel
theorem dX4_soonestOpen_51 : decode cX4_soonestOpen 51 = .ok (.istore_n 1, 1) := by decide +kernel
theorem dX4_soonestOpen_52 : decode cX4_soonestOpen 52 = .ok (.iinc 2 1, 3) := by decide +kernel
theorem dX4_soonestOpen_55 : decode cX4_soonestOpen 55 = .ok (.goto (-51), 3) := by decide +kernel
theorem dX4_soonestOpen_58 : decode cX4_soonestOpen 58 = .ok (.iload_n 1, 1) := by decide +kernel
theorem dX4_soonestOpen_59 : decode cX4_soonestOpen 59 = .ok (.ireturn, 1) := by decide +kernel
set_option maxRecDepth 100000 in
set_option maxHeartbeats 4000000 in
theorem c_X4_soonestOpen (l : Launch) (G : GT) (n : Nat) (h : AH) (p : Nat) (f g : Nat → Int32) (hP : pln p f g h) (E : Nat → Nat) (hE : ∀ t, t < 6 → f t = nI (E t)) (hb : ∀ t, t < 6 → E t ≤ FAR) (L : Nat → Bool) (hL : ∀ t, t < 6 → g t = nI ((L t).toNat)) : Ct l yX4_soonestOpen cX4_soonestOpen 3 (some .int) 1 0 0 G n h [.ref p] (fun v n' h' => ∃ r, v = some (.int (nI r)) ∧ n = n' ∧ h = h' ∧ So E L 6 r) := by
  obtain ⟨hop, hof, hog⟩ := id hP
  have FE := FAR_eq
  have NE := NO_eq
  refine Ct_of mX4_soonestOpen.1 (Nat.le_of_ble_eq_true rfl) ?_
  intro p₀ e₀ s₀ m₀ as₀ bl₀ me₀ c₀ C hin
  refine V_Le (L' := [(0, .ref p)]) rfl ?_
  refine V_iconst 1 C dX4_soonestOpen_0 rfl icm1 ?_
  refine V_istore_n 2 C dX4_soonestOpen_1 rfl (by decide) (L' := [(0, _), (1, _)]) rfl ?_
  refine V_iconst 3 C dX4_soonestOpen_2 rfl ic0 ?_
  refine V_istore_n 4 C dX4_soonestOpen_3 rfl (by decide) (L' := [(0, _), (1, _), (2, _)]) rfl ?_
  have J4 : ∀ (fuel : Nat) (i r : Nat) (hi : i ≤ 6) (hr : So E L i r), 6 - i < fuel → V p₀ l e₀ (rmD 1 0 0) s₀ m₀ as₀ bl₀ me₀ c₀ (MQ bl₀ (Po G (fun v n' h' => ∃ r, v = some (.int (nI r)) ∧ n = n' ∧ h = h' ∧ So E L 6 r)) as₀ s₀ 0 0 (rg G)) G 3 0 0 n h 4 [(0, .ref p), (1, .int (nI r)), (2, .int (nI i))] [] := by
    intro fuel
    induction fuel with
    | zero => intro i r hi hr hf; omega
    | succ fuel ih4 =>
      intro i r hi hr hf
      have hrb := So_b hr
      refine V_iload_n 5 C dX4_soonestOpen_4 rfl rfl ?_
      refine V_bipush 7 C dX4_soonestOpen_5 rfl bip6 ?_
      refine V_icmp_geN 58 10 C dX4_soonestOpen_7 (by decide) rfl (by omega) (by omega) (fun c7 => ?_) (fun c7 => ?_)
      · refine V_iload_n 59 C dX4_soonestOpen_58 rfl rfl ?_
        refine V_ireturn C dX4_soonestOpen_59 rfl rfl (by omega) (by omega) ?_
        exact ⟨r, rfl, rfl, rfl, by rw [show 6 = i from by omega]; exact hr⟩
      · refine V_aload_n 11 C dX4_soonestOpen_10 rfl rfl ?_
        refine V_get (k := 1) 14 C dX4_soonestOpen_11 rfl fcX4 tw198 (by decide) rfl hop rfl ?_
        refine V_iload_n 15 C dX4_soonestOpen_14 rfl rfl ?_
        have hTb : (L i).toNat ≤ 1 := Bool.toNat_le _
        have hEb := hb i (by omega)
        refine V_zald (j := i) 16 C dX4_soonestOpen_15 rfl hog rfl (by omega) (by omega) ?_
        rw [hL i (by omega)]
        refine V_if_neN 52 19 C dX4_soonestOpen_16 (by decide) rfl (by omega) (fun c16 => ?_) (fun c16 => ?_)
        · have hz : So E L (i + 1) r := So_skip hr (Or.inl (by cases hc : L i with | true => rfl | false => rw [hc] at c16; exact absurd rfl c16))
          refine V_iinc 55 C dX4_soonestOpen_52 rfl (by decide) rfl (ii1 _) (L' := [(0, _), (1, _), (2, _)]) rfl ?_
          refine V_goto 4 C dX4_soonestOpen_55 (by decide) ?_
          refine V_L [0, 1, 2] rfl ?_
          exact ih4 (i + 1) _ (by omega) hz (by omega)
        · have hLf : L i = false := by cases hc : L i with | false => rfl | true => rw [hc] at c16; exact absurd c16 (by decide)
          refine V_aload_n 20 C dX4_soonestOpen_19 rfl rfl ?_
          refine V_get (k := 0) 23 C dX4_soonestOpen_20 rfl fcX4 tw197 (by decide) rfl hop rfl ?_
          refine V_iload_n 24 C dX4_soonestOpen_23 rfl rfl ?_
          refine V_iald (j := i) 25 C dX4_soonestOpen_24 rfl hof rfl (by omega) (by omega) ?_
          rw [hE i (by omega)]
          refine V_ldc 27 C dX4_soonestOpen_25 rfl tw786 ?_
          rw [show (1000000 : Int32) = nI 1000000 from by decide]
          refine V_icmp_geN 52 30 C dX4_soonestOpen_27 (by decide) rfl (by omega) (by omega) (fun c27 => ?_) (fun c27 => ?_)
          · have hz : So E L (i + 1) r := So_skip hr (Or.inr (Or.inl (by omega)))
            refine V_iinc 55 C dX4_soonestOpen_52 rfl (by decide) rfl (ii1 _) (L' := [(0, _), (1, _), (2, _)]) rfl ?_
            refine V_goto 4 C dX4_soonestOpen_55 (by decide) ?_
            refine V_L [0, 1, 2] rfl ?_
            exact ih4 (i + 1) _ (by omega) hz (by omega)
          · refine V_iload_n 31 C dX4_soonestOpen_30 rfl rfl ?_
            refine V_iconst 32 C dX4_soonestOpen_31 rfl icm1 ?_
            refine V_icmp_eqN 50 35 C dX4_soonestOpen_32 (by decide) rfl (by omega) (by omega) (fun c32 => ?_) (fun c32 => ?_)
            · have hz : So E L (i + 1) i := So_take hr hLf (by omega) (Or.inl (by omega)) (by omega)
              refine V_iload_n 51 C dX4_soonestOpen_50 rfl rfl ?_
              refine V_istore_n 52 C dX4_soonestOpen_51 rfl (by decide) (L' := [(0, _), (1, _), (2, _)]) rfl ?_
              refine V_iinc 55 C dX4_soonestOpen_52 rfl (by decide) rfl (ii1 _) (L' := [(0, _), (1, _), (2, _)]) rfl ?_
              refine V_goto 4 C dX4_soonestOpen_55 (by decide) ?_
              refine V_L [0, 1, 2] rfl ?_
              exact ih4 (i + 1) _ (by omega) hz (by omega)
            · have hr6 : r < 6 := by omega
              have hEr := hb r hr6
              refine V_aload_n 36 C dX4_soonestOpen_35 rfl rfl ?_
              refine V_get (k := 0) 39 C dX4_soonestOpen_36 rfl fcX4 tw197 (by decide) rfl hop rfl ?_
              refine V_iload_n 40 C dX4_soonestOpen_39 rfl rfl ?_
              refine V_iald (j := i) 41 C dX4_soonestOpen_40 rfl hof rfl (by omega) (by omega) ?_
              rw [hE i (by omega)]
              refine V_aload_n 42 C dX4_soonestOpen_41 rfl rfl ?_
              refine V_get (k := 0) 45 C dX4_soonestOpen_42 rfl fcX4 tw197 (by decide) rfl hop rfl ?_
              refine V_iload_n 46 C dX4_soonestOpen_45 rfl rfl ?_
              refine V_iald (j := r) 47 C dX4_soonestOpen_46 rfl hof rfl (by omega) (by omega) ?_
              rw [hE r hr6]
              refine V_icmp_geN 52 50 C dX4_soonestOpen_47 (by decide) rfl (by omega) (by omega) (fun c47 => ?_) (fun c47 => ?_)
              · have hz : So E L (i + 1) r := So_skip hr (Or.inr (Or.inr ⟨by omega, by omega⟩))
                refine V_iinc 55 C dX4_soonestOpen_52 rfl (by decide) rfl (ii1 _) (L' := [(0, _), (1, _), (2, _)]) rfl ?_
                refine V_goto 4 C dX4_soonestOpen_55 (by decide) ?_
                refine V_L [0, 1, 2] rfl ?_
                exact ih4 (i + 1) _ (by omega) hz (by omega)
              · have hz : So E L (i + 1) i := So_take hr hLf (by omega) (Or.inr (by omega)) (by omega)
                refine V_iload_n 51 C dX4_soonestOpen_50 rfl rfl ?_
                refine V_istore_n 52 C dX4_soonestOpen_51 rfl (by decide) (L' := [(0, _), (1, _), (2, _)]) rfl ?_
                refine V_iinc 55 C dX4_soonestOpen_52 rfl (by decide) rfl (ii1 _) (L' := [(0, _), (1, _), (2, _)]) rfl ?_
                refine V_goto 4 C dX4_soonestOpen_55 (by decide) ?_
                refine V_L [0, 1, 2] rfl ?_
                exact ih4 (i + 1) _ (by omega) hz (by omega)
  refine V_L [0, 1, 2] rfl ?_
  exact J4 7 0 NO (by omega) So_0 (by omega)

theorem dX4_shorten_0 : decode cX4_shorten 0 = .ok (.aload_n 2, 1) := by decide +kernel
theorem dX4_shorten_1 : decode cX4_shorten 1 = .ok (.iload_n 1, 1) := by decide +kernel
theorem dX4_shorten_2 : decode cX4_shorten 2 = .ok (.invokevirtual 61, 3) := by decide +kernel
theorem dX4_shorten_5 : decode cX4_shorten 5 = .ok (.istore_n 3, 1) := by decide +kernel
theorem dX4_shorten_6 : decode cX4_shorten 6 = .ok (.aload_n 0, 1) := by decide +kernel
theorem dX4_shorten_7 : decode cX4_shorten 7 = .ok (.getfield 9, 3) := by decide +kernel
theorem dX4_shorten_10 : decode cX4_shorten 10 = .ok (.iload_n 1, 1) := by decide +kernel
theorem dX4_shorten_11 : decode cX4_shorten 11 = .ok (.iaload, 1) := by decide +kernel
theorem dX4_shorten_12 : decode cX4_shorten 12 = .ok (.aload_n 2, 1) := by decide +kernel
theorem dX4_shorten_13 : decode cX4_shorten 13 = .ok (.getfield 58, 3) := by decide +kernel
theorem dX4_shorten_16 : decode cX4_shorten 16 = .ok (.iadd, 1) := by decide +kernel
theorem dX4_shorten_17 : decode cX4_shorten 17 = .ok (.istore 4, 2) := by decide +kernel
theorem dX4_shorten_19 : decode cX4_shorten 19 = .ok (.aload_n 0, 1) := by decide +kernel
theorem dX4_shorten_20 : decode cX4_shorten 20 = .ok (.getfield 9, 3) := by decide +kernel
theorem dX4_shorten_23 : decode cX4_shorten 23 = .ok (.iload_n 1, 1) := by decide +kernel
theorem dX4_shorten_24 : decode cX4_shorten 24 = .ok (.iaload, 1) := by decide +kernel
theorem dX4_shorten_25 : decode cX4_shorten 25 = .ok (.ldc 53, 2) := by decide +kernel
theorem dX4_shorten_27 : decode cX4_shorten 27 = .ok (.if_icmp .eq 14, 3) := by decide +kernel
theorem dX4_shorten_30 : decode cX4_shorten 30 = .ok (.iload 4, 2) := by decide +kernel
theorem dX4_shorten_32 : decode cX4_shorten 32 = .ok (.aload_n 0, 1) := by decide +kernel
theorem dX4_shorten_33 : decode cX4_shorten 33 = .ok (.getfield 9, 3) := by decide +kernel
theorem dX4_shorten_36 : decode cX4_shorten 36 = .ok (.iload_n 3, 1) := by decide +kernel
theorem dX4_shorten_37 : decode cX4_shorten 37 = .ok (.iaload, 1) := by decide +kernel
theorem dX4_shorten_38 : decode cX4_shorten 38 = .ok (.if_icmp .lt 5, 3) := by decide +kernel
theorem dX4_shorten_41 : decode cX4_shorten 41 = .ok (.iconst 0, 1) := by decide +kernel
theorem dX4_shorten_42 : decode cX4_shorten 42 = .ok (.ireturn, 1) := by decide +kernel
theorem dX4_shorten_43 : decode cX4_shorten 43 = .ok (.aload_n 0, 1) := by decide +kernel
theorem dX4_shorten_44 : decode cX4_shorten 44 = .ok (.getfield 9, 3) := by decide +kernel
theorem dX4_shorten_47 : decode cX4_shorten 47 = .ok (.iload_n 3, 1) := by decide +kernel
theorem dX4_shorten_48 : decode cX4_shorten 48 = .ok (.iload 4, 2) := by decide +kernel
theorem dX4_shorten_50 : decode cX4_shorten 50 = .ok (.iastore, 1) := by decide +kernel
theorem dX4_shorten_51 : decode cX4_shorten 51 = .ok (.iconst 1, 1) := by decide +kernel
theorem dX4_shorten_52 : decode cX4_shorten 52 = .ok (.ireturn, 1) := by decide +kernel
set_option maxRecDepth 100000 in
set_option maxHeartbeats 4000000 in
theorem c_X4_shorten (l : Launch) (G : GT) (n : Nat) (h : AH) (p : Nat) (f g : Nat → Int32) (hP : pln p f g h) (E : Nat → Nat) (hE : ∀ t, t < 6 → f t = nI (E t)) (hb : ∀ t, t < 6 → E t ≤ FAR) (u ro a b w to : Nat) (ho : h ro = some (c3 4 a b w)) (hu : u < 6) (ha : a < 6) (ht : (if a = u then b else a) = to) (ht6 : to < 6) (hw : w ≤ 20) : Ct l yX4_shorten cX4_shorten 5 (some .boolean) 2 0 0 G n h [.ref p, .int (nI u), .ref ro] (fun v n' h' => ∃ c f', v = some (.int (nI c)) ∧ n = n' ∧ h' = up h (p + 1) (ra f') ∧ (∀ t, t < 6 → f' t = nI (rlx E u to w t)) ∧ ((c = 0 ∧ (E u = FAR ∨ E to ≤ E u + w)) ∨ (c = 1 ∧ ¬ (E u = FAR ∨ E to ≤ E u + w)))) := by
  obtain ⟨hop, hof, hog⟩ := id hP
  have FE := FAR_eq
  have NE := NO_eq
  have hEu := hb u hu
  have hEt := hb to ht6
  refine Ct_of mX4_shorten.1 (Nat.le_of_ble_eq_true rfl) ?_
  intro p₀ e₀ s₀ m₀ as₀ bl₀ me₀ c₀ C hin
  refine V_Le (L' := [(0, .ref p), (1, .int (nI u)), (2, .ref ro)]) rfl ?_
  refine V_aload_n 1 C dX4_shorten_0 rfl rfl ?_
  refine V_iload_n 2 C dX4_shorten_1 rfl rfl ?_
  refine V_callV 5 C dX4_shorten_2 rfl mX5_otherEnd tw792 fcX5 ho (c_X5_otherEnd l G _ _ ro a b w ho u (by omega) (by omega)) rfl rfl (by decide) ⟨by omega, by omega⟩ (Nat.le_of_ble_eq_true rfl) ?_
  rintro _ _ _ ⟨rfl, rfl, rfl⟩
  rw [ht]
  refine V_istore_n 6 C dX4_shorten_5 rfl (by decide) (L' := [(0, _), (1, _), (2, _), (3, _)]) rfl ?_
  refine V_aload_n 7 C dX4_shorten_6 rfl rfl ?_
  refine V_get (k := 0) 10 C dX4_shorten_7 rfl fcX4 tw197 (by decide) rfl hop rfl ?_
  refine V_iload_n 11 C dX4_shorten_10 rfl rfl ?_
  refine V_iald (j := u) 12 C dX4_shorten_11 rfl hof rfl (by omega) (by omega) ?_
  rw [hE u hu]
  refine V_aload_n 13 C dX4_shorten_12 rfl rfl ?_
  refine V_get (k := 2) 16 C dX4_shorten_13 rfl fcX5 tw49 (by decide) rfl ho rfl ?_
  refine V_iaddN 17 C dX4_shorten_16 rfl  ?_
  refine V_istore 19 C dX4_shorten_17 rfl (by decide) (L' := [(0, _), (1, _), (2, _), (3, _), (4, _)]) rfl ?_
  refine V_aload_n 20 C dX4_shorten_19 rfl rfl ?_
  refine V_get (k := 0) 23 C dX4_shorten_20 rfl fcX4 tw197 (by decide) rfl hop rfl ?_
  refine V_iload_n 24 C dX4_shorten_23 rfl rfl ?_
  refine V_iald (j := u) 25 C dX4_shorten_24 rfl hof rfl (by omega) (by omega) ?_
  rw [hE u hu]
  refine V_ldc 27 C dX4_shorten_25 rfl tw786 ?_
  rw [show (1000000 : Int32) = nI 1000000 from by decide]
  refine V_icmp_eqN 41 30 C dX4_shorten_27 (by decide) rfl (by omega) (by omega) (fun c27 => ?_) (fun c27 => ?_)
  · have hc : E u = FAR ∨ E to ≤ E u + w := by omega
    refine V_iconst 42 C dX4_shorten_41 rfl ic0 ?_
    refine V_ireturn C dX4_shorten_42 rfl (by decide) (by omega) (by omega) ?_
    exact ⟨0, f, rfl, rfl, (up_id hof).symm, fun t ht => by rw [rlx_id hc]; exact hE t ht, Or.inl ⟨rfl, hc⟩⟩
  · refine V_iload 32 C dX4_shorten_30 rfl rfl ?_
    refine V_aload_n 33 C dX4_shorten_32 rfl rfl ?_
    refine V_get (k := 0) 36 C dX4_shorten_33 rfl fcX4 tw197 (by decide) rfl hop rfl ?_
    refine V_iload_n 37 C dX4_shorten_36 rfl rfl ?_
    refine V_iald (j := to) 38 C dX4_shorten_37 rfl hof rfl (by omega) (by omega) ?_
    rw [hE to ht6]
    refine V_icmp_ltN 43 41 C dX4_shorten_38 (by decide) rfl (by omega) (by omega) (fun c38 => ?_) (fun c38 => ?_)
    · have hc : ¬ (E u = FAR ∨ E to ≤ E u + w) := by omega
      refine V_aload_n 44 C dX4_shorten_43 rfl rfl ?_
      refine V_get (k := 0) 47 C dX4_shorten_44 rfl fcX4 tw197 (by decide) rfl hop rfl ?_
      refine V_iload_n 48 C dX4_shorten_47 rfl rfl ?_
      refine V_iload 50 C dX4_shorten_48 rfl rfl ?_
      refine V_iast (j := to) 51 C dX4_shorten_50 rfl hof rfl (by omega) (by omega) ?_
      refine V_iconst 52 C dX4_shorten_51 rfl ic1 ?_
      refine V_ireturn C dX4_shorten_52 rfl (by decide) (by omega) (by omega) ?_
      exact ⟨1, _, rfl, rfl, rfl, upd_rlx hE hc, Or.inr ⟨rfl, hc⟩⟩
    · have hc : E u = FAR ∨ E to ≤ E u + w := by omega
      refine V_iconst 42 C dX4_shorten_41 rfl ic0 ?_
      refine V_ireturn C dX4_shorten_42 rfl (by decide) (by omega) (by omega) ?_
      exact ⟨0, f, rfl, rfl, (up_id hof).symm, fun t ht => by rw [rlx_id hc]; exact hE t ht, Or.inl ⟨rfl, hc⟩⟩

theorem dX4_spreadFrom_0 : decode cX4_spreadFrom 0 = .ok (.aload_n 0, 1) := by decide +kernel
theorem dX4_spreadFrom_1 : decode cX4_spreadFrom 1 = .ok (.iload_n 2, 1) := by decide +kernel
theorem dX4_spreadFrom_2 : decode cX4_spreadFrom 2 = .ok (.invokevirtual 27, 3) := by decide +kernel
theorem dX4_spreadFrom_5 : decode cX4_spreadFrom 5 = .ok (.iconst 0, 1) := by decide +kernel
theorem dX4_spreadFrom_6 : decode cX4_spreadFrom 6 = .ok (.istore_n 3, 1) := by decide +kernel
theorem dX4_spreadFrom_7 : decode cX4_spreadFrom 7 = .ok (.iload_n 3, 1) := by decide +kernel
theorem dX4_spreadFrom_8 : decode cX4_spreadFrom 8 = .ok (.bipush 6, 2) := by decide +kernel
theorem dX4_spreadFrom_10 : decode cX4_spreadFrom 10 = .ok (.if_icmp .ge 16, 3) := by decide +kernel
theorem dX4_spreadFrom_13 : decode cX4_spreadFrom 13 = .ok (.aload_n 0, 1) := by decide +kernel
theorem dX4_spreadFrom_14 : decode cX4_spreadFrom 14 = .ok (.getfield 15, 3) := by decide +kernel
theorem dX4_spreadFrom_17 : decode cX4_spreadFrom 17 = .ok (.iload_n 3, 1) := by decide +kernel
theorem dX4_spreadFrom_18 : decode cX4_spreadFrom 18 = .ok (.iconst 0, 1) := by decide +kernel
theorem dX4_spreadFrom_19 : decode cX4_spreadFrom 19 = .ok (.bastore, 1) := by decide +kernel
theorem dX4_spreadFrom_20 : decode cX4_spreadFrom 20 = .ok (.iinc 3 1, 3) := by decide +kernel
theorem dX4_spreadFrom_23 : decode cX4_spreadFrom 23 = .ok (.goto (-16), 3) := by decide +kernel
theorem dX4_spreadFrom_26 : decode cX4_spreadFrom 26 = .ok (.iload_n 2, 1) := by decide +kernel
theorem dX4_spreadFrom_27 : decode cX4_spreadFrom 27 = .ok (.istore_n 3, 1) := by decide +kernel
theorem dX4_spreadFrom_28 : decode cX4_spreadFrom 28 = .ok (.iconst 0, 1) := by decide +kernel
theorem dX4_spreadFrom_29 : decode cX4_spreadFrom 29 = .ok (.istore 4, 2) := by decide +kernel
theorem dX4_spreadFrom_31 : decode cX4_spreadFrom 31 = .ok (.iload 4, 2) := by decide +kernel
theorem dX4_spreadFrom_33 : decode cX4_spreadFrom 33 = .ok (.bipush 6, 2) := by decide +kernel
theorem dX4_spreadFrom_35 : decode cX4_spreadFrom 35 = .ok (.if_icmp .ge 71, 3) := by decide +kernel
theorem dX4_spreadFrom_38 : decode cX4_spreadFrom 38 = .ok (.iload_n 3, 1) := by decide +kernel
theorem dX4_spreadFrom_39 : decode cX4_spreadFrom 39 = .ok (.iconst (-1), 1) := by decide +kernel
theorem dX4_spreadFrom_40 : decode cX4_spreadFrom 40 = .ok (.if_icmp .eq 66, 3) := by decide +kernel
theorem dX4_spreadFrom_43 : decode cX4_spreadFrom 43 = .ok (.aload_n 0, 1) := by decide +kernel
theorem dX4_spreadFrom_44 : decode cX4_spreadFrom 44 = .ok (.getfield 15, 3) := by decide +kernel
theorem dX4_spreadFrom_47 : decode cX4_spreadFrom 47 = .ok (.iload_n 3, 1) := by decide +kernel
theorem dX4_spreadFrom_48 : decode cX4_spreadFrom 48 = .ok (.iconst 1, 1) := by decide +kernel
theorem dX4_spreadFrom_49 : decode cX4_spreadFrom 49 = .ok (.bastore, 1) := by decide +kernel
theorem dX4_spreadFrom_50 : decode cX4_spreadFrom 50 = .ok (.iconst 0, 1) := by decide +kernel
theorem dX4_spreadFrom_51 : decode cX4_spreadFrom 51 = .ok (.istore 5, 2) := by decide +kernel
theorem dX4_spreadFrom_53 : decode cX4_spreadFrom 53 = .ok (.iload 5, 2) := by decide +kernel
theorem dX4_spreadFrom_55 : decode cX4_spreadFrom 55 = .ok (.aload_n 1, 1) := by decide +kernel
theorem dX4_spreadFrom_56 : decode cX4_spreadFrom 56 = .ok (.getfield 31, 3) := by decide +kernel
theorem dX4_spreadFrom_59 : decode cX4_spreadFrom 59 = .ok (.if_icmp .ge 36, 3) := by decide +kernel
theorem dX4_spreadFrom_62 : decode cX4_spreadFrom 62 = .ok (.aload_n 1, 1) := by decide +kernel
theorem dX4_spreadFrom_63 : decode cX4_spreadFrom 63 = .ok (.getfield 37, 3) := by decide +kernel
theorem dX4_spreadFrom_66 : decode cX4_spreadFrom 66 = .ok (.iload 5, 2) := by decide +kernel
theorem dX4_spreadFrom_68 : decode cX4_spreadFrom 68 = .ok (.aaload, 1) := by decide +kernel
theorem dX4_spreadFrom_69 : decode cX4_spreadFrom 69 = .ok (.iload_n 3, 1) := by decide +kernel
theorem dX4_spreadFrom_70 : decode cX4_spreadFrom 70 = .ok (.invokevirtual 54, 3) := by decide +kernel
theorem dX4_spreadFrom_73 : decode cX4_spreadFrom 73 = .ok (.ifCond .eq 16, 3) := by decide +kernel
theorem dX4_spreadFrom_76 : decode cX4_spreadFrom 76 = .ok (.aload_n 0, 1) := by decide +kernel
theorem dX4_spreadFrom_77 : decode cX4_spreadFrom 77 = .ok (.iload_n 3, 1) := by decide +kernel
theorem dX4_spreadFrom_78 : decode cX4_spreadFrom 78 = .ok (.aload_n 1, 1) := by decide +kernel
theorem dX4_spreadFrom_79 : decode cX4_spreadFrom 79 = .ok (.getfield 37, 3) := by decide +kernel
theorem dX4_spreadFrom_82 : decode cX4_spreadFrom 82 = .ok (.iload 5, 2) := by decide +kernel
theorem dX4_spreadFrom_84 : decode cX4_spreadFrom 84 = .ok (.aaload, 1) := by decide +kernel
theorem dX4_spreadFrom_85 : decode cX4_spreadFrom 85 = .ok (.invokevirtual 46, 3) := by decide +kernel
theorem dX4_spreadFrom_88 : decode cX4_spreadFrom 88 = .ok (.pop, 1) := by decide +kernel
theorem dX4_spreadFrom_89 : decode cX4_spreadFrom 89 = .ok (.iinc 5 1, 3) := by decide +kernel
theorem dX4_spreadFrom_92 : decode cX4_spreadFrom 92 = .ok (.goto (-39), 3) := by decide +kernel
theorem dX4_spreadFrom_95 : decode cX4_spreadFrom 95 = .ok (.aload_n 0, 1) := by decide +kernel
theorem dX4_spreadFrom_96 : decode cX4_spreadFrom 96 = .ok (.invokevirtual 64, 3) := by decide +kernel
theorem dX4_spreadFrom_99 : decode cX4_spreadFrom 99 = .ok (.istore_n 3, 1) := by decide +kernel
theorem dX4_spreadFrom_100 : decode cX4_spreadFrom 100 = .ok (.iinc 4 1, 3) := by decide +kernel
theorem dX4_spreadFrom_103 : decode cX4_spreadFrom 103 = .ok (.goto (-72), 3) := by decide +kernel
theorem dX4_spreadFrom_106 : decode cX4_spreadFrom 106 = .ok (.return_, 1) := by decide +kernel
set_option maxRecDepth 100000 in
set_option maxHeartbeats 4000000 in
theorem c_X4_spreadFrom (l : Launch) (G : GT) (n : Nat) (h : AH) (p : Nat) (f g : Nat → Int32) (hP : pln p f g h) (q : Nat) (y : Nat → Nat) (hC : cty q y h) (hI : Iv y) (hd : q + 32 ≤ p ∨ p + 3 ≤ q) (a : Nat) (ha : a < 6) : Ct l yX4_spreadFrom cX4_spreadFrom 6 none 3 0 0 G n h [.ref p, .ref q, .int (nI a)] (Rv n (fun h' => ∃ f' g', h' = up (up h (p + 1) (ra f')) (p + 2) (rb g') ∧ ∀ t, t < 6 → f' t = nI (dst y a t))) := by
  obtain ⟨hop, hof, hog⟩ := id hP
  have FE := FAR_eq
  have NE := NO_eq
  obtain ⟨⟨i0, i1, i2, i3, i4⟩, iR, iU, iM, iS⟩ := id hI
  have hRd := Rds_Iv hI
  refine Ct_of mX4_spreadFrom.1 (Nat.le_of_ble_eq_true rfl) ?_
  intro p₀ e₀ s₀ m₀ as₀ bl₀ me₀ c₀ C hin
  refine V_Le (L' := [(0, .ref p), (1, .ref q), (2, .int (nI a))]) rfl ?_
  refine V_aload_n 1 C dX4_spreadFrom_0 rfl rfl ?_
  refine V_iload_n 2 C dX4_spreadFrom_1 rfl rfl ?_
  refine V_callV 5 C dX4_spreadFrom_2 rfl mX4_startAt tw782 fcX4 hop (c_X4_startAt l G _ _ p f g hP a ha) rfl rfl (by decide) ⟨by omega, by omega⟩ (Nat.le_of_ble_eq_true rfl) ?_
  rintro _ _ _ ⟨rfl, rfl, f0, rfl, hf0⟩
  refine V_iconst 6 C dX4_spreadFrom_5 rfl ic0 ?_
  refine V_istore_n 7 C dX4_spreadFrom_6 rfl (by decide) (L' := [(0, _), (1, _), (2, _), (3, _)]) rfl ?_
  have J7 : ∀ (fuel : Nat) (i : Nat) (g1 : Nat → Int32) (hi : i ≤ 6) (hg1 : ∀ t, t < i → g1 t = nI 0), 6 - i < fuel → V p₀ l e₀ (rmD 3 0 0) s₀ m₀ as₀ bl₀ me₀ c₀ (MQ bl₀ (Po G (Rv n (fun h' => ∃ f' g', h' = up (up h (p + 1) (ra f')) (p + 2) (rb g') ∧ ∀ t, t < 6 → f' t = nI (dst y a t)))) as₀ s₀ 0 0 (rg G)) G 6 0 0 n (up (up h (p + 1) (ra f0)) (p + 2) (rb g1)) 7 [(0, .ref p), (1, .ref q), (2, .int (nI a)), (3, .int (nI i))] [] := by
    intro fuel
    induction fuel with
    | zero => intro i g1 hi hg1 hf; omega
    | succ fuel ih7 =>
      intro i g1 hi hg1 hf
      have hop1 : (up (up h (p + 1) (ra f0)) (p + 2) (rb g1)) p = _ := ((up_n _ (by omega)).trans (up_n _ (by omega))).trans hop
      refine V_iload_n 8 C dX4_spreadFrom_7 rfl rfl ?_
      refine V_bipush 10 C dX4_spreadFrom_8 rfl bip6 ?_
      refine V_icmp_geN 26 13 C dX4_spreadFrom_10 (by decide) rfl (by omega) (by omega) (fun c10 => ?_) (fun c10 => ?_)
      · refine V_iload_n 27 C dX4_spreadFrom_26 rfl rfl ?_
        refine V_istore_n 28 C dX4_spreadFrom_27 rfl (by decide) (L' := [(0, _), (1, _), (2, _), (3, _)]) rfl ?_
        refine V_iconst 29 C dX4_spreadFrom_28 rfl ic0 ?_
        refine V_istore 31 C dX4_spreadFrom_29 rfl (by decide) (L' := [(0, _), (1, _), (2, _), (3, _), (4, _)]) rfl ?_
        have J31 : ∀ (fuel : Nat) (k fr : Nat) (E : Nat → Nat) (L : Nat → Bool) (f1 g1 : Nat → Int32) (hk : k ≤ 6) (hU : Up y a (200 * k) E) (hle : ∀ t, t < 6 → E t ≤ FAR) (hD : Dj y a L E) (hcn : cnk L 6 = k) (hfr : So E L 6 fr) (hf1 : ∀ t, t < 6 → f1 t = nI (E t)) (hg1 : ∀ t, t < 6 → g1 t = nI ((L t).toNat)), 6 - k < fuel → V p₀ l e₀ (rmD 3 0 0) s₀ m₀ as₀ bl₀ me₀ c₀ (MQ bl₀ (Po G (Rv n (fun h' => ∃ f' g', h' = up (up h (p + 1) (ra f')) (p + 2) (rb g') ∧ ∀ t, t < 6 → f' t = nI (dst y a t)))) as₀ s₀ 0 0 (rg G)) G 6 0 0 n (up (up h (p + 1) (ra f1)) (p + 2) (rb g1)) 31 [(0, .ref p), (1, .ref q), (3, .int (nI fr)), (4, .int (nI k))] [] := by
          intro fuel
          induction fuel with
          | zero => intro k fr E L f1 g1 hk hU hle hD hcn hfr hf1 hg1 hf; omega
          | succ fuel ih31 =>
            intro k fr E L f1 g1 hk hU hle hD hcn hfr hf1 hg1 hf
            have hPA : pln p f1 (g1) (up (up h (p + 1) (ra f1)) (p + 2) (rb g1)) := ⟨by rw [up_n _ (by omega), up_n _ (by omega)]; exact hop, by rw [up_n _ (by omega)]; exact up_s _ _ _, up_s _ _ _⟩
            obtain ⟨hopA, hofA, hogA⟩ := id hPA
            have hCA : cty q y (up (up h (p + 1) (ra f1)) (p + 2) (rb g1)) := hC.fr (fun b g1 g2 => by rw [up_n _ (by omega), up_n _ (by omega)])
            obtain ⟨hobA, ⟨fRA, hfRA, hRA⟩, -, -, -, -, -, -⟩ := id hCA
            have hfb := So_b hfr
            refine V_iload 33 C dX4_spreadFrom_31 rfl rfl ?_
            refine V_bipush 35 C dX4_spreadFrom_33 rfl bip6 ?_
            refine V_icmp_geN 106 38 C dX4_spreadFrom_35 (by decide) rfl (by omega) (by omega) (fun c35 => ?_) (fun c35 => ?_)
            · have hfin : ∀ t, t < 6 → E t = dst y a t := fun t ht => (hD.dn t ht (cnk_all 6 (by omega) t ht)).1
              refine V_return C dX4_spreadFrom_106 rfl (by omega) (by omega) ?_
              exact ⟨rfl, rfl, f1, g1, rfl, fun t ht => by rw [hf1 t ht, hfin t ht]⟩
            · refine V_iload_n 39 C dX4_spreadFrom_38 rfl rfl ?_
              refine V_iconst 40 C dX4_spreadFrom_39 rfl icm1 ?_
              refine V_icmp_eqN 106 43 C dX4_spreadFrom_40 (by decide) rfl (by omega) (by omega) (fun c40 => ?_) (fun c40 => ?_)
              · have hfin : ∀ t, t < 6 → E t = dst y a t := hD.all hRd hU ha hle (fun t ht hT => by
                  rcases hfr with ⟨-, e2⟩ | ⟨e1, -⟩
                  · have := e2 t ht hT; have := hle t ht; omega
                  · omega)
                refine V_return C dX4_spreadFrom_106 rfl (by omega) (by omega) ?_
                exact ⟨rfl, rfl, f1, g1, rfl, fun t ht => by rw [hf1 t ht, hfin t ht]⟩
              · have hf6 : fr < 6 := by omega
                obtain ⟨hLf, hEF, hmin⟩ : L fr = false ∧ E fr < FAR ∧ ∀ t, t < 6 → L t = false → E fr ≤ E t := by
                  rcases hfr with ⟨e1, -⟩ | ⟨-, e2⟩
                  · omega
                  · exact e2
                have hEf : E fr = dst y a fr := hD.near hRd hU ha hf6 hLf hEF hmin
                have hg2 : ∀ t, t < 6 → upd g1 fr (nI 1) t = nI ((set1 L fr t).toNat) := fun t ht => by
                  by_cases e : t = fr
                  · rw [e, pk_us, set1_s]; rfl
                  · rw [pk_un e, set1_n e]; exact hg1 t ht
                refine V_aload_n 44 C dX4_spreadFrom_43 rfl rfl ?_
                refine V_get (k := 1) 47 C dX4_spreadFrom_44 rfl fcX4 tw198 (by decide) rfl hopA rfl ?_
                refine V_iload_n 48 C dX4_spreadFrom_47 rfl rfl ?_
                refine V_iconst 49 C dX4_spreadFrom_48 rfl ic1 ?_
                refine V_zast (j := fr) 50 C dX4_spreadFrom_49 rfl (up_s _ _ _) rfl (by omega) (by omega) ?_
                rw [up_up, show vp_nar .boolean (nI 1) = nI 1 from by decide]
                refine V_iconst 51 C dX4_spreadFrom_50 rfl ic0 ?_
                refine V_istore 53 C dX4_spreadFrom_51 rfl (by decide) (L' := [(0, _), (1, _), (3, _), (4, _), (5, _)]) rfl ?_
                have J53 : ∀ (fuel : Nat) (j : Nat) (E1 : Nat → Nat) (f2 : Nat → Int32) (hj : j ≤ y 1) (hU1 : Up y a (200 * k + 20 * j) E1) (hle1 : ∀ t, t < 6 → E1 t ≤ FAR) (hK : Dk y a fr j (set1 L fr) E1) (hf2 : ∀ t, t < 6 → f2 t = nI (E1 t)), y 1 - j < fuel → V p₀ l e₀ (rmD 3 0 0) s₀ m₀ as₀ bl₀ me₀ c₀ (MQ bl₀ (Po G (Rv n (fun h' => ∃ f' g', h' = up (up h (p + 1) (ra f')) (p + 2) (rb g') ∧ ∀ t, t < 6 → f' t = nI (dst y a t)))) as₀ s₀ 0 0 (rg G)) G 6 0 0 n (up (up h (p + 1) (ra f2)) (p + 2) (rb (upd g1 fr (nI 1)))) 53 [(0, .ref p), (1, .ref q), (3, .int (nI fr)), (4, .int (nI k)), (5, .int (nI j))] [] := by
                  intro fuel
                  induction fuel with
                  | zero => intro j E1 f2 hj hU1 hle1 hK hf2 hf; omega
                  | succ fuel ih53 =>
                    intro j E1 f2 hj hU1 hle1 hK hf2 hf
                    have hPB : pln p f2 ((upd g1 fr (nI 1))) (up (up h (p + 1) (ra f2)) (p + 2) (rb (upd g1 fr (nI 1)))) := ⟨by rw [up_n _ (by omega), up_n _ (by omega)]; exact hop, by rw [up_n _ (by omega)]; exact up_s _ _ _, up_s _ _ _⟩
                    obtain ⟨hopB, hofB, hogB⟩ := id hPB
                    have hCB : cty q y (up (up h (p + 1) (ra f2)) (p + 2) (rb (upd g1 fr (nI 1)))) := hC.fr (fun b g1 g2 => by rw [up_n _ (by omega), up_n _ (by omega)])
                    obtain ⟨hobB, ⟨fRB, hfRB, hRB⟩, -, -, -, -, -, -⟩ := id hCB
                    refine V_iload 55 C dX4_spreadFrom_53 rfl rfl ?_
                    refine V_aload_n 56 C dX4_spreadFrom_55 rfl rfl ?_
                    refine V_get (k := 1) 59 C dX4_spreadFrom_56 rfl fcX1 tw125 (by decide) rfl hobB rfl ?_
                    refine V_icmp_geN 95 62 C dX4_spreadFrom_59 (by decide) rfl (by omega) (by omega) (fun c59 => ?_) (fun c59 => ?_)
                    · refine V_aload_n 96 C dX4_spreadFrom_95 rfl rfl ?_
                      refine V_callV 99 C dX4_spreadFrom_96 rfl mX4_soonestOpen tw793 fcX4 hopB (c_X4_soonestOpen l G _ _ p f2 (upd g1 fr (nI 1)) hPB E1 hf2 hle1 (set1 L fr) hg2) rfl rfl (by decide) ⟨by omega, by omega⟩ (Nat.le_of_ble_eq_true rfl) ?_
                      rintro _ _ _ ⟨r, rfl, rfl, rfl, hr⟩
                      refine V_istore_n 100 C dX4_spreadFrom_99 rfl (by decide) (L' := [(0, _), (1, _), (3, _), (4, _), (5, _)]) rfl ?_
                      refine V_iinc 103 C dX4_spreadFrom_100 rfl (by decide) rfl (ii1 _) (L' := [(0, _), (1, _), (3, _), (4, _), (5, _)]) rfl ?_
                      refine V_goto 31 C dX4_spreadFrom_103 (by decide) ?_
                      refine V_L [0, 1, 3, 4] rfl ?_
                      exact ih31 (k + 1) r E1 (set1 L fr) f2 (upd g1 fr (nI 1)) (by omega) (hU1.mono (by omega)) hle1 (Dk_end (by rw [show y 1 = j from by omega]; exact hK)) (by rw [cnk_set hLf 6, hcn, bp_t hf6]) hr hf2 hg2 (by omega)
                    · refine V_aload_n 63 C dX4_spreadFrom_62 rfl rfl ?_
                      refine V_get (k := 7) 66 C dX4_spreadFrom_63 rfl fcX1 tw138 (by decide) rfl hobB rfl ?_
                      refine V_iload 68 C dX4_spreadFrom_66 rfl rfl ?_
                      refine V_aald (j := j) 69 C dX4_spreadFrom_68 rfl hfRB rfl rfl (by omega) (by omega) (hRB _ (by omega)) ?_
                      refine V_iload_n 70 C dX4_spreadFrom_69 rfl rfl ?_
                      have hjl : j < y 1 := by omega
                      obtain ⟨r0, r1, r2, r3, r4⟩ := iR j hjl
                      have hrd := cty_rd hCB hjl i1
                      refine V_callV 73 C dX4_spreadFrom_70 rfl mX5_touches tw787 fcX5 hrd (c_X5_touches l G _ _ _ _ _ _ hrd fr (by omega) (by omega) (by omega)) rfl rfl (by decide) ⟨by omega, by omega⟩ (Nat.le_of_ble_eq_true rfl) ?_
                      rintro _ _ _ ⟨rfl, rfl, rfl⟩
                      refine V_if_eqB 89 76 C dX4_spreadFrom_73 (by decide) rfl  (fun c73 => ?_) (fun c73 => ?_)
                      · have nU : Up y a (200 * k + 20 * (j + 1)) E1 := hU1.mono (by omega)
                        have nl := hle1
                        have nK := Dk_n hK (dir_no c73)
                        have nf := hf2
                        refine V_iinc 92 C dX4_spreadFrom_89 rfl (by decide) rfl (ii1 _) (L' := [(0, _), (1, _), (3, _), (4, _), (5, _)]) rfl ?_
                        refine V_goto 53 C dX4_spreadFrom_92 (by decide) ?_
                        refine V_L [0, 1, 3, 4, 5] rfl ?_
                        exact ih53 (j + 1) _ _ (by omega) nU nl nK nf (by omega)
                      · obtain ⟨d, hd1, hd2⟩ := dir_of c73
                        have ht6 := hRd.b j d hjl
                        refine V_aload_n 77 C dX4_spreadFrom_76 rfl rfl ?_
                        refine V_iload_n 78 C dX4_spreadFrom_77 rfl rfl ?_
                        refine V_aload_n 79 C dX4_spreadFrom_78 rfl rfl ?_
                        refine V_get (k := 7) 82 C dX4_spreadFrom_79 rfl fcX1 tw138 (by decide) rfl hobB rfl ?_
                        refine V_iload 84 C dX4_spreadFrom_82 rfl rfl ?_
                        refine V_aald (j := j) 85 C dX4_spreadFrom_84 rfl hfRB rfl rfl (by omega) (by omega) (hRB _ (by omega)) ?_
                        refine V_callV 88 C dX4_spreadFrom_85 rfl mX4_shorten tw788 fcX4 hopB (c_X4_shorten l G _ _ p f2 (upd g1 fr (nI 1)) hPB E1 hf2 hle1 fr (q + 2 + j) _ _ _ (rdb y j d) hrd hf6 (by omega) hd2 ht6 r4) rfl rfl (by decide) ⟨by omega, by omega⟩ (Nat.le_of_ble_eq_true rfl) ?_
                        rintro _ _ _ ⟨cz, f3, rfl, rfl, rfl, hf3, -⟩
                        rw [up_3 (by omega)]
                        have nU : Up y a (200 * k + 20 * (j + 1)) (rlx E1 fr (rdb y j d) (y (7 + 3 * j + 2))) := by
                          have e := hU1.rx hRd (by omega) d hjl
                          rw [hd1] at e
                          exact e
                        have nl := rlx_fl fr (rdb y j d) (y (7 + 3 * j + 2)) hle1
                        have nK : Dk y a fr (j + 1) (set1 L fr) (rlx E1 fr (rdb y j d) (y (7 + 3 * j + 2))) := by
                          have e := Dk_s hRd hU1 (by omega) hK hjl d hd1 (set1_s L fr) hf6
                          rw [hd1] at e
                          exact e
                        have nf := hf3
                        refine V_pop 89 C dX4_spreadFrom_88 rfl rfl ?_
                        refine V_iinc 92 C dX4_spreadFrom_89 rfl (by decide) rfl (ii1 _) (L' := [(0, _), (1, _), (3, _), (4, _), (5, _)]) rfl ?_
                        refine V_goto 53 C dX4_spreadFrom_92 (by decide) ?_
                        refine V_L [0, 1, 3, 4, 5] rfl ?_
                        exact ih53 (j + 1) _ _ (by omega) nU nl nK nf (by omega)
                refine V_L [0, 1, 3, 4, 5] rfl ?_
                exact J53 (y 1 + 1) 0 E f1 (by omega) (hU.mono (by omega)) hle (Dk_0 hU hD hf6 hEf (by omega)) hf1 (by omega)
        refine V_L [0, 1, 3, 4] rfl ?_
        exact J31 7 0 a (st0 a) (fun _ => false) f0 g1 (by omega) (Up_st0 ha) (fun t _ => st0_le a t) ⟨fun t _ e => (by cases e), fun j d _ e => (by cases e)⟩ rfl (So_st0 ha) hf0 (fun t ht => hg1 t (by omega)) (by omega)
      · refine V_aload_n 14 C dX4_spreadFrom_13 rfl rfl ?_
        refine V_get (k := 1) 17 C dX4_spreadFrom_14 rfl fcX4 tw198 (by decide) rfl hop1 rfl ?_
        refine V_iload_n 18 C dX4_spreadFrom_17 rfl rfl ?_
        refine V_iconst 19 C dX4_spreadFrom_18 rfl ic0 ?_
        refine V_zast (j := i) 20 C dX4_spreadFrom_19 rfl (up_s _ _ _) rfl (by omega) (by omega) ?_
        rw [up_up, show vp_nar .boolean (nI 0) = nI 0 from by decide]
        refine V_iinc 23 C dX4_spreadFrom_20 rfl (by decide) rfl (ii1 _) (L' := [(0, _), (1, _), (2, _), (3, _)]) rfl ?_
        refine V_goto 7 C dX4_spreadFrom_23 (by decide) ?_
        refine V_L [0, 1, 2, 3] rfl ?_
        exact ih7 (i + 1) _ (by omega) (upd_to hg1) (by omega)
  refine V_L [0, 1, 2, 3] rfl ?_
  have J := J7 7 0 g (by omega) (fun t ht => absurd ht (Nat.not_lt_zero _)) (by omega)
  rw [up_id (show (up h (p + 1) (ra f0)) (p + 2) = _ from (up_n _ (by omega)).trans hog)] at J
  exact J

theorem dX4_nearestFirst_0 : decode cX4_nearestFirst 0 = .ok (.aload_n 0, 1) := by decide +kernel
theorem dX4_nearestFirst_1 : decode cX4_nearestFirst 1 = .ok (.aload_n 1, 1) := by decide +kernel
theorem dX4_nearestFirst_2 : decode cX4_nearestFirst 2 = .ok (.iload_n 2, 1) := by decide +kernel
theorem dX4_nearestFirst_3 : decode cX4_nearestFirst 3 = .ok (.invokevirtual 19, 3) := by decide +kernel
theorem dX4_nearestFirst_6 : decode cX4_nearestFirst 6 = .ok (.aload_n 0, 1) := by decide +kernel
theorem dX4_nearestFirst_7 : decode cX4_nearestFirst 7 = .ok (.iload_n 3, 1) := by decide +kernel
theorem dX4_nearestFirst_8 : decode cX4_nearestFirst 8 = .ok (.invokevirtual 23, 3) := by decide +kernel
theorem dX4_nearestFirst_11 : decode cX4_nearestFirst 11 = .ok (.ireturn, 1) := by decide +kernel
set_option maxRecDepth 100000 in
set_option maxHeartbeats 4000000 in
theorem c_X4_nearestFirst (l : Launch) (G : GT) (n : Nat) (h : AH) (p : Nat) (f g : Nat → Int32) (hP : pln p f g h) (q : Nat) (y : Nat → Nat) (hC : cty q y h) (hI : Iv y) (hd : q + 32 ≤ p ∨ p + 3 ≤ q) (a b : Nat) (ha : a < 6) (hb : b < 6) : Ct l yX4_nearestFirst cX4_nearestFirst 4 (some .int) 4 0 0 G n h [.ref p, .ref q, .int (nI a), .int (nI b)] (Ri (nI (mo (dst y a b))) n (fun h' => ∃ f' g', h' = up (up h (p + 1) (ra f')) (p + 2) (rb g'))) := by
  obtain ⟨hop, hof, hog⟩ := id hP
  have FE := FAR_eq
  have NE := NO_eq
  refine Ct_of mX4_nearestFirst.1 (Nat.le_of_ble_eq_true rfl) ?_
  intro p₀ e₀ s₀ m₀ as₀ bl₀ me₀ c₀ C hin
  refine V_Le (L' := [(0, .ref p), (1, .ref q), (2, .int (nI a)), (3, .int (nI b))]) rfl ?_
  refine V_aload_n 1 C dX4_nearestFirst_0 rfl rfl ?_
  refine V_aload_n 2 C dX4_nearestFirst_1 rfl rfl ?_
  refine V_iload_n 3 C dX4_nearestFirst_2 rfl rfl ?_
  refine V_callV 6 C dX4_nearestFirst_3 rfl mX4_spreadFrom tw778 fcX4 hop (c_X4_spreadFrom l G _ _ p f g hP q y hC hI hd a ha) rfl rfl (by decide) ⟨by omega, by omega⟩ (Nat.le_of_ble_eq_true rfl) ?_
  rintro _ _ _ ⟨rfl, rfl, f1, g1, rfl, hf1⟩
  have hPA : pln p f1 g1 (up (up h (p + 1) (ra f1)) (p + 2) (rb g1)) := ⟨by rw [up_n _ (by omega), up_n _ (by omega)]; exact hop, by rw [up_n _ (by omega)]; exact up_s _ _ _, up_s _ _ _⟩
  refine V_aload_n 7 C dX4_nearestFirst_6 rfl rfl ?_
  refine V_iload_n 8 C dX4_nearestFirst_7 rfl rfl ?_
  refine V_callV 11 C dX4_nearestFirst_8 rfl mX4_hoursTo tw797 fcX4 hPA.1 (c_X4_hoursTo l G _ _ p f1 g1 hPA (dst y a b) b ((Sol_dst y a).le b) hb (hf1 b hb)) rfl rfl (by decide) ⟨by omega, by omega⟩ (Nat.le_of_ble_eq_true rfl) ?_
  rintro _ _ _ ⟨rfl, rfl, rfl⟩
  refine V_ireturn C dX4_nearestFirst_11 rfl rfl (by omega) (by omega) ?_
  exact ⟨rfl, rfl, f1, g1, rfl⟩

theorem dX4_lowestRoad_0 : decode cX4_lowestRoad 0 = .ok (.aload_n 0, 1) := by decide +kernel
theorem dX4_lowestRoad_1 : decode cX4_lowestRoad 1 = .ok (.aload_n 1, 1) := by decide +kernel
theorem dX4_lowestRoad_2 : decode cX4_lowestRoad 2 = .ok (.iload_n 3, 1) := by decide +kernel
theorem dX4_lowestRoad_3 : decode cX4_lowestRoad 3 = .ok (.invokevirtual 19, 3) := by decide +kernel
theorem dX4_lowestRoad_6 : decode cX4_lowestRoad 6 = .ok (.iload_n 2, 1) := by decide +kernel
theorem dX4_lowestRoad_7 : decode cX4_lowestRoad 7 = .ok (.iload_n 3, 1) := by decide +kernel
theorem dX4_lowestRoad_8 : decode cX4_lowestRoad 8 = .ok (.if_icmp .eq 14, 3) := by decide +kernel
theorem dX4_lowestRoad_11 : decode cX4_lowestRoad 11 = .ok (.aload_n 0, 1) := by decide +kernel
theorem dX4_lowestRoad_12 : decode cX4_lowestRoad 12 = .ok (.getfield 9, 3) := by decide +kernel
theorem dX4_lowestRoad_15 : decode cX4_lowestRoad 15 = .ok (.iload_n 2, 1) := by decide +kernel
theorem dX4_lowestRoad_16 : decode cX4_lowestRoad 16 = .ok (.iaload, 1) := by decide +kernel
theorem dX4_lowestRoad_17 : decode cX4_lowestRoad 17 = .ok (.ldc 53, 2) := by decide +kernel
theorem dX4_lowestRoad_19 : decode cX4_lowestRoad 19 = .ok (.if_icmp .ne 5, 3) := by decide +kernel
theorem dX4_lowestRoad_22 : decode cX4_lowestRoad 22 = .ok (.iconst (-1), 1) := by decide +kernel
theorem dX4_lowestRoad_23 : decode cX4_lowestRoad 23 = .ok (.ireturn, 1) := by decide +kernel
theorem dX4_lowestRoad_24 : decode cX4_lowestRoad 24 = .ok (.iconst 0, 1) := by decide +kernel
theorem dX4_lowestRoad_25 : decode cX4_lowestRoad 25 = .ok (.istore 4, 2) := by decide +kernel
theorem dX4_lowestRoad_27 : decode cX4_lowestRoad 27 = .ok (.iload 4, 2) := by decide +kernel
theorem dX4_lowestRoad_29 : decode cX4_lowestRoad 29 = .ok (.aload_n 1, 1) := by decide +kernel
theorem dX4_lowestRoad_30 : decode cX4_lowestRoad 30 = .ok (.getfield 31, 3) := by decide +kernel
theorem dX4_lowestRoad_33 : decode cX4_lowestRoad 33 = .ok (.if_icmp .ge 56, 3) := by decide +kernel
theorem dX4_lowestRoad_36 : decode cX4_lowestRoad 36 = .ok (.aload_n 1, 1) := by decide +kernel
theorem dX4_lowestRoad_37 : decode cX4_lowestRoad 37 = .ok (.getfield 37, 3) := by decide +kernel
theorem dX4_lowestRoad_40 : decode cX4_lowestRoad 40 = .ok (.iload 4, 2) := by decide +kernel
theorem dX4_lowestRoad_42 : decode cX4_lowestRoad 42 = .ok (.aaload, 1) := by decide +kernel
theorem dX4_lowestRoad_43 : decode cX4_lowestRoad 43 = .ok (.astore 5, 2) := by decide +kernel
theorem dX4_lowestRoad_45 : decode cX4_lowestRoad 45 = .ok (.aload 5, 2) := by decide +kernel
theorem dX4_lowestRoad_47 : decode cX4_lowestRoad 47 = .ok (.iload_n 2, 1) := by decide +kernel
theorem dX4_lowestRoad_48 : decode cX4_lowestRoad 48 = .ok (.invokevirtual 54, 3) := by decide +kernel
theorem dX4_lowestRoad_51 : decode cX4_lowestRoad 51 = .ok (.ifCond .eq 32, 3) := by decide +kernel
theorem dX4_lowestRoad_54 : decode cX4_lowestRoad 54 = .ok (.aload 5, 2) := by decide +kernel
theorem dX4_lowestRoad_56 : decode cX4_lowestRoad 56 = .ok (.getfield 58, 3) := by decide +kernel
theorem dX4_lowestRoad_59 : decode cX4_lowestRoad 59 = .ok (.aload_n 0, 1) := by decide +kernel
theorem dX4_lowestRoad_60 : decode cX4_lowestRoad 60 = .ok (.getfield 9, 3) := by decide +kernel
theorem dX4_lowestRoad_63 : decode cX4_lowestRoad 63 = .ok (.aload 5, 2) := by decide +kernel
theorem dX4_lowestRoad_65 : decode cX4_lowestRoad 65 = .ok (.iload_n 2, 1) := by decide +kernel
theorem dX4_lowestRoad_66 : decode cX4_lowestRoad 66 = .ok (.invokevirtual 61, 3) := by decide +kernel
theorem dX4_lowestRoad_69 : decode cX4_lowestRoad 69 = .ok (.iaload, 1) := by decide +kernel
theorem dX4_lowestRoad_70 : decode cX4_lowestRoad 70 = .ok (.iadd, 1) := by decide +kernel
theorem dX4_lowestRoad_71 : decode cX4_lowestRoad 71 = .ok (.aload_n 0, 1) := by decide +kernel
theorem dX4_lowestRoad_72 : decode cX4_lowestRoad 72 = .ok (.getfield 9, 3) := by decide +kernel
theorem dX4_lowestRoad_75 : decode cX4_lowestRoad 75 = .ok (.iload_n 2, 1) := by decide +kernel
theorem dX4_lowestRoad_76 : decode cX4_lowestRoad 76 = .ok (.iaload, 1) := by decide +kernel
theorem dX4_lowestRoad_77 : decode cX4_lowestRoad 77 = .ok (.if_icmp .ne 6, 3) := by decide +kernel
theorem dX4_lowestRoad_80 : decode cX4_lowestRoad 80 = .ok (.iload 4, 2) := by decide +kernel
theorem dX4_lowestRoad_82 : decode cX4_lowestRoad 82 = .ok (.ireturn, 1) := by decide +kernel
theorem dX4_lowestRoad_83 : decode cX4_lowestRoad 83 = .ok (.iinc 4 1, 3) := by decide +kernel
theorem dX4_lowestRoad_86 : decode cX4_lowestRoad 86 = .ok (.goto (-59), 3) := by decide +kernel
theorem dX4_lowestRoad_89 : decode cX4_lowestRoad 89 = .ok (.iconst (-1), 1) := by decide +kernel
theorem dX4_lowestRoad_90 : decode cX4_lowestRoad 90 = .ok (.ireturn, 1) := by decide +kernel
set_option maxRecDepth 100000 in
set_option maxHeartbeats 4000000 in
theorem c_X4_lowestRoad (l : Launch) (G : GT) (n : Nat) (h : AH) (p : Nat) (f g : Nat → Int32) (hP : pln p f g h) (q : Nat) (y : Nat → Nat) (hC : cty q y h) (hI : Iv y) (hd : q + 32 ≤ p ∨ p + 3 ≤ q) (a b : Nat) (ha : a < 6) (hb : b < 6) : Ct l yX4_lowestRoad cX4_lowestRoad 6 (some .int) 4 0 0 G n h [.ref p, .ref q, .int (nI a), .int (nI b)] (Ri (nI (rto y a b)) n (fun h' => ∃ f' g', h' = up (up h (p + 1) (ra f')) (p + 2) (rb g'))) := by
  obtain ⟨hop, hof, hog⟩ := id hP
  have FE := FAR_eq
  have NE := NO_eq
  obtain ⟨⟨i0, i1, i2, i3, i4⟩, iR, iU, iM, iS⟩ := id hI
  have hRd := Rds_Iv hI
  refine Ct_of mX4_lowestRoad.1 (Nat.le_of_ble_eq_true rfl) ?_
  intro p₀ e₀ s₀ m₀ as₀ bl₀ me₀ c₀ C hin
  refine V_Le (L' := [(0, .ref p), (1, .ref q), (2, .int (nI a)), (3, .int (nI b))]) rfl ?_
  refine V_aload_n 1 C dX4_lowestRoad_0 rfl rfl ?_
  refine V_aload_n 2 C dX4_lowestRoad_1 rfl rfl ?_
  refine V_iload_n 3 C dX4_lowestRoad_2 rfl rfl ?_
  refine V_callV 6 C dX4_lowestRoad_3 rfl mX4_spreadFrom tw778 fcX4 hop (c_X4_spreadFrom l G _ _ p f g hP q y hC hI hd b hb) rfl rfl (by decide) ⟨by omega, by omega⟩ (Nat.le_of_ble_eq_true rfl) ?_
  rintro _ _ _ ⟨rfl, rfl, f1, g1, rfl, hf1⟩
  have hle := (Sol_dst y b).le
  have hla := hle a
  have hPA : pln p f1 (g1) (up (up h (p + 1) (ra f1)) (p + 2) (rb g1)) := ⟨by rw [up_n _ (by omega), up_n _ (by omega)]; exact hop, by rw [up_n _ (by omega)]; exact up_s _ _ _, up_s _ _ _⟩
  obtain ⟨hopA, hofA, hogA⟩ := id hPA
  have hCA : cty q y (up (up h (p + 1) (ra f1)) (p + 2) (rb g1)) := hC.fr (fun b g1 g2 => by rw [up_n _ (by omega), up_n _ (by omega)])
  obtain ⟨hobA, ⟨fRA, hfRA, hRA⟩, -, -, -, -, -, -⟩ := id hCA
  refine V_iload_n 7 C dX4_lowestRoad_6 rfl rfl ?_
  refine V_iload_n 8 C dX4_lowestRoad_7 rfl rfl ?_
  refine V_icmp_eqN 22 11 C dX4_lowestRoad_8 (by decide) rfl (by omega) (by omega) (fun c8 => ?_) (fun c8 => ?_)
  · refine V_iconst 23 C dX4_lowestRoad_22 rfl icm1 ?_
    refine V_ireturn C dX4_lowestRoad_23 rfl rfl (by omega) (by omega) ?_
    exact ⟨by rw [rto_1 (by omega)]; rfl, rfl, f1, g1, rfl⟩
  · refine V_aload_n 12 C dX4_lowestRoad_11 rfl rfl ?_
    refine V_get (k := 0) 15 C dX4_lowestRoad_12 rfl fcX4 tw197 (by decide) rfl hopA rfl ?_
    refine V_iload_n 16 C dX4_lowestRoad_15 rfl rfl ?_
    refine V_iald (j := a) 17 C dX4_lowestRoad_16 rfl hofA rfl (by omega) (by omega) ?_
    rw [hf1 a ha]
    refine V_ldc 19 C dX4_lowestRoad_17 rfl tw786 ?_
    rw [show (1000000 : Int32) = nI 1000000 from by decide]
    refine V_icmp_neN 24 22 C dX4_lowestRoad_19 (by decide) rfl (by omega) (by omega) (fun c19 => ?_) (fun c19 => ?_)
    · refine V_iconst 25 C dX4_lowestRoad_24 rfl ic0 ?_
      refine V_istore 27 C dX4_lowestRoad_25 rfl (by decide) (L' := [(0, _), (1, _), (2, _), (3, _), (4, _)]) rfl ?_
      have J27 : ∀ (fuel : Nat) (i : Nat) (hi : i ≤ y 1) (hl : lr y a (dst y b) i (y 1 - i) = rto y a b), y 1 - i < fuel → V p₀ l e₀ (rmD 4 0 0) s₀ m₀ as₀ bl₀ me₀ c₀ (MQ bl₀ (Po G (Ri (nI (rto y a b)) n (fun h' => ∃ f' g', h' = up (up h (p + 1) (ra f')) (p + 2) (rb g')))) as₀ s₀ 0 0 (rg G)) G 6 0 0 n (up (up h (p + 1) (ra f1)) (p + 2) (rb g1)) 27 [(0, .ref p), (1, .ref q), (2, .int (nI a)), (4, .int (nI i))] [] := by
        intro fuel
        induction fuel with
        | zero => intro i hi hl hf; omega
        | succ fuel ih27 =>
          intro i hi hl hf
          refine V_iload 29 C dX4_lowestRoad_27 rfl rfl ?_
          refine V_aload_n 30 C dX4_lowestRoad_29 rfl rfl ?_
          refine V_get (k := 1) 33 C dX4_lowestRoad_30 rfl fcX1 tw125 (by decide) rfl hobA rfl ?_
          refine V_icmp_geN 89 36 C dX4_lowestRoad_33 (by decide) rfl (by omega) (by omega) (fun c33 => ?_) (fun c33 => ?_)
          · refine V_iconst 90 C dX4_lowestRoad_89 rfl icm1 ?_
            refine V_ireturn C dX4_lowestRoad_90 rfl rfl (by omega) (by omega) ?_
            exact ⟨by rw [← hl, show y 1 - i = 0 from by omega]; rfl, rfl, f1, g1, rfl⟩
          · refine V_aload_n 37 C dX4_lowestRoad_36 rfl rfl ?_
            refine V_get (k := 7) 40 C dX4_lowestRoad_37 rfl fcX1 tw138 (by decide) rfl hobA rfl ?_
            refine V_iload 42 C dX4_lowestRoad_40 rfl rfl ?_
            refine V_aald (j := i) 43 C dX4_lowestRoad_42 rfl hfRA rfl rfl (by omega) (by omega) (hRA _ (by omega)) ?_
            refine V_astore 45 C dX4_lowestRoad_43 rfl (by decide) (L' := [(0, _), (1, _), (2, _), (4, _), (5, _)]) rfl ?_
            refine V_aload 47 C dX4_lowestRoad_45 rfl rfl ?_
            refine V_iload_n 48 C dX4_lowestRoad_47 rfl rfl ?_
            have hil : i < y 1 := by omega
            obtain ⟨r0, r1, r2, r3, r4⟩ := iR i hil
            have hrd := cty_rd hCA hil i1
            refine V_callV 51 C dX4_lowestRoad_48 rfl mX5_touches tw787 fcX5 hrd (c_X5_touches l G _ _ _ _ _ _ hrd a (by omega) (by omega) (by omega)) rfl rfl (by decide) ⟨by omega, by omega⟩ (Nat.le_of_ble_eq_true rfl) ?_
            rintro _ _ _ ⟨rfl, rfl, rfl⟩
            refine V_if_eqB 83 54 C dX4_lowestRoad_51 (by decide) rfl  (fun c51 => ?_) (fun c51 => ?_)
            · have hz := (lr_f hil (by omega)).symm.trans hl
              refine V_iinc 86 C dX4_lowestRoad_83 rfl (by decide) rfl (ii1 _) (L' := [(0, _), (1, _), (2, _), (4, _), (5, _)]) rfl ?_
              refine V_goto 27 C dX4_lowestRoad_86 (by decide) ?_
              refine V_L [0, 1, 2, 4] rfl ?_
              exact ih27 (i + 1) (by omega) hz (by omega)
            · obtain ⟨d, hd1, hd2⟩ := dir_of c51
              have ht6 := hRd.b i d hil
              have hld := hle (rdb y i d)
              refine V_aload 56 C dX4_lowestRoad_54 rfl rfl ?_
              refine V_get (k := 2) 59 C dX4_lowestRoad_56 rfl fcX5 tw49 (by decide) rfl hrd rfl ?_
              refine V_aload_n 60 C dX4_lowestRoad_59 rfl rfl ?_
              refine V_get (k := 0) 63 C dX4_lowestRoad_60 rfl fcX4 tw197 (by decide) rfl hopA rfl ?_
              refine V_aload 65 C dX4_lowestRoad_63 rfl rfl ?_
              refine V_iload_n 66 C dX4_lowestRoad_65 rfl rfl ?_
              refine V_callV 69 C dX4_lowestRoad_66 rfl mX5_otherEnd tw792 fcX5 hrd (c_X5_otherEnd l G _ _ _ _ _ _ hrd a (by omega) (by omega)) rfl rfl (by decide) ⟨by omega, by omega⟩ (Nat.le_of_ble_eq_true rfl) ?_
              rintro _ _ _ ⟨rfl, rfl, rfl⟩
              rw [hd2]
              refine V_iald (j := rdb y i d) 70 C dX4_lowestRoad_69 rfl hofA rfl (by omega) (by omega) ?_
              rw [hf1 _ ht6]
              refine V_iaddN 71 C dX4_lowestRoad_70 rfl  ?_
              refine V_aload_n 72 C dX4_lowestRoad_71 rfl rfl ?_
              refine V_get (k := 0) 75 C dX4_lowestRoad_72 rfl fcX4 tw197 (by decide) rfl hopA rfl ?_
              refine V_iload_n 76 C dX4_lowestRoad_75 rfl rfl ?_
              refine V_iald (j := a) 77 C dX4_lowestRoad_76 rfl hofA rfl (by omega) (by omega) ?_
              rw [hf1 a ha]
              refine V_icmp_neN 83 80 C dX4_lowestRoad_77 (by decide) rfl (by omega) (by omega) (fun c77 => ?_) (fun c77 => ?_)
              · have hz := (lr_f (y := y) (a := a) (D := dst y b) hil (by cases d <;> simp only [rda, rdb] at hd1 c77 <;> omega)).symm.trans hl
                refine V_iinc 86 C dX4_lowestRoad_83 rfl (by decide) rfl (ii1 _) (L' := [(0, _), (1, _), (2, _), (4, _), (5, _)]) rfl ?_
                refine V_goto 27 C dX4_lowestRoad_86 (by decide) ?_
                refine V_L [0, 1, 2, 4] rfl ?_
                exact ih27 (i + 1) (by omega) hz (by omega)
              · have hz : i = rto y a b := (lr_t (y := y) (a := a) (D := dst y b) hil (by cases d <;> simp only [rda, rdb] at hd1 c77 <;> omega)).symm.trans hl
                refine V_iload 82 C dX4_lowestRoad_80 rfl rfl ?_
                refine V_ireturn C dX4_lowestRoad_82 rfl rfl (by omega) (by omega) ?_
                exact ⟨by rw [← hz], rfl, f1, g1, rfl⟩
      refine V_L [0, 1, 2, 4] rfl ?_
      exact J27 (y 1 + 1) 0 (by omega) (rto_2 (by omega)).symm (by omega)
    · refine V_iconst 23 C dX4_lowestRoad_22 rfl icm1 ?_
      refine V_ireturn C dX4_lowestRoad_23 rfl rfl (by omega) (by omega) ?_
      exact ⟨by rw [rto_1 (by omega)]; rfl, rfl, f1, g1, rfl⟩

theorem dX4_roundByRound_0 : decode cX4_roundByRound 0 = .ok (.aload_n 0, 1) := by decide +kernel
theorem dX4_roundByRound_1 : decode cX4_roundByRound 1 = .ok (.iload_n 2, 1) := by decide +kernel
theorem dX4_roundByRound_2 : decode cX4_roundByRound 2 = .ok (.invokevirtual 27, 3) := by decide +kernel
theorem dX4_roundByRound_5 : decode cX4_roundByRound 5 = .ok (.iconst 1, 1) := by decide +kernel
theorem dX4_roundByRound_6 : decode cX4_roundByRound 6 = .ok (.istore 4, 2) := by decide +kernel
theorem dX4_roundByRound_8 : decode cX4_roundByRound 8 = .ok (.iconst 0, 1) := by decide +kernel
theorem dX4_roundByRound_9 : decode cX4_roundByRound 9 = .ok (.istore 5, 2) := by decide +kernel
theorem dX4_roundByRound_11 : decode cX4_roundByRound 11 = .ok (.iload 4, 2) := by decide +kernel
theorem dX4_roundByRound_13 : decode cX4_roundByRound 13 = .ok (.ifCond .eq 94, 3) := by decide +kernel
theorem dX4_roundByRound_16 : decode cX4_roundByRound 16 = .ok (.iload 5, 2) := by decide +kernel
theorem dX4_roundByRound_18 : decode cX4_roundByRound 18 = .ok (.bipush 6, 2) := by decide +kernel
theorem dX4_roundByRound_20 : decode cX4_roundByRound 20 = .ok (.if_icmp .gt 87, 3) := by decide +kernel
theorem dX4_roundByRound_23 : decode cX4_roundByRound 23 = .ok (.iconst 0, 1) := by decide +kernel
theorem dX4_roundByRound_24 : decode cX4_roundByRound 24 = .ok (.istore 4, 2) := by decide +kernel
theorem dX4_roundByRound_26 : decode cX4_roundByRound 26 = .ok (.iconst 0, 1) := by decide +kernel
theorem dX4_roundByRound_27 : decode cX4_roundByRound 27 = .ok (.istore 6, 2) := by decide +kernel
theorem dX4_roundByRound_29 : decode cX4_roundByRound 29 = .ok (.iload 6, 2) := by decide +kernel
theorem dX4_roundByRound_31 : decode cX4_roundByRound 31 = .ok (.aload_n 1, 1) := by decide +kernel
theorem dX4_roundByRound_32 : decode cX4_roundByRound 32 = .ok (.getfield 31, 3) := by decide +kernel
theorem dX4_roundByRound_35 : decode cX4_roundByRound 35 = .ok (.if_icmp .ge 66, 3) := by decide +kernel
theorem dX4_roundByRound_38 : decode cX4_roundByRound 38 = .ok (.aload_n 1, 1) := by decide +kernel
theorem dX4_roundByRound_39 : decode cX4_roundByRound 39 = .ok (.getfield 37, 3) := by decide +kernel
theorem dX4_roundByRound_42 : decode cX4_roundByRound 42 = .ok (.iload 6, 2) := by decide +kernel
theorem dX4_roundByRound_44 : decode cX4_roundByRound 44 = .ok (.aaload, 1) := by decide +kernel
theorem dX4_roundByRound_45 : decode cX4_roundByRound 45 = .ok (.astore 7, 2) := by decide +kernel
theorem dX4_roundByRound_47 : decode cX4_roundByRound 47 = .ok (.aload_n 0, 1) := by decide +kernel
theorem dX4_roundByRound_48 : decode cX4_roundByRound 48 = .ok (.aload 7, 2) := by decide +kernel
theorem dX4_roundByRound_50 : decode cX4_roundByRound 50 = .ok (.getfield 41, 3) := by decide +kernel
theorem dX4_roundByRound_53 : decode cX4_roundByRound 53 = .ok (.aload 7, 2) := by decide +kernel
theorem dX4_roundByRound_55 : decode cX4_roundByRound 55 = .ok (.invokevirtual 46, 3) := by decide +kernel
theorem dX4_roundByRound_58 : decode cX4_roundByRound 58 = .ok (.istore 8, 2) := by decide +kernel
theorem dX4_roundByRound_60 : decode cX4_roundByRound 60 = .ok (.aload_n 0, 1) := by decide +kernel
theorem dX4_roundByRound_61 : decode cX4_roundByRound 61 = .ok (.aload 7, 2) := by decide +kernel
theorem dX4_roundByRound_63 : decode cX4_roundByRound 63 = .ok (.getfield 50, 3) := by decide +kernel
theorem dX4_roundByRound_66 : decode cX4_roundByRound 66 = .ok (.aload 7, 2) := by decide +kernel
theorem dX4_roundByRound_68 : decode cX4_roundByRound 68 = .ok (.invokevirtual 46, 3) := by decide +kernel
theorem dX4_roundByRound_71 : decode cX4_roundByRound 71 = .ok (.istore 9, 2) := by decide +kernel
theorem dX4_roundByRound_73 : decode cX4_roundByRound 73 = .ok (.iload 4, 2) := by decide +kernel
theorem dX4_roundByRound_75 : decode cX4_roundByRound 75 = .ok (.ifCond .ne 13, 3) := by decide +kernel
theorem dX4_roundByRound_78 : decode cX4_roundByRound 78 = .ok (.iload 8, 2) := by decide +kernel
theorem dX4_roundByRound_80 : decode cX4_roundByRound 80 = .ok (.ifCond .ne 8, 3) := by decide +kernel
theorem dX4_roundByRound_83 : decode cX4_roundByRound 83 = .ok (.iload 9, 2) := by decide +kernel
theorem dX4_roundByRound_85 : decode cX4_roundByRound 85 = .ok (.ifCond .eq 7, 3) := by decide +kernel
theorem dX4_roundByRound_88 : decode cX4_roundByRound 88 = .ok (.iconst 1, 1) := by decide +kernel
theorem dX4_roundByRound_89 : decode cX4_roundByRound 89 = .ok (.goto 4, 3) := by decide +kernel
theorem dX4_roundByRound_92 : decode cX4_roundByRound 92 = .ok (.iconst 0, 1) := by decide +kernel
theorem dX4_roundByRound_93 : decode cX4_roundByRound 93 = .ok (.istore 4, 2) := by decide +kernel
theorem dX4_roundByRound_95 : decode cX4_roundByRound 95 = .ok (.iinc 6 1, 3) := by decide +kernel
theorem dX4_roundByRound_98 : decode cX4_roundByRound 98 = .ok (.goto (-69), 3) := by decide +kernel
theorem dX4_roundByRound_101 : decode cX4_roundByRound 101 = .ok (.iinc 5 1, 3) := by decide +kernel
theorem dX4_roundByRound_104 : decode cX4_roundByRound 104 = .ok (.goto (-93), 3) := by decide +kernel
theorem dX4_roundByRound_107 : decode cX4_roundByRound 107 = .ok (.aload_n 0, 1) := by decide +kernel
theorem dX4_roundByRound_108 : decode cX4_roundByRound 108 = .ok (.iload_n 3, 1) := by decide +kernel
theorem dX4_roundByRound_109 : decode cX4_roundByRound 109 = .ok (.invokevirtual 23, 3) := by decide +kernel
theorem dX4_roundByRound_112 : decode cX4_roundByRound 112 = .ok (.ireturn, 1) := by decide +kernel
set_option maxRecDepth 100000 in
set_option maxHeartbeats 4000000 in
theorem c_X4_roundByRound (l : Launch) (G : GT) (n : Nat) (h : AH) (p : Nat) (f g : Nat → Int32) (hP : pln p f g h) (q : Nat) (y : Nat → Nat) (hC : cty q y h) (hI : Iv y) (hd : q + 32 ≤ p ∨ p + 3 ≤ q) (a b : Nat) (ha : a < 6) (hb : b < 6) : Ct l yX4_roundByRound cX4_roundByRound 10 (some .int) 4 0 0 G n h [.ref p, .ref q, .int (nI a), .int (nI b)] (Ri (nI (mo (dst y a b))) n (fun h' => ∃ f' g', h' = up (up h (p + 1) (ra f')) (p + 2) (rb g'))) := by
  obtain ⟨hop, hof, hog⟩ := id hP
  have FE := FAR_eq
  have NE := NO_eq
  obtain ⟨⟨i0, i1, i2, i3, i4⟩, iR, iU, iM, iS⟩ := id hI
  have hRd := Rds_Iv hI
  refine Ct_of mX4_roundByRound.1 (Nat.le_of_ble_eq_true rfl) ?_
  intro p₀ e₀ s₀ m₀ as₀ bl₀ me₀ c₀ C hin
  refine V_Le (L' := [(0, .ref p), (1, .ref q), (2, .int (nI a)), (3, .int (nI b))]) rfl ?_
  refine V_aload_n 1 C dX4_roundByRound_0 rfl rfl ?_
  refine V_iload_n 2 C dX4_roundByRound_1 rfl rfl ?_
  refine V_callV 5 C dX4_roundByRound_2 rfl mX4_startAt tw782 fcX4 hop (c_X4_startAt l G _ _ p f g hP a ha) rfl rfl (by decide) ⟨by omega, by omega⟩ (Nat.le_of_ble_eq_true rfl) ?_
  rintro _ _ _ ⟨rfl, rfl, f0, rfl, hf0⟩
  refine V_iconst 6 C dX4_roundByRound_5 rfl ic1 ?_
  refine V_istore 8 C dX4_roundByRound_6 rfl (by decide) (L' := [(0, _), (1, _), (2, _), (3, _), (4, _)]) rfl ?_
  refine V_iconst 9 C dX4_roundByRound_8 rfl ic0 ?_
  refine V_istore 11 C dX4_roundByRound_9 rfl (by decide) (L' := [(0, _), (1, _), (2, _), (3, _), (4, _), (5, _)]) rfl ?_
  have J11 : ∀ (fuel : Nat) (c k : Nat) (E : Nat → Nat) (f1 : Nat → Int32) (hc : c ≤ 1) (hk : k ≤ 7) (hU : Up y a (400 * k) E) (hle : ∀ t, t < 6 → E t ≤ FAR) (hPg : Pg y a k E) (hcl : c = 0 → Cl y (y 1) false E) (hf1 : ∀ t, t < 6 → f1 t = nI (E t)), 7 - k < fuel → V p₀ l e₀ (rmD 4 0 0) s₀ m₀ as₀ bl₀ me₀ c₀ (MQ bl₀ (Po G (Ri (nI (mo (dst y a b))) n (fun h' => ∃ f' g', h' = up (up h (p + 1) (ra f')) (p + 2) (rb g')))) as₀ s₀ 0 0 (rg G)) G 10 0 0 n (up h (p + 1) (ra f1)) 11 [(0, .ref p), (1, .ref q), (3, .int (nI b)), (4, .int (nI c)), (5, .int (nI k))] [] := by
    intro fuel
    induction fuel with
    | zero => intro c k E f1 hc hk hU hle hPg hcl hf1 hf; omega
    | succ fuel ih11 =>
      intro c k E f1 hc hk hU hle hPg hcl hf1 hf
      have hPA : pln p f1 g (up h (p + 1) (ra f1)) := ⟨by rw [up_n _ (by omega)]; exact hop, up_s _ _ _, by rw [up_n _ (by omega)]; exact hog⟩
      obtain ⟨hopA, hofA, hogA⟩ := id hPA
      have hCA : cty q y (up h (p + 1) (ra f1)) := hC.fr (fun b g1 g2 => by rw [up_n _ (by omega)])
      obtain ⟨hobA, ⟨fRA, hfRA, hRA⟩, -, -, -, -, -, -⟩ := id hCA
      refine V_iload 13 C dX4_roundByRound_11 rfl rfl ?_
      refine V_if_eqN 107 16 C dX4_roundByRound_13 (by decide) rfl (by omega) (fun c13 => ?_) (fun c13 => ?_)
      · have hfin := hU.eqC hRd hle (hcl (by omega))
        refine V_aload_n 108 C dX4_roundByRound_107 rfl rfl ?_
        refine V_iload_n 109 C dX4_roundByRound_108 rfl rfl ?_
        refine V_callV 112 C dX4_roundByRound_109 rfl mX4_hoursTo tw797 fcX4 hopA (c_X4_hoursTo l G _ _ p f1 g hPA (dst y a b) b ((Sol_dst y a).le b) hb (by rw [hf1 b hb, hfin b hb])) rfl rfl (by decide) ⟨by omega, by omega⟩ (Nat.le_of_ble_eq_true rfl) ?_
        rintro _ _ _ ⟨rfl, rfl, rfl⟩
        refine V_ireturn C dX4_roundByRound_112 rfl rfl (by omega) (by omega) ?_
        exact ⟨rfl, rfl, f1, g, (up_id hogA).symm⟩
      · refine V_iload 18 C dX4_roundByRound_16 rfl rfl ?_
        refine V_bipush 20 C dX4_roundByRound_18 rfl bip6 ?_
        refine V_icmp_gtN 107 23 C dX4_roundByRound_20 (by decide) rfl (by omega) (by omega) (fun c20 => ?_) (fun c20 => ?_)
        · have hfin := hU.eq (hPg.mo (by omega))
          refine V_aload_n 108 C dX4_roundByRound_107 rfl rfl ?_
          refine V_iload_n 109 C dX4_roundByRound_108 rfl rfl ?_
          refine V_callV 112 C dX4_roundByRound_109 rfl mX4_hoursTo tw797 fcX4 hopA (c_X4_hoursTo l G _ _ p f1 g hPA (dst y a b) b ((Sol_dst y a).le b) hb (by rw [hf1 b hb, hfin b hb])) rfl rfl (by decide) ⟨by omega, by omega⟩ (Nat.le_of_ble_eq_true rfl) ?_
          rintro _ _ _ ⟨rfl, rfl, rfl⟩
          refine V_ireturn C dX4_roundByRound_112 rfl rfl (by omega) (by omega) ?_
          exact ⟨rfl, rfl, f1, g, (up_id hogA).symm⟩
        · refine V_iconst 24 C dX4_roundByRound_23 rfl ic0 ?_
          refine V_istore 26 C dX4_roundByRound_24 rfl (by decide) (L' := [(0, _), (1, _), (3, _), (4, _), (5, _)]) rfl ?_
          refine V_iconst 27 C dX4_roundByRound_26 rfl ic0 ?_
          refine V_istore 29 C dX4_roundByRound_27 rfl (by decide) (L' := [(0, _), (1, _), (3, _), (4, _), (5, _), (6, _)]) rfl ?_
          have J29 : ∀ (fuel : Nat) (c1 i : Nat) (E1 : Nat → Nat) (f2 : Nat → Int32) (hc1 : c1 ≤ 1) (hi : i ≤ y 1) (hU1 : Up y a (400 * k + 40 * i) E1) (hle1 : ∀ t, t < 6 → E1 t ≤ FAR) (hPg1 : Pg y a k E1) (hRo : Ro y a k i false E1) (hcl1 : c1 = 0 → Cl y i false E1) (hf2 : ∀ t, t < 6 → f2 t = nI (E1 t)), y 1 - i < fuel → V p₀ l e₀ (rmD 4 0 0) s₀ m₀ as₀ bl₀ me₀ c₀ (MQ bl₀ (Po G (Ri (nI (mo (dst y a b))) n (fun h' => ∃ f' g', h' = up (up h (p + 1) (ra f')) (p + 2) (rb g')))) as₀ s₀ 0 0 (rg G)) G 10 0 0 n (up h (p + 1) (ra f2)) 29 [(0, .ref p), (1, .ref q), (3, .int (nI b)), (4, .int (nI c1)), (5, .int (nI k)), (6, .int (nI i))] [] := by
            intro fuel
            induction fuel with
            | zero => intro c1 i E1 f2 hc1 hi hU1 hle1 hPg1 hRo hcl1 hf2 hf; omega
            | succ fuel ih29 =>
              intro c1 i E1 f2 hc1 hi hU1 hle1 hPg1 hRo hcl1 hf2 hf
              have hPB : pln p f2 g (up h (p + 1) (ra f2)) := ⟨by rw [up_n _ (by omega)]; exact hop, up_s _ _ _, by rw [up_n _ (by omega)]; exact hog⟩
              obtain ⟨hopB, hofB, hogB⟩ := id hPB
              have hCB : cty q y (up h (p + 1) (ra f2)) := hC.fr (fun b g1 g2 => by rw [up_n _ (by omega)])
              obtain ⟨hobB, ⟨fRB, hfRB, hRB⟩, -, -, -, -, -, -⟩ := id hCB
              refine V_iload 31 C dX4_roundByRound_29 rfl rfl ?_
              refine V_aload_n 32 C dX4_roundByRound_31 rfl rfl ?_
              refine V_get (k := 1) 35 C dX4_roundByRound_32 rfl fcX1 tw125 (by decide) rfl hobB rfl ?_
              refine V_icmp_geN 101 38 C dX4_roundByRound_35 (by decide) rfl (by omega) (by omega) (fun c35 => ?_) (fun c35 => ?_)
              · refine V_iinc 104 C dX4_roundByRound_101 rfl (by decide) rfl (ii1 _) (L' := [(0, _), (1, _), (3, _), (4, _), (5, _), (6, _)]) rfl ?_
                refine V_goto 11 C dX4_roundByRound_104 (by decide) ?_
                refine V_L [0, 1, 3, 4, 5] rfl ?_
                have ei : y 1 = i := by omega
                exact ih11 c1 (k + 1) E1 f2 hc1 (by omega) (hU1.mono (by omega)) hle1 (Pg_s hRd ha hU1.z hle1 (by rw [ei]; exact hRo)) (fun e => by rw [ei]; exact hcl1 e) hf2 (by omega)
              · refine V_aload_n 39 C dX4_roundByRound_38 rfl rfl ?_
                refine V_get (k := 7) 42 C dX4_roundByRound_39 rfl fcX1 tw138 (by decide) rfl hobB rfl ?_
                refine V_iload 44 C dX4_roundByRound_42 rfl rfl ?_
                refine V_aald (j := i) 45 C dX4_roundByRound_44 rfl hfRB rfl rfl (by omega) (by omega) (hRB _ (by omega)) ?_
                refine V_astore 47 C dX4_roundByRound_45 rfl (by decide) (L' := [(0, _), (1, _), (3, _), (4, _), (5, _), (6, _), (7, _)]) rfl ?_
                refine V_aload_n 48 C dX4_roundByRound_47 rfl rfl ?_
                refine V_aload 50 C dX4_roundByRound_48 rfl rfl ?_
                have hil : i < y 1 := by omega
                obtain ⟨r0, r1, r2, r3, r4⟩ := iR i hil
                have hrd := cty_rd hCB hil i1
                refine V_get (k := 0) 53 C dX4_roundByRound_50 rfl fcX5 tw41 (by decide) rfl hrd rfl ?_
                refine V_aload 55 C dX4_roundByRound_53 rfl rfl ?_
                refine V_callV 58 C dX4_roundByRound_55 rfl mX4_shorten tw788 fcX4 hopB (c_X4_shorten l G _ _ p f2 g hPB E1 hf2 hle1 (y (7 + 3 * i)) (q + 2 + i) _ _ _ (y (7 + 3 * i + 1)) hrd (by omega) (by omega) (if_pos rfl) (by omega) r4) rfl rfl (by decide) ⟨by omega, by omega⟩ (Nat.le_of_ble_eq_true rfl) ?_
                rintro _ _ _ ⟨c8, f3, rfl, rfl, rfl, hf3, hc8⟩
                rw [up_up]
                have hPC : pln p f3 g (up h (p + 1) (ra f3)) := ⟨by rw [up_n _ (by omega)]; exact hop, up_s _ _ _, by rw [up_n _ (by omega)]; exact hog⟩
                obtain ⟨hopC, hofC, hogC⟩ := id hPC
                have hCC : cty q y (up h (p + 1) (ra f3)) := hC.fr (fun b g1 g2 => by rw [up_n _ (by omega)])
                obtain ⟨hobC, ⟨fRC, hfRC, hRC⟩, -, -, -, -, -, -⟩ := id hCC
                have hrd2 := cty_rd hCC hil i1
                have hle2 := rlx_fl (y (7 + 3 * i)) (y (7 + 3 * i + 1)) (y (7 + 3 * i + 2)) hle1
                refine V_istore 60 C dX4_roundByRound_58 rfl (by decide) (L' := [(0, _), (1, _), (3, _), (4, _), (5, _), (6, _), (7, _), (8, _)]) rfl ?_
                refine V_aload_n 61 C dX4_roundByRound_60 rfl rfl ?_
                refine V_aload 63 C dX4_roundByRound_61 rfl rfl ?_
                refine V_get (k := 1) 66 C dX4_roundByRound_63 rfl fcX5 tw45 (by decide) rfl hrd2 rfl ?_
                refine V_aload 68 C dX4_roundByRound_66 rfl rfl ?_
                refine V_callV 71 C dX4_roundByRound_68 rfl mX4_shorten tw788 fcX4 hopC (c_X4_shorten l G _ _ p f3 g hPC _ hf3 hle2 (y (7 + 3 * i + 1)) (q + 2 + i) _ _ _ (y (7 + 3 * i)) hrd2 (by omega) (by omega) (if_neg r2) (by omega) r4) rfl rfl (by decide) ⟨by omega, by omega⟩ (Nat.le_of_ble_eq_true rfl) ?_
                rintro _ _ _ ⟨c9, f4, rfl, rfl, rfl, hf4, hc9⟩
                rw [up_up]
                have nU : Up y a (400 * k + 40 * (i + 1)) (rlx (rlx E1 (rda y i false) (rdb y i false) (rdw' y i)) (rda y i true) (rdb y i true) (rdw' y i)) := ((hU1.rx hRd (by omega) false hil).rx hRd (by omega) true hil).mono (by omega)
                have nl : ∀ t, t < 6 → (rlx (rlx E1 (rda y i false) (rdb y i false) (rdw' y i)) (rda y i true) (rdb y i true) (rdw' y i)) t ≤ FAR := rlx_fl _ _ _ hle2
                have nP : Pg y a k (rlx (rlx E1 (rda y i false) (rdb y i false) (rdw' y i)) (rda y i true) (rdb y i true) (rdw' y i)) := (hPg1.down (rlx_le _ _ _ _)).down (rlx_le _ _ _ _)
                have nR : Ro y a k (i + 1) false (rlx (rlx E1 (rda y i false) (rdb y i false) (rdw' y i)) (rda y i true) (rdb y i true) (rdw' y i)) := Ro.s2 hRd hil (hPg1.down (rlx_le _ _ _ _)) (Ro.s1 hRd hil hPg1 hRo)
                have nC : c1 = 0 → c8 = 0 → c9 = 0 → Cl y (i + 1) false (rlx (rlx E1 (rda y i false) (rdb y i false) (rdw' y i)) (rda y i true) (rdb y i true) (rdw' y i)) := fun e1 e8 e9 => by
                  have g8 : E1 (rda y i false) = FAR ∨ E1 (rdb y i false) ≤ E1 (rda y i false) + rdw' y i := by
                    rcases hc8 with ⟨-, g⟩ | ⟨g, -⟩
                    · exact g
                    · omega
                  have g9 : (rlx E1 (rda y i false) (rdb y i false) (rdw' y i)) (rda y i true) = FAR ∨ (rlx E1 (rda y i false) (rdb y i false) (rdw' y i)) (rdb y i true) ≤ (rlx E1 (rda y i false) (rdb y i false) (rdw' y i)) (rda y i true) + rdw' y i := by
                    rcases hc9 with ⟨-, g⟩ | ⟨g, -⟩
                    · exact g
                    · omega
                  rw [rlx_id g9]
                  rw [rlx_id g8] at g9 ⊢
                  exact Cl.s2 (Cl.s1 (hcl1 e1) g8) g9
                have nf : ∀ t, t < 6 → f4 t = nI ((rlx (rlx E1 (rda y i false) (rdb y i false) (rdw' y i)) (rda y i true) (rdb y i true) (rdw' y i)) t) := hf4
                refine V_istore 73 C dX4_roundByRound_71 rfl (by decide) (L' := [(0, _), (1, _), (3, _), (4, _), (5, _), (6, _), (7, _), (8, _), (9, _)]) rfl ?_
                refine V_iload 75 C dX4_roundByRound_73 rfl rfl ?_
                refine V_if_neN 88 78 C dX4_roundByRound_75 (by decide) rfl (by omega) (fun c75 => ?_) (fun c75 => ?_)
                · refine V_iconst 89 C dX4_roundByRound_88 rfl ic1 ?_
                  refine V_goto 93 C dX4_roundByRound_89 (by decide) ?_
                  refine V_istore 95 C dX4_roundByRound_93 rfl (by decide) (L' := [(0, _), (1, _), (3, _), (4, _), (5, _), (6, _), (7, _), (8, _), (9, _)]) rfl ?_
                  refine V_iinc 98 C dX4_roundByRound_95 rfl (by decide) rfl (ii1 _) (L' := [(0, _), (1, _), (3, _), (4, _), (5, _), (6, _), (7, _), (8, _), (9, _)]) rfl ?_
                  refine V_goto 29 C dX4_roundByRound_98 (by decide) ?_
                  refine V_L [0, 1, 3, 4, 5, 6] rfl ?_
                  exact ih29 _ (i + 1) _ f4 (by omega) (by omega) nU nl nP nR (fun e => by first | omega | exact nC (by omega) (by omega) (by omega)) nf (by omega)
                · refine V_iload 80 C dX4_roundByRound_78 rfl rfl ?_
                  refine V_if_neN 88 83 C dX4_roundByRound_80 (by decide) rfl (by omega) (fun c80 => ?_) (fun c80 => ?_)
                  · refine V_iconst 89 C dX4_roundByRound_88 rfl ic1 ?_
                    refine V_goto 93 C dX4_roundByRound_89 (by decide) ?_
                    refine V_istore 95 C dX4_roundByRound_93 rfl (by decide) (L' := [(0, _), (1, _), (3, _), (4, _), (5, _), (6, _), (7, _), (8, _), (9, _)]) rfl ?_
                    refine V_iinc 98 C dX4_roundByRound_95 rfl (by decide) rfl (ii1 _) (L' := [(0, _), (1, _), (3, _), (4, _), (5, _), (6, _), (7, _), (8, _), (9, _)]) rfl ?_
                    refine V_goto 29 C dX4_roundByRound_98 (by decide) ?_
                    refine V_L [0, 1, 3, 4, 5, 6] rfl ?_
                    exact ih29 _ (i + 1) _ f4 (by omega) (by omega) nU nl nP nR (fun e => by first | omega | exact nC (by omega) (by omega) (by omega)) nf (by omega)
                  · refine V_iload 85 C dX4_roundByRound_83 rfl rfl ?_
                    refine V_if_eqN 92 88 C dX4_roundByRound_85 (by decide) rfl (by omega) (fun c85 => ?_) (fun c85 => ?_)
                    · refine V_iconst 93 C dX4_roundByRound_92 rfl ic0 ?_
                      refine V_istore 95 C dX4_roundByRound_93 rfl (by decide) (L' := [(0, _), (1, _), (3, _), (4, _), (5, _), (6, _), (7, _), (8, _), (9, _)]) rfl ?_
                      refine V_iinc 98 C dX4_roundByRound_95 rfl (by decide) rfl (ii1 _) (L' := [(0, _), (1, _), (3, _), (4, _), (5, _), (6, _), (7, _), (8, _), (9, _)]) rfl ?_
                      refine V_goto 29 C dX4_roundByRound_98 (by decide) ?_
                      refine V_L [0, 1, 3, 4, 5, 6] rfl ?_
                      exact ih29 _ (i + 1) _ f4 (by omega) (by omega) nU nl nP nR (fun e => by first | omega | exact nC (by omega) (by omega) (by omega)) nf (by omega)
                    · refine V_iconst 89 C dX4_roundByRound_88 rfl ic1 ?_
                      refine V_goto 93 C dX4_roundByRound_89 (by decide) ?_
                      refine V_istore 95 C dX4_roundByRound_93 rfl (by decide) (L' := [(0, _), (1, _), (3, _), (4, _), (5, _), (6, _), (7, _), (8, _), (9, _)]) rfl ?_
                      refine V_iinc 98 C dX4_roundByRound_95 rfl (by decide) rfl (ii1 _) (L' := [(0, _), (1, _), (3, _), (4, _), (5, _), (6, _), (7, _), (8, _), (9, _)]) rfl ?_
                      refine V_goto 29 C dX4_roundByRound_98 (by decide) ?_
                      refine V_L [0, 1, 3, 4, 5, 6] rfl ?_
                      exact ih29 _ (i + 1) _ f4 (by omega) (by omega) nU nl nP nR (fun e => by first | omega | exact nC (by omega) (by omega) (by omega)) nf (by omega)
          refine V_L [0, 1, 3, 4, 5, 6] rfl ?_
          exact J29 (y 1 + 1) 0 0 E f1 (by omega) (by omega) (hU.mono (by omega)) hle hPg Ro_0 (fun _ => Cl_0) hf1 (by omega)
  refine V_L [0, 1, 3, 4, 5] rfl ?_
  exact J11 8 1 0 (st0 a) f0 (by omega) (by omega) (Up_st0 ha) (fun t _ => st0_le a t) (Pg_0 hRd ha (Up_st0 (y := y) (B := 0) ha).z (fun t _ => st0_le a t)) (fun e => by cases e) hf0 (by omega)

