/-! THE CLASS: reads -/
theorem dX5_copyFrom_0 : decode cX5_copyFrom 0 = .ok (.aload_n 0, 1) := by decide +kernel
theorem dX5_copyFrom_1 : decode cX5_copyFrom 1 = .ok (.aload_n 1, 1) := by decide +kernel
theorem dX5_copyFrom_2 : decode cX5_copyFrom 2 = .ok (.getfield 7, 3) := by decide +kernel
theorem dX5_copyFrom_5 : decode cX5_copyFrom 5 = .ok (.putfield 7, 3) := by decide +kernel
theorem dX5_copyFrom_8 : decode cX5_copyFrom 8 = .ok (.aload_n 0, 1) := by decide +kernel
theorem dX5_copyFrom_9 : decode cX5_copyFrom 9 = .ok (.aload_n 1, 1) := by decide +kernel
theorem dX5_copyFrom_10 : decode cX5_copyFrom 10 = .ok (.getfield 13, 3) := by decide +kernel
theorem dX5_copyFrom_13 : decode cX5_copyFrom 13 = .ok (.putfield 13, 3) := by decide +kernel
theorem dX5_copyFrom_16 : decode cX5_copyFrom 16 = .ok (.aload_n 0, 1) := by decide +kernel
theorem dX5_copyFrom_17 : decode cX5_copyFrom 17 = .ok (.aload_n 1, 1) := by decide +kernel
theorem dX5_copyFrom_18 : decode cX5_copyFrom 18 = .ok (.getfield 16, 3) := by decide +kernel
theorem dX5_copyFrom_21 : decode cX5_copyFrom 21 = .ok (.putfield 16, 3) := by decide +kernel
theorem dX5_copyFrom_24 : decode cX5_copyFrom 24 = .ok (.return_, 1) := by decide +kernel
set_option maxRecDepth 100000 in
set_option maxHeartbeats 4000000 in
theorem c_X5_copyFrom (l : Launch) (G : GT) (n : Nat) (h : AH) (a b : Nat) (x0 x1 x2 u0 u1 u2 : Int32) (ho : h a = some (.inr (4, [.int x0, .int x1, .int x2]))) (hb : h b = some (.inr (4, [.int u0, .int u1, .int u2]))) (hne : ¬ b = a) : Ct l yX5_copyFrom cX5_copyFrom 2 none 1 0 0 G n h [.ref a, .ref b] (Rv n (fun h' => h' = up h a (.inr (4, [.int u0, .int u1, .int u2])))) := by
  refine Ct_of mX5_copyFrom.1 (Nat.le_of_ble_eq_true rfl) ?_
  intro p e s m args below meth c C hin
  refine V_Le (L' := [(0, .ref a), (1, .ref b)]) rfl ?_
  refine V_aload_n 1 C dX5_copyFrom_0 rfl rfl ?_
  refine V_aload_n 2 C dX5_copyFrom_1 rfl rfl ?_
  refine V_get (k := 0) 5 C dX5_copyFrom_2 rfl fcX5 tw40 (by decide) rfl hb rfl ?_
  refine V_put (fs' := [_, _, _]) (k := 0) 8 C dX5_copyFrom_5 rfl fcX5 tw40 (by decide) rfl rfl ho rfl rfl (Nat.le_of_ble_eq_true rfl) rfl ?_
  refine V_aload_n 9 C dX5_copyFrom_8 rfl rfl ?_
  refine V_aload_n 10 C dX5_copyFrom_9 rfl rfl ?_
  refine V_get (k := 1) 13 C dX5_copyFrom_10 rfl fcX5 tw44 (by decide) rfl (show up h a _ b = _ from by rw [up_n _ hne]; exact hb) rfl ?_
  refine V_put (fs' := [_, _, _]) (k := 1) 16 C dX5_copyFrom_13 rfl fcX5 tw44 (by decide) rfl rfl (up_s _ _ _) rfl rfl (Nat.le_of_ble_eq_true rfl) rfl ?_
  rw [up_up]
  refine V_aload_n 17 C dX5_copyFrom_16 rfl rfl ?_
  refine V_aload_n 18 C dX5_copyFrom_17 rfl rfl ?_
  refine V_get (k := 2) 21 C dX5_copyFrom_18 rfl fcX5 tw48 (by decide) rfl (show up h a _ b = _ from by rw [up_n _ hne]; exact hb) rfl ?_
  refine V_put (fs' := [_, _, _]) (k := 2) 24 C dX5_copyFrom_21 rfl fcX5 tw48 (by decide) rfl rfl (up_s _ _ _) rfl rfl (Nat.le_of_ble_eq_true rfl) rfl ?_
  rw [up_up]
  refine V_return C dX5_copyFrom_24 rfl (by omega) (by omega) ?_
  exact ⟨rfl, rfl, rfl⟩

theorem dX6_copyFrom_0 : decode cX6_copyFrom 0 = .ok (.aload_n 0, 1) := by decide +kernel
theorem dX6_copyFrom_1 : decode cX6_copyFrom 1 = .ok (.aload_n 1, 1) := by decide +kernel
theorem dX6_copyFrom_2 : decode cX6_copyFrom 2 = .ok (.getfield 7, 3) := by decide +kernel
theorem dX6_copyFrom_5 : decode cX6_copyFrom 5 = .ok (.putfield 7, 3) := by decide +kernel
theorem dX6_copyFrom_8 : decode cX6_copyFrom 8 = .ok (.aload_n 0, 1) := by decide +kernel
theorem dX6_copyFrom_9 : decode cX6_copyFrom 9 = .ok (.aload_n 1, 1) := by decide +kernel
theorem dX6_copyFrom_10 : decode cX6_copyFrom 10 = .ok (.getfield 13, 3) := by decide +kernel
theorem dX6_copyFrom_13 : decode cX6_copyFrom 13 = .ok (.putfield 13, 3) := by decide +kernel
theorem dX6_copyFrom_16 : decode cX6_copyFrom 16 = .ok (.aload_n 0, 1) := by decide +kernel
theorem dX6_copyFrom_17 : decode cX6_copyFrom 17 = .ok (.aload_n 1, 1) := by decide +kernel
theorem dX6_copyFrom_18 : decode cX6_copyFrom 18 = .ok (.getfield 16, 3) := by decide +kernel
theorem dX6_copyFrom_21 : decode cX6_copyFrom 21 = .ok (.putfield 16, 3) := by decide +kernel
theorem dX6_copyFrom_24 : decode cX6_copyFrom 24 = .ok (.return_, 1) := by decide +kernel
set_option maxRecDepth 100000 in
set_option maxHeartbeats 4000000 in
theorem c_X6_copyFrom (l : Launch) (G : GT) (n : Nat) (h : AH) (a b : Nat) (x0 x1 x2 u0 u1 u2 : Int32) (ho : h a = some (.inr (5, [.int x0, .int x1, .int x2]))) (hb : h b = some (.inr (5, [.int u0, .int u1, .int u2]))) (hne : ¬ b = a) : Ct l yX6_copyFrom cX6_copyFrom 2 none 1 0 0 G n h [.ref a, .ref b] (Rv n (fun h' => h' = up h a (.inr (5, [.int u0, .int u1, .int u2])))) := by
  refine Ct_of mX6_copyFrom.1 (Nat.le_of_ble_eq_true rfl) ?_
  intro p e s m args below meth c C hin
  refine V_Le (L' := [(0, .ref a), (1, .ref b)]) rfl ?_
  refine V_aload_n 1 C dX6_copyFrom_0 rfl rfl ?_
  refine V_aload_n 2 C dX6_copyFrom_1 rfl rfl ?_
  refine V_get (k := 0) 5 C dX6_copyFrom_2 rfl fcX6 tw66 (by decide) rfl hb rfl ?_
  refine V_put (fs' := [_, _, _]) (k := 0) 8 C dX6_copyFrom_5 rfl fcX6 tw66 (by decide) rfl rfl ho rfl rfl (Nat.le_of_ble_eq_true rfl) rfl ?_
  refine V_aload_n 9 C dX6_copyFrom_8 rfl rfl ?_
  refine V_aload_n 10 C dX6_copyFrom_9 rfl rfl ?_
  refine V_get (k := 1) 13 C dX6_copyFrom_10 rfl fcX6 tw69 (by decide) rfl (show up h a _ b = _ from by rw [up_n _ hne]; exact hb) rfl ?_
  refine V_put (fs' := [_, _, _]) (k := 1) 16 C dX6_copyFrom_13 rfl fcX6 tw69 (by decide) rfl rfl (up_s _ _ _) rfl rfl (Nat.le_of_ble_eq_true rfl) rfl ?_
  rw [up_up]
  refine V_aload_n 17 C dX6_copyFrom_16 rfl rfl ?_
  refine V_aload_n 18 C dX6_copyFrom_17 rfl rfl ?_
  refine V_get (k := 2) 21 C dX6_copyFrom_18 rfl fcX6 tw72 (by decide) rfl (show up h a _ b = _ from by rw [up_n _ hne]; exact hb) rfl ?_
  refine V_put (fs' := [_, _, _]) (k := 2) 24 C dX6_copyFrom_21 rfl fcX6 tw72 (by decide) rfl rfl (up_s _ _ _) rfl rfl (Nat.le_of_ble_eq_true rfl) rfl ?_
  rw [up_up]
  refine V_return C dX6_copyFrom_24 rfl (by omega) (by omega) ?_
  exact ⟨rfl, rfl, rfl⟩

theorem dX8_copyFrom_0 : decode cX8_copyFrom 0 = .ok (.aload_n 0, 1) := by decide +kernel
theorem dX8_copyFrom_1 : decode cX8_copyFrom 1 = .ok (.aload_n 1, 1) := by decide +kernel
theorem dX8_copyFrom_2 : decode cX8_copyFrom 2 = .ok (.getfield 9, 3) := by decide +kernel
theorem dX8_copyFrom_5 : decode cX8_copyFrom 5 = .ok (.putfield 9, 3) := by decide +kernel
theorem dX8_copyFrom_8 : decode cX8_copyFrom 8 = .ok (.aload_n 0, 1) := by decide +kernel
theorem dX8_copyFrom_9 : decode cX8_copyFrom 9 = .ok (.aload_n 1, 1) := by decide +kernel
theorem dX8_copyFrom_10 : decode cX8_copyFrom 10 = .ok (.getfield 15, 3) := by decide +kernel
theorem dX8_copyFrom_13 : decode cX8_copyFrom 13 = .ok (.putfield 15, 3) := by decide +kernel
theorem dX8_copyFrom_16 : decode cX8_copyFrom 16 = .ok (.aload_n 0, 1) := by decide +kernel
theorem dX8_copyFrom_17 : decode cX8_copyFrom 17 = .ok (.aload_n 1, 1) := by decide +kernel
theorem dX8_copyFrom_18 : decode cX8_copyFrom 18 = .ok (.getfield 18, 3) := by decide +kernel
theorem dX8_copyFrom_21 : decode cX8_copyFrom 21 = .ok (.putfield 18, 3) := by decide +kernel
theorem dX8_copyFrom_24 : decode cX8_copyFrom 24 = .ok (.aload_n 0, 1) := by decide +kernel
theorem dX8_copyFrom_25 : decode cX8_copyFrom 25 = .ok (.aload_n 1, 1) := by decide +kernel
theorem dX8_copyFrom_26 : decode cX8_copyFrom 26 = .ok (.getfield 21, 3) := by decide +kernel
theorem dX8_copyFrom_29 : decode cX8_copyFrom 29 = .ok (.putfield 21, 3) := by decide +kernel
theorem dX8_copyFrom_32 : decode cX8_copyFrom 32 = .ok (.aload_n 0, 1) := by decide +kernel
theorem dX8_copyFrom_33 : decode cX8_copyFrom 33 = .ok (.aload_n 1, 1) := by decide +kernel
theorem dX8_copyFrom_34 : decode cX8_copyFrom 34 = .ok (.getfield 24, 3) := by decide +kernel
theorem dX8_copyFrom_37 : decode cX8_copyFrom 37 = .ok (.putfield 24, 3) := by decide +kernel
theorem dX8_copyFrom_40 : decode cX8_copyFrom 40 = .ok (.aload_n 0, 1) := by decide +kernel
theorem dX8_copyFrom_41 : decode cX8_copyFrom 41 = .ok (.aload_n 1, 1) := by decide +kernel
theorem dX8_copyFrom_42 : decode cX8_copyFrom 42 = .ok (.getfield 27, 3) := by decide +kernel
theorem dX8_copyFrom_45 : decode cX8_copyFrom 45 = .ok (.putfield 27, 3) := by decide +kernel
theorem dX8_copyFrom_48 : decode cX8_copyFrom 48 = .ok (.return_, 1) := by decide +kernel
set_option maxRecDepth 100000 in
set_option maxHeartbeats 4000000 in
theorem c_X8_copyFrom (l : Launch) (G : GT) (n : Nat) (h : AH) (a b : Nat) (x0 x1 x2 x3 x4 x5 u0 u1 u2 u3 u4 u5 : Int32) (ho : h a = some (.inr (6, [.int x0, .int x1, .int x2, .int x3, .int x4, .int x5]))) (hb : h b = some (.inr (6, [.int u0, .int u1, .int u2, .int u3, .int u4, .int u5]))) (hne : ¬ b = a) : Ct l yX8_copyFrom cX8_copyFrom 2 none 1 0 0 G n h [.ref a, .ref b] (Rv n (fun h' => h' = up h a (.inr (6, [.int u0, .int u1, .int u2, .int u3, .int u4, .int u5])))) := by
  refine Ct_of mX8_copyFrom.1 (Nat.le_of_ble_eq_true rfl) ?_
  intro p e s m args below meth c C hin
  refine V_Le (L' := [(0, .ref a), (1, .ref b)]) rfl ?_
  refine V_aload_n 1 C dX8_copyFrom_0 rfl rfl ?_
  refine V_aload_n 2 C dX8_copyFrom_1 rfl rfl ?_
  refine V_get (k := 0) 5 C dX8_copyFrom_2 rfl fcX8 tw89 (by decide) rfl hb rfl ?_
  refine V_put (fs' := [_, _, _, _, _, _]) (k := 0) 8 C dX8_copyFrom_5 rfl fcX8 tw89 (by decide) rfl rfl ho rfl rfl (Nat.le_of_ble_eq_true rfl) rfl ?_
  refine V_aload_n 9 C dX8_copyFrom_8 rfl rfl ?_
  refine V_aload_n 10 C dX8_copyFrom_9 rfl rfl ?_
  refine V_get (k := 1) 13 C dX8_copyFrom_10 rfl fcX8 tw92 (by decide) rfl (show up h a _ b = _ from by rw [up_n _ hne]; exact hb) rfl ?_
  refine V_put (fs' := [_, _, _, _, _, _]) (k := 1) 16 C dX8_copyFrom_13 rfl fcX8 tw92 (by decide) rfl rfl (up_s _ _ _) rfl rfl (Nat.le_of_ble_eq_true rfl) rfl ?_
  rw [up_up]
  refine V_aload_n 17 C dX8_copyFrom_16 rfl rfl ?_
  refine V_aload_n 18 C dX8_copyFrom_17 rfl rfl ?_
  refine V_get (k := 2) 21 C dX8_copyFrom_18 rfl fcX8 tw95 (by decide) rfl (show up h a _ b = _ from by rw [up_n _ hne]; exact hb) rfl ?_
  refine V_put (fs' := [_, _, _, _, _, _]) (k := 2) 24 C dX8_copyFrom_21 rfl fcX8 tw95 (by decide) rfl rfl (up_s _ _ _) rfl rfl (Nat.le_of_ble_eq_true rfl) rfl ?_
  rw [up_up]
  refine V_aload_n 25 C dX8_copyFrom_24 rfl rfl ?_
  refine V_aload_n 26 C dX8_copyFrom_25 rfl rfl ?_
  refine V_get (k := 3) 29 C dX8_copyFrom_26 rfl fcX8 tw99 (by decide) rfl (show up h a _ b = _ from by rw [up_n _ hne]; exact hb) rfl ?_
  refine V_put (fs' := [_, _, _, _, _, _]) (k := 3) 32 C dX8_copyFrom_29 rfl fcX8 tw99 (by decide) rfl rfl (up_s _ _ _) rfl rfl (Nat.le_of_ble_eq_true rfl) rfl ?_
  rw [up_up]
  refine V_aload_n 33 C dX8_copyFrom_32 rfl rfl ?_
  refine V_aload_n 34 C dX8_copyFrom_33 rfl rfl ?_
  refine V_get (k := 4) 37 C dX8_copyFrom_34 rfl fcX8 tw102 (by decide) rfl (show up h a _ b = _ from by rw [up_n _ hne]; exact hb) rfl ?_
  refine V_put (fs' := [_, _, _, _, _, _]) (k := 4) 40 C dX8_copyFrom_37 rfl fcX8 tw102 (by decide) rfl rfl (up_s _ _ _) rfl rfl (Nat.le_of_ble_eq_true rfl) rfl ?_
  rw [up_up]
  refine V_aload_n 41 C dX8_copyFrom_40 rfl rfl ?_
  refine V_aload_n 42 C dX8_copyFrom_41 rfl rfl ?_
  refine V_get (k := 5) 45 C dX8_copyFrom_42 rfl fcX8 tw105 (by decide) rfl (show up h a _ b = _ from by rw [up_n _ hne]; exact hb) rfl ?_
  refine V_put (fs' := [_, _, _, _, _, _]) (k := 5) 48 C dX8_copyFrom_45 rfl fcX8 tw105 (by decide) rfl rfl (up_s _ _ _) rfl rfl (Nat.le_of_ble_eq_true rfl) rfl ?_
  rw [up_up]
  refine V_return C dX8_copyFrom_48 rfl (by omega) (by omega) ?_
  exact ⟨rfl, rfl, rfl⟩

theorem dX5_touches_0 : decode cX5_touches 0 = .ok (.aload_n 0, 1) := by decide +kernel
theorem dX5_touches_1 : decode cX5_touches 1 = .ok (.getfield 7, 3) := by decide +kernel
theorem dX5_touches_4 : decode cX5_touches 4 = .ok (.iload_n 1, 1) := by decide +kernel
theorem dX5_touches_5 : decode cX5_touches 5 = .ok (.if_icmp .eq 11, 3) := by decide +kernel
theorem dX5_touches_8 : decode cX5_touches 8 = .ok (.aload_n 0, 1) := by decide +kernel
theorem dX5_touches_9 : decode cX5_touches 9 = .ok (.getfield 13, 3) := by decide +kernel
theorem dX5_touches_12 : decode cX5_touches 12 = .ok (.iload_n 1, 1) := by decide +kernel
theorem dX5_touches_13 : decode cX5_touches 13 = .ok (.if_icmp .ne 7, 3) := by decide +kernel
theorem dX5_touches_16 : decode cX5_touches 16 = .ok (.iconst 1, 1) := by decide +kernel
theorem dX5_touches_17 : decode cX5_touches 17 = .ok (.goto 4, 3) := by decide +kernel
theorem dX5_touches_20 : decode cX5_touches 20 = .ok (.iconst 0, 1) := by decide +kernel
theorem dX5_touches_21 : decode cX5_touches 21 = .ok (.ireturn, 1) := by decide +kernel
set_option maxRecDepth 100000 in
set_option maxHeartbeats 4000000 in
theorem c_X5_touches (l : Launch) (G : GT) (n : Nat) (h : AH) (a u v w : Nat) (ho : h a = some (c3 4 u v w)) (t : Nat) (hu : u < 2 ^ 32) (hv : v < 2 ^ 32) (ht : t < 2 ^ 32) : Ct l yX5_touches cX5_touches 2 (some .boolean) 1 0 0 G n h [.ref a, .int (nI t)] (Rt (nI (bp (u = t ∨ v = t))) n h) := by
  refine Ct_of mX5_touches.1 (Nat.le_of_ble_eq_true rfl) ?_
  intro p e s m args below meth c C hin
  refine V_Le (L' := [(0, .ref a), (1, .int (nI t))]) rfl ?_
  refine V_aload_n 1 C dX5_touches_0 rfl rfl ?_
  refine V_get (k := 0) 4 C dX5_touches_1 rfl fcX5 tw40 (by decide) rfl ho rfl ?_
  refine V_iload_n 5 C dX5_touches_4 rfl rfl ?_
  refine V_icmp_eqN 16 8 C dX5_touches_5 (by decide) rfl (by omega) (by omega) (fun c5 => ?_) (fun c5 => ?_)
  · refine V_iconst 17 C dX5_touches_16 rfl ic1 ?_
    refine V_goto 21 C dX5_touches_17 (by decide) ?_
    refine V_ireturn C dX5_touches_21 rfl (by decide) (by omega) (by omega) ?_
    exact (Rt_mk (by first | exact (bp_t (by omega)).symm | exact (bp_f (by omega)).symm))
  · refine V_aload_n 9 C dX5_touches_8 rfl rfl ?_
    refine V_get (k := 1) 12 C dX5_touches_9 rfl fcX5 tw44 (by decide) rfl ho rfl ?_
    refine V_iload_n 13 C dX5_touches_12 rfl rfl ?_
    refine V_icmp_neN 20 16 C dX5_touches_13 (by decide) rfl (by omega) (by omega) (fun c13 => ?_) (fun c13 => ?_)
    · refine V_iconst 21 C dX5_touches_20 rfl ic0 ?_
      refine V_ireturn C dX5_touches_21 rfl (by decide) (by omega) (by omega) ?_
      exact (Rt_mk (by first | exact (bp_t (by omega)).symm | exact (bp_f (by omega)).symm))
    · refine V_iconst 17 C dX5_touches_16 rfl ic1 ?_
      refine V_goto 21 C dX5_touches_17 (by decide) ?_
      refine V_ireturn C dX5_touches_21 rfl (by decide) (by omega) (by omega) ?_
      exact (Rt_mk (by first | exact (bp_t (by omega)).symm | exact (bp_f (by omega)).symm))

theorem dX5_otherEnd_0 : decode cX5_otherEnd 0 = .ok (.aload_n 0, 1) := by decide +kernel
theorem dX5_otherEnd_1 : decode cX5_otherEnd 1 = .ok (.getfield 7, 3) := by decide +kernel
theorem dX5_otherEnd_4 : decode cX5_otherEnd 4 = .ok (.iload_n 1, 1) := by decide +kernel
theorem dX5_otherEnd_5 : decode cX5_otherEnd 5 = .ok (.if_icmp .ne 10, 3) := by decide +kernel
theorem dX5_otherEnd_8 : decode cX5_otherEnd 8 = .ok (.aload_n 0, 1) := by decide +kernel
theorem dX5_otherEnd_9 : decode cX5_otherEnd 9 = .ok (.getfield 13, 3) := by decide +kernel
theorem dX5_otherEnd_12 : decode cX5_otherEnd 12 = .ok (.goto 7, 3) := by decide +kernel
theorem dX5_otherEnd_15 : decode cX5_otherEnd 15 = .ok (.aload_n 0, 1) := by decide +kernel
theorem dX5_otherEnd_16 : decode cX5_otherEnd 16 = .ok (.getfield 7, 3) := by decide +kernel
theorem dX5_otherEnd_19 : decode cX5_otherEnd 19 = .ok (.ireturn, 1) := by decide +kernel
set_option maxRecDepth 100000 in
set_option maxHeartbeats 4000000 in
theorem c_X5_otherEnd (l : Launch) (G : GT) (n : Nat) (h : AH) (a u v w : Nat) (ho : h a = some (c3 4 u v w)) (t : Nat) (hu : u < 2 ^ 32) (ht : t < 2 ^ 32) : Ct l yX5_otherEnd cX5_otherEnd 2 (some .int) 1 0 0 G n h [.ref a, .int (nI t)] (Rt (nI (if u = t then v else u)) n h) := by
  refine Ct_of mX5_otherEnd.1 (Nat.le_of_ble_eq_true rfl) ?_
  intro p e s m args below meth c C hin
  refine V_Le (L' := [(0, .ref a), (1, .int (nI t))]) rfl ?_
  refine V_aload_n 1 C dX5_otherEnd_0 rfl rfl ?_
  refine V_get (k := 0) 4 C dX5_otherEnd_1 rfl fcX5 tw40 (by decide) rfl ho rfl ?_
  refine V_iload_n 5 C dX5_otherEnd_4 rfl rfl ?_
  refine V_icmp_neN 15 8 C dX5_otherEnd_5 (by decide) rfl (by omega) (by omega) (fun c5 => ?_) (fun c5 => ?_)
  · refine V_aload_n 16 C dX5_otherEnd_15 rfl rfl ?_
    refine V_get (k := 0) 19 C dX5_otherEnd_16 rfl fcX5 tw40 (by decide) rfl ho rfl ?_
    refine V_ireturn C dX5_otherEnd_19 rfl rfl (by omega) (by omega) ?_
    exact (Rt_mk (by first | rw [if_pos c5] | rw [if_neg c5]))
  · refine V_aload_n 9 C dX5_otherEnd_8 rfl rfl ?_
    refine V_get (k := 1) 12 C dX5_otherEnd_9 rfl fcX5 tw44 (by decide) rfl ho rfl ?_
    refine V_goto 19 C dX5_otherEnd_12 (by decide) ?_
    refine V_ireturn C dX5_otherEnd_19 rfl rfl (by omega) (by omega) ?_
    exact (Rt_mk (by first | rw [if_pos c5] | rw [if_neg c5]))

theorem dX6_isIn_0 : decode cX6_isIn 0 = .ok (.aload_n 0, 1) := by decide +kernel
theorem dX6_isIn_1 : decode cX6_isIn 1 = .ok (.getfield 13, 3) := by decide +kernel
theorem dX6_isIn_4 : decode cX6_isIn 4 = .ok (.ifCond .ne 15, 3) := by decide +kernel
theorem dX6_isIn_7 : decode cX6_isIn 7 = .ok (.aload_n 0, 1) := by decide +kernel
theorem dX6_isIn_8 : decode cX6_isIn 8 = .ok (.getfield 7, 3) := by decide +kernel
theorem dX6_isIn_11 : decode cX6_isIn 11 = .ok (.iload_n 1, 1) := by decide +kernel
theorem dX6_isIn_12 : decode cX6_isIn 12 = .ok (.if_icmp .ne 7, 3) := by decide +kernel
theorem dX6_isIn_15 : decode cX6_isIn 15 = .ok (.iconst 1, 1) := by decide +kernel
theorem dX6_isIn_16 : decode cX6_isIn 16 = .ok (.goto 4, 3) := by decide +kernel
theorem dX6_isIn_19 : decode cX6_isIn 19 = .ok (.iconst 0, 1) := by decide +kernel
theorem dX6_isIn_20 : decode cX6_isIn 20 = .ok (.ireturn, 1) := by decide +kernel
set_option maxRecDepth 100000 in
set_option maxHeartbeats 4000000 in
theorem c_X6_isIn (l : Launch) (G : GT) (n : Nat) (h : AH) (a u v w : Nat) (ho : h a = some (c3 5 u v w)) (t : Nat) (hu : u < 2 ^ 32) (hv : v < 2 ^ 32) (ht : t < 2 ^ 32) : Ct l yX6_isIn cX6_isIn 2 (some .boolean) 1 0 0 G n h [.ref a, .int (nI t)] (Rt (nI (bp (v = 0 ∧ u = t))) n h) := by
  refine Ct_of mX6_isIn.1 (Nat.le_of_ble_eq_true rfl) ?_
  intro p e s m args below meth c C hin
  refine V_Le (L' := [(0, .ref a), (1, .int (nI t))]) rfl ?_
  refine V_aload_n 1 C dX6_isIn_0 rfl rfl ?_
  refine V_get (k := 1) 4 C dX6_isIn_1 rfl fcX6 tw69 (by decide) rfl ho rfl ?_
  refine V_if_neN 19 7 C dX6_isIn_4 (by decide) rfl (by omega) (fun c4 => ?_) (fun c4 => ?_)
  · refine V_iconst 20 C dX6_isIn_19 rfl ic0 ?_
    refine V_ireturn C dX6_isIn_20 rfl (by decide) (by omega) (by omega) ?_
    exact (Rt_mk (by first | exact (bp_t (by omega)).symm | exact (bp_f (by omega)).symm))
  · refine V_aload_n 8 C dX6_isIn_7 rfl rfl ?_
    refine V_get (k := 0) 11 C dX6_isIn_8 rfl fcX6 tw66 (by decide) rfl ho rfl ?_
    refine V_iload_n 12 C dX6_isIn_11 rfl rfl ?_
    refine V_icmp_neN 19 15 C dX6_isIn_12 (by decide) rfl (by omega) (by omega) (fun c12 => ?_) (fun c12 => ?_)
    · refine V_iconst 20 C dX6_isIn_19 rfl ic0 ?_
      refine V_ireturn C dX6_isIn_20 rfl (by decide) (by omega) (by omega) ?_
      exact (Rt_mk (by first | exact (bp_t (by omega)).symm | exact (bp_f (by omega)).symm))
    · refine V_iconst 16 C dX6_isIn_15 rfl ic1 ?_
      refine V_goto 20 C dX6_isIn_16 (by decide) ?_
      refine V_ireturn C dX6_isIn_20 rfl (by decide) (by omega) (by omega) ?_
      exact (Rt_mk (by first | exact (bp_t (by omega)).symm | exact (bp_f (by omega)).symm))

theorem dX6_walkedIn_0 : decode cX6_walkedIn 0 = .ok (.aload_n 0, 1) := by decide +kernel
theorem dX6_walkedIn_1 : decode cX6_walkedIn 1 = .ok (.getfield 13, 3) := by decide +kernel
theorem dX6_walkedIn_4 : decode cX6_walkedIn 4 = .ok (.ifCond .ne 5, 3) := by decide +kernel
theorem dX6_walkedIn_7 : decode cX6_walkedIn 7 = .ok (.iconst 0, 1) := by decide +kernel
theorem dX6_walkedIn_8 : decode cX6_walkedIn 8 = .ok (.ireturn, 1) := by decide +kernel
theorem dX6_walkedIn_9 : decode cX6_walkedIn 9 = .ok (.aload_n 0, 1) := by decide +kernel
theorem dX6_walkedIn_10 : decode cX6_walkedIn 10 = .ok (.dup, 1) := by decide +kernel
theorem dX6_walkedIn_11 : decode cX6_walkedIn 11 = .ok (.getfield 13, 3) := by decide +kernel
theorem dX6_walkedIn_14 : decode cX6_walkedIn 14 = .ok (.iconst 1, 1) := by decide +kernel
theorem dX6_walkedIn_15 : decode cX6_walkedIn 15 = .ok (.isub, 1) := by decide +kernel
theorem dX6_walkedIn_16 : decode cX6_walkedIn 16 = .ok (.putfield 13, 3) := by decide +kernel
theorem dX6_walkedIn_19 : decode cX6_walkedIn 19 = .ok (.aload_n 0, 1) := by decide +kernel
theorem dX6_walkedIn_20 : decode cX6_walkedIn 20 = .ok (.dup, 1) := by decide +kernel
theorem dX6_walkedIn_21 : decode cX6_walkedIn 21 = .ok (.getfield 16, 3) := by decide +kernel
theorem dX6_walkedIn_24 : decode cX6_walkedIn 24 = .ok (.iconst 1, 1) := by decide +kernel
theorem dX6_walkedIn_25 : decode cX6_walkedIn 25 = .ok (.iadd, 1) := by decide +kernel
theorem dX6_walkedIn_26 : decode cX6_walkedIn 26 = .ok (.putfield 16, 3) := by decide +kernel
theorem dX6_walkedIn_29 : decode cX6_walkedIn 29 = .ok (.aload_n 0, 1) := by decide +kernel
theorem dX6_walkedIn_30 : decode cX6_walkedIn 30 = .ok (.getfield 13, 3) := by decide +kernel
theorem dX6_walkedIn_33 : decode cX6_walkedIn 33 = .ok (.ifCond .ne 7, 3) := by decide +kernel
theorem dX6_walkedIn_36 : decode cX6_walkedIn 36 = .ok (.iconst 1, 1) := by decide +kernel
theorem dX6_walkedIn_37 : decode cX6_walkedIn 37 = .ok (.goto 4, 3) := by decide +kernel
theorem dX6_walkedIn_40 : decode cX6_walkedIn 40 = .ok (.iconst 0, 1) := by decide +kernel
theorem dX6_walkedIn_41 : decode cX6_walkedIn 41 = .ok (.ireturn, 1) := by decide +kernel
set_option maxRecDepth 100000 in
set_option maxHeartbeats 4000000 in
theorem c_X6_walkedIn (l : Launch) (G : GT) (n : Nat) (h : AH) (a u v w : Nat) (ho : h a = some (c3 5 u v w)) (hv : v < 2 ^ 31) : Ct l yX6_walkedIn cX6_walkedIn 1 (some .boolean) 1 0 0 G n h [.ref a] (Ri (nI (bp (v = 1))) n (fun h' => h' = if v = 0 then h else up h a (c3 5 u (v - 1) (w + 1)))) := by
  refine Ct_of mX6_walkedIn.1 (Nat.le_of_ble_eq_true rfl) ?_
  intro p e s m args below meth c C hin
  refine V_Le (L' := [(0, .ref a)]) rfl ?_
  refine V_aload_n 1 C dX6_walkedIn_0 rfl rfl ?_
  refine V_get (k := 1) 4 C dX6_walkedIn_1 rfl fcX6 tw69 (by decide) rfl ho rfl ?_
  refine V_if_neN 9 7 C dX6_walkedIn_4 (by decide) rfl (by omega) (fun c4 => ?_) (fun c4 => ?_)
  · refine V_aload_n 10 C dX6_walkedIn_9 rfl rfl ?_
    refine V_dup 11 C dX6_walkedIn_10 rfl rfl ?_
    refine V_get (k := 1) 14 C dX6_walkedIn_11 rfl fcX6 tw69 (by decide) rfl ho rfl ?_
    refine V_iconst 15 C dX6_walkedIn_14 rfl ic1 ?_
    refine V_isubN 16 C dX6_walkedIn_15 rfl (by omega) ?_
    refine V_put (fs' := [_, _, _]) (k := 1) 19 C dX6_walkedIn_16 rfl fcX6 tw69 (by decide) rfl rfl ho rfl rfl (Nat.le_of_ble_eq_true rfl) rfl ?_
    refine V_aload_n 20 C dX6_walkedIn_19 rfl rfl ?_
    refine V_dup 21 C dX6_walkedIn_20 rfl rfl ?_
    refine V_get (k := 2) 24 C dX6_walkedIn_21 rfl fcX6 tw72 (by decide) rfl (up_s _ _ _) rfl ?_
    refine V_iconst 25 C dX6_walkedIn_24 rfl ic1 ?_
    refine V_iaddN 26 C dX6_walkedIn_25 rfl  ?_
    refine V_put (fs' := [_, _, _]) (k := 2) 29 C dX6_walkedIn_26 rfl fcX6 tw72 (by decide) rfl rfl (up_s _ _ _) rfl rfl (Nat.le_of_ble_eq_true rfl) rfl ?_
    rw [up_up]
    refine V_aload_n 30 C dX6_walkedIn_29 rfl rfl ?_
    refine V_get (k := 1) 33 C dX6_walkedIn_30 rfl fcX6 tw69 (by decide) rfl (up_s _ _ _) rfl ?_
    refine V_if_neN 40 36 C dX6_walkedIn_33 (by decide) rfl (by omega) (fun c33 => ?_) (fun c33 => ?_)
    · refine V_iconst 41 C dX6_walkedIn_40 rfl ic0 ?_
      refine V_ireturn C dX6_walkedIn_41 rfl (by decide) (by omega) (by omega) ?_
      first | exact ⟨by rw [bp_t (by omega)], rfl, by rw [if_neg c4]; rfl⟩ | exact ⟨by rw [bp_f (by omega)], rfl, by rw [if_neg c4]; rfl⟩
    · refine V_iconst 37 C dX6_walkedIn_36 rfl ic1 ?_
      refine V_goto 41 C dX6_walkedIn_37 (by decide) ?_
      refine V_ireturn C dX6_walkedIn_41 rfl (by decide) (by omega) (by omega) ?_
      first | exact ⟨by rw [bp_t (by omega)], rfl, by rw [if_neg c4]; rfl⟩ | exact ⟨by rw [bp_f (by omega)], rfl, by rw [if_neg c4]; rfl⟩
  · refine V_iconst 8 C dX6_walkedIn_7 rfl ic0 ?_
    refine V_ireturn C dX6_walkedIn_8 rfl (by decide) (by omega) (by omega) ?_
    exact ⟨by rw [bp_f (by omega)], rfl, by rw [if_pos c4]⟩

theorem dX8_isReadable_0 : decode cX8_isReadable 0 = .ok (.aload_n 0, 1) := by decide +kernel
theorem dX8_isReadable_1 : decode cX8_isReadable 1 = .ok (.getfield 18, 3) := by decide +kernel
theorem dX8_isReadable_4 : decode cX8_isReadable 4 = .ok (.ifCond .le 7, 3) := by decide +kernel
theorem dX8_isReadable_7 : decode cX8_isReadable 7 = .ok (.iconst 1, 1) := by decide +kernel
theorem dX8_isReadable_8 : decode cX8_isReadable 8 = .ok (.goto 4, 3) := by decide +kernel
theorem dX8_isReadable_11 : decode cX8_isReadable 11 = .ok (.iconst 0, 1) := by decide +kernel
theorem dX8_isReadable_12 : decode cX8_isReadable 12 = .ok (.ireturn, 1) := by decide +kernel
set_option maxRecDepth 100000 in
set_option maxHeartbeats 4000000 in
theorem c_X8_isReadable (l : Launch) (G : GT) (n : Nat) (h : AH) (a m9 d9 k9 f9 w9 t9 : Nat) (ho : h a = some (c6 m9 d9 k9 f9 w9 t9)) (hk : k9 < 2 ^ 31) : Ct l yX8_isReadable cX8_isReadable 1 (some .boolean) 1 0 0 G n h [.ref a] (Rt (nI (bp (¬ k9 = 0))) n h) := by
  refine Ct_of mX8_isReadable.1 (Nat.le_of_ble_eq_true rfl) ?_
  intro p e s m args below meth c C hin
  refine V_Le (L' := [(0, .ref a)]) rfl ?_
  refine V_aload_n 1 C dX8_isReadable_0 rfl rfl ?_
  refine V_get (k := 2) 4 C dX8_isReadable_1 rfl fcX8 tw95 (by decide) rfl ho rfl ?_
  refine V_if_leN 11 7 C dX8_isReadable_4 (by decide) rfl (by omega) (fun c4 => ?_) (fun c4 => ?_)
  · refine V_iconst 12 C dX8_isReadable_11 rfl ic0 ?_
    refine V_ireturn C dX8_isReadable_12 rfl (by decide) (by omega) (by omega) ?_
    exact (Rt_mk (by first | exact (bp_t (by omega)).symm | exact (bp_f (by omega)).symm))
  · refine V_iconst 8 C dX8_isReadable_7 rfl ic1 ?_
    refine V_goto 12 C dX8_isReadable_8 (by decide) ?_
    refine V_ireturn C dX8_isReadable_12 rfl (by decide) (by omega) (by omega) ?_
    exact (Rt_mk (by first | exact (bp_t (by omega)).symm | exact (bp_f (by omega)).symm))

theorem dX8_inkAfter_0 : decode cX8_inkAfter 0 = .ok (.iconst 0, 1) := by decide +kernel
theorem dX8_inkAfter_1 : decode cX8_inkAfter 1 = .ok (.aload_n 0, 1) := by decide +kernel
theorem dX8_inkAfter_2 : decode cX8_inkAfter 2 = .ok (.getfield 18, 3) := by decide +kernel
theorem dX8_inkAfter_5 : decode cX8_inkAfter 5 = .ok (.aload_n 0, 1) := by decide +kernel
theorem dX8_inkAfter_6 : decode cX8_inkAfter 6 = .ok (.getfield 21, 3) := by decide +kernel
theorem dX8_inkAfter_9 : decode cX8_inkAfter 9 = .ok (.iload_n 1, 1) := by decide +kernel
theorem dX8_inkAfter_10 : decode cX8_inkAfter 10 = .ok (.imul, 1) := by decide +kernel
theorem dX8_inkAfter_11 : decode cX8_inkAfter 11 = .ok (.isub, 1) := by decide +kernel
theorem dX8_inkAfter_12 : decode cX8_inkAfter 12 = .ok (.invokestatic 30, 3) := by decide +kernel
theorem dX8_inkAfter_15 : decode cX8_inkAfter 15 = .ok (.ireturn, 1) := by decide +kernel
set_option maxRecDepth 100000 in
set_option maxHeartbeats 4000000 in
theorem c_X8_inkAfter (l : Launch) (G : GT) (n : Nat) (h : AH) (a m9 d9 k9 f9 w9 t9 : Nat) (ho : h a = some (c6 m9 d9 k9 f9 w9 t9)) (hk : k9 ≤ 99) (hf : f9 ≤ 9) (q9 : Nat) (hq : q9 ≤ 1000) : Ct l yX8_inkAfter cX8_inkAfter 2 (some .int) 2 0 0 G n h [.ref a, .int (nI q9)] (Rt (nI (k9 - q9 * f9)) n h) := by
  have hm : f9 * q9 ≤ 9 * 1000 := Nat.mul_le_mul hf hq
  refine Ct_of mX8_inkAfter.1 (Nat.le_of_ble_eq_true rfl) ?_
  intro p e s m args below meth c C hin
  refine V_Le (L' := [(0, .ref a), (1, .int (nI q9))]) rfl ?_
  refine V_iconst 1 C dX8_inkAfter_0 rfl ic0 ?_
  refine V_aload_n 2 C dX8_inkAfter_1 rfl rfl ?_
  refine V_get (k := 2) 5 C dX8_inkAfter_2 rfl fcX8 tw95 (by decide) rfl ho rfl ?_
  refine V_aload_n 6 C dX8_inkAfter_5 rfl rfl ?_
  refine V_get (k := 3) 9 C dX8_inkAfter_6 rfl fcX8 tw99 (by decide) rfl ho rfl ?_
  refine V_iload_n 10 C dX8_inkAfter_9 rfl rfl ?_
  refine V_imulN 11 C dX8_inkAfter_10 rfl  ?_
  refine V_isub 12 C dX8_inkAfter_11 rfl  ?_
  refine V_mmax 15 C dX8_inkAfter_12 rfl tw527 (by decide) ⟨by omega, by omega⟩ (Nat.le_of_ble_eq_true rfl) ⟨tw528, tw16, tw529⟩ ?_
  rw [show (if nI 0 < nI k9 - nI (f9 * q9) then nI k9 - nI (f9 * q9) else nI 0) = nI (k9 - q9 * f9) from by
    rw [Nat.mul_comm q9 f9]
    by_cases hlt : nI 0 < nI k9 - nI (f9 * q9)
    · rw [if_pos hlt]
      rw [Int32.lt_iff_toInt_lt, pk_sub_toInt (by omega) (by omega), nI_toInt (by omega)] at hlt
      rw [pk_sub (by omega)]
    · rw [if_neg hlt]
      rw [Int32.lt_iff_toInt_lt, pk_sub_toInt (by omega) (by omega), nI_toInt (by omega)] at hlt
      rw [show k9 - f9 * q9 = 0 from by omega]]
  refine V_ireturn C dX8_inkAfter_15 rfl rfl (by omega) (by omega) ?_
  exact (Rt_mk rfl)

theorem dX8_readWith_0 : decode cX8_readWith 0 = .ok (.iload_n 1, 1) := by decide +kernel
theorem dX8_readWith_1 : decode cX8_readWith 1 = .ok (.ifCond .gt 5, 3) := by decide +kernel
theorem dX8_readWith_4 : decode cX8_readWith 4 = .ok (.iconst (-1), 1) := by decide +kernel
theorem dX8_readWith_5 : decode cX8_readWith 5 = .ok (.ireturn, 1) := by decide +kernel
theorem dX8_readWith_6 : decode cX8_readWith 6 = .ok (.iload_n 1, 1) := by decide +kernel
theorem dX8_readWith_7 : decode cX8_readWith 7 = .ok (.bipush 40, 2) := by decide +kernel
theorem dX8_readWith_9 : decode cX8_readWith 9 = .ok (.if_icmp .lt 8, 3) := by decide +kernel
theorem dX8_readWith_12 : decode cX8_readWith 12 = .ok (.aload_n 0, 1) := by decide +kernel
theorem dX8_readWith_13 : decode cX8_readWith 13 = .ok (.getfield 15, 3) := by decide +kernel
theorem dX8_readWith_16 : decode cX8_readWith 16 = .ok (.ireturn, 1) := by decide +kernel
theorem dX8_readWith_17 : decode cX8_readWith 17 = .ok (.aload_n 0, 1) := by decide +kernel
theorem dX8_readWith_18 : decode cX8_readWith 18 = .ok (.getfield 15, 3) := by decide +kernel
theorem dX8_readWith_21 : decode cX8_readWith 21 = .ok (.iload_n 1, 1) := by decide +kernel
theorem dX8_readWith_22 : decode cX8_readWith 22 = .ok (.bipush 6, 2) := by decide +kernel
theorem dX8_readWith_24 : decode cX8_readWith 24 = .ok (.irem, 1) := by decide +kernel
theorem dX8_readWith_25 : decode cX8_readWith 25 = .ok (.invokestatic 36, 3) := by decide +kernel
theorem dX8_readWith_28 : decode cX8_readWith 28 = .ok (.istore_n 2, 1) := by decide +kernel
theorem dX8_readWith_29 : decode cX8_readWith 29 = .ok (.iload_n 1, 1) := by decide +kernel
theorem dX8_readWith_30 : decode cX8_readWith 30 = .ok (.bipush 20, 2) := by decide +kernel
theorem dX8_readWith_32 : decode cX8_readWith 32 = .ok (.if_icmp .lt 7, 3) := by decide +kernel
theorem dX8_readWith_35 : decode cX8_readWith 35 = .ok (.iload_n 2, 1) := by decide +kernel
theorem dX8_readWith_36 : decode cX8_readWith 36 = .ok (.goto 13, 3) := by decide +kernel
theorem dX8_readWith_39 : decode cX8_readWith 39 = .ok (.iload_n 2, 1) := by decide +kernel
theorem dX8_readWith_40 : decode cX8_readWith 40 = .ok (.iload_n 1, 1) := by decide +kernel
theorem dX8_readWith_41 : decode cX8_readWith 41 = .ok (.iconst 2, 1) := by decide +kernel
theorem dX8_readWith_42 : decode cX8_readWith 42 = .ok (.iadd, 1) := by decide +kernel
theorem dX8_readWith_43 : decode cX8_readWith 43 = .ok (.bipush 6, 2) := by decide +kernel
theorem dX8_readWith_45 : decode cX8_readWith 45 = .ok (.irem, 1) := by decide +kernel
theorem dX8_readWith_46 : decode cX8_readWith 46 = .ok (.invokestatic 36, 3) := by decide +kernel
theorem dX8_readWith_49 : decode cX8_readWith 49 = .ok (.ireturn, 1) := by decide +kernel
set_option maxRecDepth 100000 in
set_option maxHeartbeats 4000000 in
theorem c_X8_readWith (l : Launch) (G : GT) (n : Nat) (h : AH) (a m9 d9 k9 f9 w9 t9 : Nat) (ho : h a = some (c6 m9 d9 k9 f9 w9 t9)) (q9 : Nat) (h1 : d9 < 1000000) (h2 : q9 ≤ 99) : Ct l yX8_readWith cX8_readWith 3 (some .int) 2 0 0 G n h [.ref a, .int (nI q9)] (Rt (nI (rdw d9 q9)) n h) := by
  have hm1 : q9 % 6 < 6 := Nat.mod_lt _ (by decide)
  have hm2 : (q9 + 2) % 6 < 6 := Nat.mod_lt _ (by decide)
  refine Ct_of mX8_readWith.1 (Nat.le_of_ble_eq_true rfl) ?_
  intro p e s m args below meth c C hin
  refine V_Le (L' := [(0, .ref a), (1, .int (nI q9))]) rfl ?_
  refine V_iload_n 1 C dX8_readWith_0 rfl rfl ?_
  refine V_if_gtN 6 4 C dX8_readWith_1 (by decide) rfl (by omega) (fun c1 => ?_) (fun c1 => ?_)
  · refine V_iload_n 7 C dX8_readWith_6 rfl rfl ?_
    refine V_bipush 9 C dX8_readWith_7 rfl bip40 ?_
    refine V_icmp_ltN 17 12 C dX8_readWith_9 (by decide) rfl (by omega) (by omega) (fun c9 => ?_) (fun c9 => ?_)
    · refine V_aload_n 18 C dX8_readWith_17 rfl rfl ?_
      refine V_get (k := 1) 21 C dX8_readWith_18 rfl fcX8 tw92 (by decide) rfl ho rfl ?_
      refine V_iload_n 22 C dX8_readWith_21 rfl rfl ?_
      refine V_bipush 24 C dX8_readWith_22 rfl bip6 ?_
      refine V_iremN 25 C dX8_readWith_24 rfl (by omega) (by omega) (by omega) ?_
      refine V_callS 28 C dX8_readWith_25 rfl mX2_raised tw512 (c_X2_raised l G _ _ d9 (q9 % 6) h1 hm1) rfl rfl (by decide) ⟨by omega, by omega⟩ (Nat.le_of_ble_eq_true rfl) ?_
      rintro _ _ _ ⟨rfl, rfl, rfl⟩
      refine V_istore_n 29 C dX8_readWith_28 rfl (by decide) (L' := [(0, _), (1, _), (2, _)]) rfl ?_
      refine V_iload_n 30 C dX8_readWith_29 rfl rfl ?_
      refine V_bipush 32 C dX8_readWith_30 rfl bip20 ?_
      refine V_icmp_ltN 39 35 C dX8_readWith_32 (by decide) rfl (by omega) (by omega) (fun c32 => ?_) (fun c32 => ?_)
      · refine V_iload_n 40 C dX8_readWith_39 rfl rfl ?_
        refine V_iload_n 41 C dX8_readWith_40 rfl rfl ?_
        refine V_iconst 42 C dX8_readWith_41 rfl ic2 ?_
        refine V_iaddN 43 C dX8_readWith_42 rfl  ?_
        refine V_bipush 45 C dX8_readWith_43 rfl bip6 ?_
        refine V_iremN 46 C dX8_readWith_45 rfl (by omega) (by omega) (by omega) ?_
        refine V_callS 49 C dX8_readWith_46 rfl mX2_raised tw512 (c_X2_raised l G _ _ _ ((q9 + 2) % 6) (rz_lt h1 hm1) hm2) rfl rfl (by decide) ⟨by omega, by omega⟩ (Nat.le_of_ble_eq_true rfl) ?_
        rintro _ _ _ ⟨rfl, rfl, rfl⟩
        refine V_ireturn C dX8_readWith_49 rfl rfl (by omega) (by omega) ?_
        exact (Rt_mk (by unfold rdw; rw [if_neg (by omega), if_neg (by omega)]; first | rw [if_pos c32] | rw [if_neg (by omega)]))
      · refine V_iload_n 36 C dX8_readWith_35 rfl rfl ?_
        refine V_goto 49 C dX8_readWith_36 (by decide) ?_
        refine V_ireturn C dX8_readWith_49 rfl rfl (by omega) (by omega) ?_
        exact (Rt_mk (by unfold rdw; rw [if_neg (by omega), if_neg (by omega)]; first | rw [if_pos c32] | rw [if_neg (by omega)]))
    · refine V_aload_n 13 C dX8_readWith_12 rfl rfl ?_
      refine V_get (k := 1) 16 C dX8_readWith_13 rfl fcX8 tw92 (by decide) rfl ho rfl ?_
      refine V_ireturn C dX8_readWith_16 rfl rfl (by omega) (by omega) ?_
      exact (Rt_mk (by unfold rdw; rw [if_neg (by omega), if_pos c9]))
  · refine V_iconst 5 C dX8_readWith_4 rfl icm1 ?_
    refine V_ireturn C dX8_readWith_5 rfl rfl (by omega) (by omega) ?_
    exact (Rt_mk (by rw [show q9 = 0 from by omega, rdw_0]; rfl))

theorem dX9_inRange_0 : decode cX9_inRange 0 = .ok (.iload_n 0, 1) := by decide +kernel
theorem dX9_inRange_1 : decode cX9_inRange 1 = .ok (.iload_n 1, 1) := by decide +kernel
theorem dX9_inRange_2 : decode cX9_inRange 2 = .ok (.if_icmp .lt 12, 3) := by decide +kernel
theorem dX9_inRange_5 : decode cX9_inRange 5 = .ok (.iload_n 0, 1) := by decide +kernel
theorem dX9_inRange_6 : decode cX9_inRange 6 = .ok (.iload_n 2, 1) := by decide +kernel
theorem dX9_inRange_7 : decode cX9_inRange 7 = .ok (.if_icmp .gt 7, 3) := by decide +kernel
theorem dX9_inRange_10 : decode cX9_inRange 10 = .ok (.iconst 1, 1) := by decide +kernel
theorem dX9_inRange_11 : decode cX9_inRange 11 = .ok (.goto 4, 3) := by decide +kernel
theorem dX9_inRange_14 : decode cX9_inRange 14 = .ok (.iconst 0, 1) := by decide +kernel
theorem dX9_inRange_15 : decode cX9_inRange 15 = .ok (.ireturn, 1) := by decide +kernel
set_option maxRecDepth 100000 in
set_option maxHeartbeats 4000000 in
theorem c_X9_inRange (l : Launch) (G : GT) (n : Nat) (h : AH) (v lo hi : Int32) : Ct l yX9_inRange cX9_inRange 3 (some .boolean) 1 0 0 G n h [.int v, .int lo, .int hi] (Rt (nI (bp (lo.toInt ≤ v.toInt ∧ v.toInt ≤ hi.toInt))) n h) := by
  refine Ct_of mX9_inRange.1 (Nat.le_of_ble_eq_true rfl) ?_
  intro p e s m args below meth c C hin
  refine V_Le (L' := [(0, .int v), (1, .int lo), (2, .int hi)]) rfl ?_
  refine V_iload_n 1 C dX9_inRange_0 rfl rfl ?_
  refine V_iload_n 2 C dX9_inRange_1 rfl rfl ?_
  refine V_icmp_lt 14 5 C dX9_inRange_2 (by decide) rfl  (fun c2 => ?_) (fun c2 => ?_)
  · rw [Int32.lt_iff_toInt_lt] at c2
    refine V_iconst 15 C dX9_inRange_14 rfl ic0 ?_
    refine V_ireturn C dX9_inRange_15 rfl (by decide) (by omega) (by omega) ?_
    exact (Rt_mk (by first | exact (bp_t (by omega)).symm | exact (bp_f (by omega)).symm))
  · rw [Int32.lt_iff_toInt_lt] at c2
    refine V_iload_n 6 C dX9_inRange_5 rfl rfl ?_
    refine V_iload_n 7 C dX9_inRange_6 rfl rfl ?_
    refine V_icmp_gt 14 10 C dX9_inRange_7 (by decide) rfl  (fun c7 => ?_) (fun c7 => ?_)
    · rw [Int32.lt_iff_toInt_lt] at c7
      refine V_iconst 15 C dX9_inRange_14 rfl ic0 ?_
      refine V_ireturn C dX9_inRange_15 rfl (by decide) (by omega) (by omega) ?_
      exact (Rt_mk (by first | exact (bp_t (by omega)).symm | exact (bp_f (by omega)).symm))
    · rw [Int32.lt_iff_toInt_lt] at c7
      refine V_iconst 11 C dX9_inRange_10 rfl ic1 ?_
      refine V_goto 15 C dX9_inRange_11 (by decide) ?_
      refine V_ireturn C dX9_inRange_15 rfl (by decide) (by omega) (by omega) ?_
      exact (Rt_mk (by first | exact (bp_t (by omega)).symm | exact (bp_f (by omega)).symm))

theorem dX1_hasTown_0 : decode cX1_hasTown 0 = .ok (.iload_n 1, 1) := by decide +kernel
theorem dX1_hasTown_1 : decode cX1_hasTown 1 = .ok (.ifCond .lt 15, 3) := by decide +kernel
theorem dX1_hasTown_4 : decode cX1_hasTown 4 = .ok (.iload_n 1, 1) := by decide +kernel
theorem dX1_hasTown_5 : decode cX1_hasTown 5 = .ok (.aload_n 0, 1) := by decide +kernel
theorem dX1_hasTown_6 : decode cX1_hasTown 6 = .ok (.getfield 36, 3) := by decide +kernel
theorem dX1_hasTown_9 : decode cX1_hasTown 9 = .ok (.if_icmp .ge 7, 3) := by decide +kernel
theorem dX1_hasTown_12 : decode cX1_hasTown 12 = .ok (.iconst 1, 1) := by decide +kernel
theorem dX1_hasTown_13 : decode cX1_hasTown 13 = .ok (.goto 4, 3) := by decide +kernel
theorem dX1_hasTown_16 : decode cX1_hasTown 16 = .ok (.iconst 0, 1) := by decide +kernel
theorem dX1_hasTown_17 : decode cX1_hasTown 17 = .ok (.ireturn, 1) := by decide +kernel
set_option maxRecDepth 100000 in
set_option maxHeartbeats 4000000 in
theorem c_X1_hasTown (l : Launch) (G : GT) (n : Nat) (h : AH) (q : Nat) (y : Nat → Nat) (hC : cty q y h) (hI : Iv y) (t : Int32) : Ct l yX1_hasTown cX1_hasTown 2 (some .boolean) 1 0 0 G n h [.ref q, .int t] (Rt (nI (bp (ix t (y 0)))) n h) := by
  obtain ⟨⟨i0, i1, i2, i3, i4⟩, iR, iU, iM, iS⟩ := id hI
  obtain ⟨hob, ⟨fR, hfR, hR⟩, ⟨fU, hfU, hU⟩, ⟨fS, hfS, hS⟩, ⟨fM, hfM, hM⟩, -, -, -⟩ := id hC
  refine Ct_of mX1_hasTown.1 (Nat.le_of_ble_eq_true rfl) ?_
  intro p e s m args below meth c C hin
  refine V_Le (L' := [(0, .ref q), (1, .int t)]) rfl ?_
  refine V_iload_n 1 C dX1_hasTown_0 rfl rfl ?_
  refine V_if_lt 16 4 C dX1_hasTown_1 (by decide) rfl  (fun c1 => ?_) (fun c1 => ?_)
  · rw [Int32.lt_iff_toInt_lt, Int32.toInt_zero] at c1
    refine V_iconst 17 C dX1_hasTown_16 rfl ic0 ?_
    refine V_ireturn C dX1_hasTown_17 rfl (by decide) (by omega) (by omega) ?_
    exact (Rt_mk (by first | exact (bp_t (by unfold ix; omega)).symm | exact (bp_f (by unfold ix; omega)).symm))
  · rw [Int32.lt_iff_toInt_lt, Int32.toInt_zero] at c1
    refine V_iload_n 5 C dX1_hasTown_4 rfl rfl ?_
    refine V_aload_n 6 C dX1_hasTown_5 rfl rfl ?_
    refine V_get (k := 0) 9 C dX1_hasTown_6 rfl fcX1 tw122 (by decide) rfl hob rfl ?_
    refine V_icmp_ge 16 12 C dX1_hasTown_9 (by decide) rfl  (fun c9 => ?_) (fun c9 => ?_)
    · rw [Int32.le_iff_toInt_le, nI_toInt (by omega)] at c9
      refine V_iconst 17 C dX1_hasTown_16 rfl ic0 ?_
      refine V_ireturn C dX1_hasTown_17 rfl (by decide) (by omega) (by omega) ?_
      exact (Rt_mk (by first | exact (bp_t (by unfold ix; omega)).symm | exact (bp_f (by unfold ix; omega)).symm))
    · rw [Int32.le_iff_toInt_le, nI_toInt (by omega)] at c9
      refine V_iconst 13 C dX1_hasTown_12 rfl ic1 ?_
      refine V_goto 17 C dX1_hasTown_13 (by decide) ?_
      refine V_ireturn C dX1_hasTown_17 rfl (by decide) (by omega) (by omega) ?_
      exact (Rt_mk (by first | exact (bp_t (by unfold ix; omega)).symm | exact (bp_f (by unfold ix; omega)).symm))

theorem dX1_hasRoad_0 : decode cX1_hasRoad 0 = .ok (.iload_n 1, 1) := by decide +kernel
theorem dX1_hasRoad_1 : decode cX1_hasRoad 1 = .ok (.ifCond .lt 15, 3) := by decide +kernel
theorem dX1_hasRoad_4 : decode cX1_hasRoad 4 = .ok (.iload_n 1, 1) := by decide +kernel
theorem dX1_hasRoad_5 : decode cX1_hasRoad 5 = .ok (.aload_n 0, 1) := by decide +kernel
theorem dX1_hasRoad_6 : decode cX1_hasRoad 6 = .ok (.getfield 40, 3) := by decide +kernel
theorem dX1_hasRoad_9 : decode cX1_hasRoad 9 = .ok (.if_icmp .ge 7, 3) := by decide +kernel
theorem dX1_hasRoad_12 : decode cX1_hasRoad 12 = .ok (.iconst 1, 1) := by decide +kernel
theorem dX1_hasRoad_13 : decode cX1_hasRoad 13 = .ok (.goto 4, 3) := by decide +kernel
theorem dX1_hasRoad_16 : decode cX1_hasRoad 16 = .ok (.iconst 0, 1) := by decide +kernel
theorem dX1_hasRoad_17 : decode cX1_hasRoad 17 = .ok (.ireturn, 1) := by decide +kernel
set_option maxRecDepth 100000 in
set_option maxHeartbeats 4000000 in
theorem c_X1_hasRoad (l : Launch) (G : GT) (n : Nat) (h : AH) (q : Nat) (y : Nat → Nat) (hC : cty q y h) (hI : Iv y) (t : Int32) : Ct l yX1_hasRoad cX1_hasRoad 2 (some .boolean) 1 0 0 G n h [.ref q, .int t] (Rt (nI (bp (ix t (y 1)))) n h) := by
  obtain ⟨⟨i0, i1, i2, i3, i4⟩, iR, iU, iM, iS⟩ := id hI
  obtain ⟨hob, ⟨fR, hfR, hR⟩, ⟨fU, hfU, hU⟩, ⟨fS, hfS, hS⟩, ⟨fM, hfM, hM⟩, -, -, -⟩ := id hC
  refine Ct_of mX1_hasRoad.1 (Nat.le_of_ble_eq_true rfl) ?_
  intro p e s m args below meth c C hin
  refine V_Le (L' := [(0, .ref q), (1, .int t)]) rfl ?_
  refine V_iload_n 1 C dX1_hasRoad_0 rfl rfl ?_
  refine V_if_lt 16 4 C dX1_hasRoad_1 (by decide) rfl  (fun c1 => ?_) (fun c1 => ?_)
  · rw [Int32.lt_iff_toInt_lt, Int32.toInt_zero] at c1
    refine V_iconst 17 C dX1_hasRoad_16 rfl ic0 ?_
    refine V_ireturn C dX1_hasRoad_17 rfl (by decide) (by omega) (by omega) ?_
    exact (Rt_mk (by first | exact (bp_t (by unfold ix; omega)).symm | exact (bp_f (by unfold ix; omega)).symm))
  · rw [Int32.lt_iff_toInt_lt, Int32.toInt_zero] at c1
    refine V_iload_n 5 C dX1_hasRoad_4 rfl rfl ?_
    refine V_aload_n 6 C dX1_hasRoad_5 rfl rfl ?_
    refine V_get (k := 1) 9 C dX1_hasRoad_6 rfl fcX1 tw124 (by decide) rfl hob rfl ?_
    refine V_icmp_ge 16 12 C dX1_hasRoad_9 (by decide) rfl  (fun c9 => ?_) (fun c9 => ?_)
    · rw [Int32.le_iff_toInt_le, nI_toInt (by omega)] at c9
      refine V_iconst 17 C dX1_hasRoad_16 rfl ic0 ?_
      refine V_ireturn C dX1_hasRoad_17 rfl (by decide) (by omega) (by omega) ?_
      exact (Rt_mk (by first | exact (bp_t (by unfold ix; omega)).symm | exact (bp_f (by unfold ix; omega)).symm))
    · rw [Int32.le_iff_toInt_le, nI_toInt (by omega)] at c9
      refine V_iconst 13 C dX1_hasRoad_12 rfl ic1 ?_
      refine V_goto 17 C dX1_hasRoad_13 (by decide) ?_
      refine V_ireturn C dX1_hasRoad_17 rfl (by decide) (by omega) (by omega) ?_
      exact (Rt_mk (by first | exact (bp_t (by unfold ix; omega)).symm | exact (bp_f (by unfold ix; omega)).symm))

theorem dX1_hasRunner_0 : decode cX1_hasRunner 0 = .ok (.iload_n 1, 1) := by decide +kernel
theorem dX1_hasRunner_1 : decode cX1_hasRunner 1 = .ok (.ifCond .lt 15, 3) := by decide +kernel
theorem dX1_hasRunner_4 : decode cX1_hasRunner 4 = .ok (.iload_n 1, 1) := by decide +kernel
theorem dX1_hasRunner_5 : decode cX1_hasRunner 5 = .ok (.aload_n 0, 1) := by decide +kernel
theorem dX1_hasRunner_6 : decode cX1_hasRunner 6 = .ok (.getfield 43, 3) := by decide +kernel
theorem dX1_hasRunner_9 : decode cX1_hasRunner 9 = .ok (.if_icmp .ge 7, 3) := by decide +kernel
theorem dX1_hasRunner_12 : decode cX1_hasRunner 12 = .ok (.iconst 1, 1) := by decide +kernel
theorem dX1_hasRunner_13 : decode cX1_hasRunner 13 = .ok (.goto 4, 3) := by decide +kernel
theorem dX1_hasRunner_16 : decode cX1_hasRunner 16 = .ok (.iconst 0, 1) := by decide +kernel
theorem dX1_hasRunner_17 : decode cX1_hasRunner 17 = .ok (.ireturn, 1) := by decide +kernel
set_option maxRecDepth 100000 in
set_option maxHeartbeats 4000000 in
theorem c_X1_hasRunner (l : Launch) (G : GT) (n : Nat) (h : AH) (q : Nat) (y : Nat → Nat) (hC : cty q y h) (hI : Iv y) (t : Int32) : Ct l yX1_hasRunner cX1_hasRunner 2 (some .boolean) 1 0 0 G n h [.ref q, .int t] (Rt (nI (bp (ix t (y 2)))) n h) := by
  obtain ⟨⟨i0, i1, i2, i3, i4⟩, iR, iU, iM, iS⟩ := id hI
  obtain ⟨hob, ⟨fR, hfR, hR⟩, ⟨fU, hfU, hU⟩, ⟨fS, hfS, hS⟩, ⟨fM, hfM, hM⟩, -, -, -⟩ := id hC
  refine Ct_of mX1_hasRunner.1 (Nat.le_of_ble_eq_true rfl) ?_
  intro p e s m args below meth c C hin
  refine V_Le (L' := [(0, .ref q), (1, .int t)]) rfl ?_
  refine V_iload_n 1 C dX1_hasRunner_0 rfl rfl ?_
  refine V_if_lt 16 4 C dX1_hasRunner_1 (by decide) rfl  (fun c1 => ?_) (fun c1 => ?_)
  · rw [Int32.lt_iff_toInt_lt, Int32.toInt_zero] at c1
    refine V_iconst 17 C dX1_hasRunner_16 rfl ic0 ?_
    refine V_ireturn C dX1_hasRunner_17 rfl (by decide) (by omega) (by omega) ?_
    exact (Rt_mk (by first | exact (bp_t (by unfold ix; omega)).symm | exact (bp_f (by unfold ix; omega)).symm))
  · rw [Int32.lt_iff_toInt_lt, Int32.toInt_zero] at c1
    refine V_iload_n 5 C dX1_hasRunner_4 rfl rfl ?_
    refine V_aload_n 6 C dX1_hasRunner_5 rfl rfl ?_
    refine V_get (k := 2) 9 C dX1_hasRunner_6 rfl fcX1 tw127 (by decide) rfl hob rfl ?_
    refine V_icmp_ge 16 12 C dX1_hasRunner_9 (by decide) rfl  (fun c9 => ?_) (fun c9 => ?_)
    · rw [Int32.le_iff_toInt_le, nI_toInt (by omega)] at c9
      refine V_iconst 17 C dX1_hasRunner_16 rfl ic0 ?_
      refine V_ireturn C dX1_hasRunner_17 rfl (by decide) (by omega) (by omega) ?_
      exact (Rt_mk (by first | exact (bp_t (by unfold ix; omega)).symm | exact (bp_f (by unfold ix; omega)).symm))
    · rw [Int32.le_iff_toInt_le, nI_toInt (by omega)] at c9
      refine V_iconst 13 C dX1_hasRunner_12 rfl ic1 ?_
      refine V_goto 17 C dX1_hasRunner_13 (by decide) ?_
      refine V_ireturn C dX1_hasRunner_17 rfl (by decide) (by omega) (by omega) ?_
      exact (Rt_mk (by first | exact (bp_t (by unfold ix; omega)).symm | exact (bp_f (by unfold ix; omega)).symm))

theorem dX1_hasMessage_0 : decode cX1_hasMessage 0 = .ok (.iload_n 1, 1) := by decide +kernel
theorem dX1_hasMessage_1 : decode cX1_hasMessage 1 = .ok (.ifCond .lt 15, 3) := by decide +kernel
theorem dX1_hasMessage_4 : decode cX1_hasMessage 4 = .ok (.iload_n 1, 1) := by decide +kernel
theorem dX1_hasMessage_5 : decode cX1_hasMessage 5 = .ok (.aload_n 0, 1) := by decide +kernel
theorem dX1_hasMessage_6 : decode cX1_hasMessage 6 = .ok (.getfield 46, 3) := by decide +kernel
theorem dX1_hasMessage_9 : decode cX1_hasMessage 9 = .ok (.if_icmp .ge 7, 3) := by decide +kernel
theorem dX1_hasMessage_12 : decode cX1_hasMessage 12 = .ok (.iconst 1, 1) := by decide +kernel
theorem dX1_hasMessage_13 : decode cX1_hasMessage 13 = .ok (.goto 4, 3) := by decide +kernel
theorem dX1_hasMessage_16 : decode cX1_hasMessage 16 = .ok (.iconst 0, 1) := by decide +kernel
theorem dX1_hasMessage_17 : decode cX1_hasMessage 17 = .ok (.ireturn, 1) := by decide +kernel
set_option maxRecDepth 100000 in
set_option maxHeartbeats 4000000 in
theorem c_X1_hasMessage (l : Launch) (G : GT) (n : Nat) (h : AH) (q : Nat) (y : Nat → Nat) (hC : cty q y h) (hI : Iv y) (t : Int32) : Ct l yX1_hasMessage cX1_hasMessage 2 (some .boolean) 1 0 0 G n h [.ref q, .int t] (Rt (nI (bp (ix t (y 3)))) n h) := by
  obtain ⟨⟨i0, i1, i2, i3, i4⟩, iR, iU, iM, iS⟩ := id hI
  obtain ⟨hob, ⟨fR, hfR, hR⟩, ⟨fU, hfU, hU⟩, ⟨fS, hfS, hS⟩, ⟨fM, hfM, hM⟩, -, -, -⟩ := id hC
  refine Ct_of mX1_hasMessage.1 (Nat.le_of_ble_eq_true rfl) ?_
  intro p e s m args below meth c C hin
  refine V_Le (L' := [(0, .ref q), (1, .int t)]) rfl ?_
  refine V_iload_n 1 C dX1_hasMessage_0 rfl rfl ?_
  refine V_if_lt 16 4 C dX1_hasMessage_1 (by decide) rfl  (fun c1 => ?_) (fun c1 => ?_)
  · rw [Int32.lt_iff_toInt_lt, Int32.toInt_zero] at c1
    refine V_iconst 17 C dX1_hasMessage_16 rfl ic0 ?_
    refine V_ireturn C dX1_hasMessage_17 rfl (by decide) (by omega) (by omega) ?_
    exact (Rt_mk (by first | exact (bp_t (by unfold ix; omega)).symm | exact (bp_f (by unfold ix; omega)).symm))
  · rw [Int32.lt_iff_toInt_lt, Int32.toInt_zero] at c1
    refine V_iload_n 5 C dX1_hasMessage_4 rfl rfl ?_
    refine V_aload_n 6 C dX1_hasMessage_5 rfl rfl ?_
    refine V_get (k := 3) 9 C dX1_hasMessage_6 rfl fcX1 tw129 (by decide) rfl hob rfl ?_
    refine V_icmp_ge 16 12 C dX1_hasMessage_9 (by decide) rfl  (fun c9 => ?_) (fun c9 => ?_)
    · rw [Int32.le_iff_toInt_le, nI_toInt (by omega)] at c9
      refine V_iconst 17 C dX1_hasMessage_16 rfl ic0 ?_
      refine V_ireturn C dX1_hasMessage_17 rfl (by decide) (by omega) (by omega) ?_
      exact (Rt_mk (by first | exact (bp_t (by unfold ix; omega)).symm | exact (bp_f (by unfold ix; omega)).symm))
    · rw [Int32.le_iff_toInt_le, nI_toInt (by omega)] at c9
      refine V_iconst 13 C dX1_hasMessage_12 rfl ic1 ?_
      refine V_goto 17 C dX1_hasMessage_13 (by decide) ?_
      refine V_ireturn C dX1_hasMessage_17 rfl (by decide) (by omega) (by omega) ?_
      exact (Rt_mk (by first | exact (bp_t (by unfold ix; omega)).symm | exact (bp_f (by unfold ix; omega)).symm))

theorem dX1_hasSheet_0 : decode cX1_hasSheet 0 = .ok (.iload_n 1, 1) := by decide +kernel
theorem dX1_hasSheet_1 : decode cX1_hasSheet 1 = .ok (.ifCond .lt 15, 3) := by decide +kernel
theorem dX1_hasSheet_4 : decode cX1_hasSheet 4 = .ok (.iload_n 1, 1) := by decide +kernel
theorem dX1_hasSheet_5 : decode cX1_hasSheet 5 = .ok (.aload_n 0, 1) := by decide +kernel
theorem dX1_hasSheet_6 : decode cX1_hasSheet 6 = .ok (.getfield 49, 3) := by decide +kernel
theorem dX1_hasSheet_9 : decode cX1_hasSheet 9 = .ok (.if_icmp .ge 7, 3) := by decide +kernel
theorem dX1_hasSheet_12 : decode cX1_hasSheet 12 = .ok (.iconst 1, 1) := by decide +kernel
theorem dX1_hasSheet_13 : decode cX1_hasSheet 13 = .ok (.goto 4, 3) := by decide +kernel
theorem dX1_hasSheet_16 : decode cX1_hasSheet 16 = .ok (.iconst 0, 1) := by decide +kernel
theorem dX1_hasSheet_17 : decode cX1_hasSheet 17 = .ok (.ireturn, 1) := by decide +kernel
set_option maxRecDepth 100000 in
set_option maxHeartbeats 4000000 in
theorem c_X1_hasSheet (l : Launch) (G : GT) (n : Nat) (h : AH) (q : Nat) (y : Nat → Nat) (hC : cty q y h) (hI : Iv y) (t : Int32) : Ct l yX1_hasSheet cX1_hasSheet 2 (some .boolean) 1 0 0 G n h [.ref q, .int t] (Rt (nI (bp (ix t (y 4)))) n h) := by
  obtain ⟨⟨i0, i1, i2, i3, i4⟩, iR, iU, iM, iS⟩ := id hI
  obtain ⟨hob, ⟨fR, hfR, hR⟩, ⟨fU, hfU, hU⟩, ⟨fS, hfS, hS⟩, ⟨fM, hfM, hM⟩, -, -, -⟩ := id hC
  refine Ct_of mX1_hasSheet.1 (Nat.le_of_ble_eq_true rfl) ?_
  intro p e s m args below meth c C hin
  refine V_Le (L' := [(0, .ref q), (1, .int t)]) rfl ?_
  refine V_iload_n 1 C dX1_hasSheet_0 rfl rfl ?_
  refine V_if_lt 16 4 C dX1_hasSheet_1 (by decide) rfl  (fun c1 => ?_) (fun c1 => ?_)
  · rw [Int32.lt_iff_toInt_lt, Int32.toInt_zero] at c1
    refine V_iconst 17 C dX1_hasSheet_16 rfl ic0 ?_
    refine V_ireturn C dX1_hasSheet_17 rfl (by decide) (by omega) (by omega) ?_
    exact (Rt_mk (by first | exact (bp_t (by unfold ix; omega)).symm | exact (bp_f (by unfold ix; omega)).symm))
  · rw [Int32.lt_iff_toInt_lt, Int32.toInt_zero] at c1
    refine V_iload_n 5 C dX1_hasSheet_4 rfl rfl ?_
    refine V_aload_n 6 C dX1_hasSheet_5 rfl rfl ?_
    refine V_get (k := 4) 9 C dX1_hasSheet_6 rfl fcX1 tw131 (by decide) rfl hob rfl ?_
    refine V_icmp_ge 16 12 C dX1_hasSheet_9 (by decide) rfl  (fun c9 => ?_) (fun c9 => ?_)
    · rw [Int32.le_iff_toInt_le, nI_toInt (by omega)] at c9
      refine V_iconst 17 C dX1_hasSheet_16 rfl ic0 ?_
      refine V_ireturn C dX1_hasSheet_17 rfl (by decide) (by omega) (by omega) ?_
      exact (Rt_mk (by first | exact (bp_t (by unfold ix; omega)).symm | exact (bp_f (by unfold ix; omega)).symm))
    · rw [Int32.le_iff_toInt_le, nI_toInt (by omega)] at c9
      refine V_iconst 13 C dX1_hasSheet_12 rfl ic1 ?_
      refine V_goto 17 C dX1_hasSheet_13 (by decide) ?_
      refine V_ireturn C dX1_hasSheet_17 rfl (by decide) (by omega) (by omega) ?_
      exact (Rt_mk (by first | exact (bp_t (by unfold ix; omega)).symm | exact (bp_f (by unfold ix; omega)).symm))

theorem dX1_placeOf_0 : decode cX1_placeOf 0 = .ok (.aload_n 0, 1) := by decide +kernel
theorem dX1_placeOf_1 : decode cX1_placeOf 1 = .ok (.getfield 31, 3) := by decide +kernel
theorem dX1_placeOf_4 : decode cX1_placeOf 4 = .ok (.iload_n 1, 1) := by decide +kernel
theorem dX1_placeOf_5 : decode cX1_placeOf 5 = .ok (.aaload, 1) := by decide +kernel
theorem dX1_placeOf_6 : decode cX1_placeOf 6 = .ok (.astore_n 2, 1) := by decide +kernel
theorem dX1_placeOf_7 : decode cX1_placeOf 7 = .ok (.aload_n 2, 1) := by decide +kernel
theorem dX1_placeOf_8 : decode cX1_placeOf 8 = .ok (.getfield 68, 3) := by decide +kernel
theorem dX1_placeOf_11 : decode cX1_placeOf 11 = .ok (.iconst (-1), 1) := by decide +kernel
theorem dX1_placeOf_12 : decode cX1_placeOf 12 = .ok (.if_icmp .ne 8, 3) := by decide +kernel
theorem dX1_placeOf_15 : decode cX1_placeOf 15 = .ok (.aload_n 2, 1) := by decide +kernel
theorem dX1_placeOf_16 : decode cX1_placeOf 16 = .ok (.getfield 71, 3) := by decide +kernel
theorem dX1_placeOf_19 : decode cX1_placeOf 19 = .ok (.ireturn, 1) := by decide +kernel
theorem dX1_placeOf_20 : decode cX1_placeOf 20 = .ok (.aload_n 0, 1) := by decide +kernel
theorem dX1_placeOf_21 : decode cX1_placeOf 21 = .ok (.getfield 20, 3) := by decide +kernel
theorem dX1_placeOf_24 : decode cX1_placeOf 24 = .ok (.aload_n 2, 1) := by decide +kernel
theorem dX1_placeOf_25 : decode cX1_placeOf 25 = .ok (.getfield 68, 3) := by decide +kernel
theorem dX1_placeOf_28 : decode cX1_placeOf 28 = .ok (.aaload, 1) := by decide +kernel
theorem dX1_placeOf_29 : decode cX1_placeOf 29 = .ok (.astore_n 3, 1) := by decide +kernel
theorem dX1_placeOf_30 : decode cX1_placeOf 30 = .ok (.aload_n 3, 1) := by decide +kernel
theorem dX1_placeOf_31 : decode cX1_placeOf 31 = .ok (.getfield 74, 3) := by decide +kernel
theorem dX1_placeOf_34 : decode cX1_placeOf 34 = .ok (.ifCond .ne 10, 3) := by decide +kernel
theorem dX1_placeOf_37 : decode cX1_placeOf 37 = .ok (.aload_n 3, 1) := by decide +kernel
theorem dX1_placeOf_38 : decode cX1_placeOf 38 = .ok (.getfield 77, 3) := by decide +kernel
theorem dX1_placeOf_41 : decode cX1_placeOf 41 = .ok (.goto 4, 3) := by decide +kernel
theorem dX1_placeOf_44 : decode cX1_placeOf 44 = .ok (.iconst (-1), 1) := by decide +kernel
theorem dX1_placeOf_45 : decode cX1_placeOf 45 = .ok (.ireturn, 1) := by decide +kernel
set_option maxRecDepth 100000 in
set_option maxHeartbeats 4000000 in
theorem c_X1_placeOf (l : Launch) (G : GT) (n : Nat) (h : AH) (q : Nat) (y : Nat → Nat) (hC : cty q y h) (hI : Iv y) (s9 : Nat) (hs : s9 < y 4) : Ct l yX1_placeOf cX1_placeOf 4 (some .int) 1 0 0 G n h [.ref q, .int (nI s9)] (Rt (nI (pof y s9)) n h) := by
  obtain ⟨⟨i0, i1, i2, i3, i4⟩, iR, iU, iM, iS⟩ := id hI
  obtain ⟨hob, ⟨fR, hfR, hR⟩, ⟨fU, hfU, hU⟩, ⟨fS, hfS, hS⟩, ⟨fM, hfM, hM⟩, -, -, -⟩ := id hC
  obtain ⟨s0, s1, s2, s3, s4, s5⟩ := iS s9 hs
  unfold NO at s4
  have hsh := cty_sh hC hs i4
  refine Ct_of mX1_placeOf.1 (Nat.le_of_ble_eq_true rfl) ?_
  intro p e s m args below meth c C hin
  refine V_Le (L' := [(0, .ref q), (1, .int (nI s9))]) rfl ?_
  refine V_aload_n 1 C dX1_placeOf_0 rfl rfl ?_
  refine V_get (k := 10) 4 C dX1_placeOf_1 rfl fcX1 tw145 (by decide) rfl hob rfl ?_
  refine V_iload_n 5 C dX1_placeOf_4 rfl rfl ?_
  refine V_aald (j := s9) 6 C dX1_placeOf_5 rfl hfS rfl rfl (by omega) (by omega) (hS _ (by omega)) ?_
  refine V_astore_n 7 C dX1_placeOf_6 rfl (by decide) (L' := [(0, _), (1, _), (2, _)]) rfl ?_
  refine V_aload_n 8 C dX1_placeOf_7 rfl rfl ?_
  refine V_get (k := 4) 11 C dX1_placeOf_8 rfl fcX8 tw103 (by decide) rfl hsh rfl ?_
  refine V_iconst 12 C dX1_placeOf_11 rfl icm1 ?_
  refine V_icmp_neN 20 15 C dX1_placeOf_12 (by decide) rfl (by omega) (by omega) (fun c12 => ?_) (fun c12 => ?_)
  · have hcu : y (58 + 6 * s9 + 4) < y 2 := by omega
    obtain ⟨u0, u1⟩ := iU _ hcu
    have hru := cty_ru hC hcu i2
    refine V_aload_n 21 C dX1_placeOf_20 rfl rfl ?_
    refine V_get (k := 8) 24 C dX1_placeOf_21 rfl fcX1 tw140 (by decide) rfl hob rfl ?_
    refine V_aload_n 25 C dX1_placeOf_24 rfl rfl ?_
    refine V_get (k := 4) 28 C dX1_placeOf_25 rfl fcX8 tw103 (by decide) rfl hsh rfl ?_
    refine V_aald (j := y (58 + 6 * s9 + 4)) 29 C dX1_placeOf_28 rfl hfU rfl rfl (by omega) (by omega) (hU _ (by omega)) ?_
    refine V_astore_n 30 C dX1_placeOf_29 rfl (by decide) (L' := [(0, _), (1, _), (2, _), (3, _)]) rfl ?_
    refine V_aload_n 31 C dX1_placeOf_30 rfl rfl ?_
    refine V_get (k := 1) 34 C dX1_placeOf_31 rfl fcX6 tw71 (by decide) rfl hru rfl ?_
    refine V_if_neN 44 37 C dX1_placeOf_34 (by decide) rfl (by omega) (fun c34 => ?_) (fun c34 => ?_)
    · refine V_iconst 45 C dX1_placeOf_44 rfl icm1 ?_
      refine V_ireturn C dX1_placeOf_45 rfl rfl (by omega) (by omega) ?_
      exact (Rt_mk (by unfold pof tof NO; rw [if_neg c12]; first | rw [if_pos c34] | rw [if_neg c34]))
    · refine V_aload_n 38 C dX1_placeOf_37 rfl rfl ?_
      refine V_get (k := 0) 41 C dX1_placeOf_38 rfl fcX6 tw68 (by decide) rfl hru rfl ?_
      refine V_goto 45 C dX1_placeOf_41 (by decide) ?_
      refine V_ireturn C dX1_placeOf_45 rfl rfl (by omega) (by omega) ?_
      exact (Rt_mk (by unfold pof tof NO; rw [if_neg c12]; first | rw [if_pos c34] | rw [if_neg c34]))
  · refine V_aload_n 16 C dX1_placeOf_15 rfl rfl ?_
    refine V_get (k := 5) 19 C dX1_placeOf_16 rfl fcX8 tw106 (by decide) rfl hsh rfl ?_
    refine V_ireturn C dX1_placeOf_19 rfl rfl (by omega) (by omega) ?_
    exact (Rt_mk (by unfold pof NO; rw [if_pos c12]))

theorem dX1_readOf_0 : decode cX1_readOf 0 = .ok (.aload_n 0, 1) := by decide +kernel
theorem dX1_readOf_1 : decode cX1_readOf 1 = .ok (.getfield 31, 3) := by decide +kernel
theorem dX1_readOf_4 : decode cX1_readOf 4 = .ok (.iload_n 1, 1) := by decide +kernel
theorem dX1_readOf_5 : decode cX1_readOf 5 = .ok (.aaload, 1) := by decide +kernel
theorem dX1_readOf_6 : decode cX1_readOf 6 = .ok (.aload_n 0, 1) := by decide +kernel
theorem dX1_readOf_7 : decode cX1_readOf 7 = .ok (.getfield 31, 3) := by decide +kernel
theorem dX1_readOf_10 : decode cX1_readOf 10 = .ok (.iload_n 1, 1) := by decide +kernel
theorem dX1_readOf_11 : decode cX1_readOf 11 = .ok (.aaload, 1) := by decide +kernel
theorem dX1_readOf_12 : decode cX1_readOf 12 = .ok (.getfield 78, 3) := by decide +kernel
theorem dX1_readOf_15 : decode cX1_readOf 15 = .ok (.invokevirtual 81, 3) := by decide +kernel
theorem dX1_readOf_18 : decode cX1_readOf 18 = .ok (.ireturn, 1) := by decide +kernel
set_option maxRecDepth 100000 in
set_option maxHeartbeats 4000000 in
theorem c_X1_readOf (l : Launch) (G : GT) (n : Nat) (h : AH) (q : Nat) (y : Nat → Nat) (hC : cty q y h) (hI : Iv y) (s9 : Nat) (hs : s9 < y 4) : Ct l yX1_readOf cX1_readOf 2 (some .int) 3 0 0 G n h [.ref q, .int (nI s9)] (Rt (nI (rof y s9)) n h) := by
  obtain ⟨⟨i0, i1, i2, i3, i4⟩, iR, iU, iM, iS⟩ := id hI
  obtain ⟨hob, ⟨fR, hfR, hR⟩, ⟨fU, hfU, hU⟩, ⟨fS, hfS, hS⟩, ⟨fM, hfM, hM⟩, -, -, -⟩ := id hC
  obtain ⟨s0, s1, s2, s3, s4, s5⟩ := iS s9 hs
  unfold NO at s4
  have hsh := cty_sh hC hs i4
  refine Ct_of mX1_readOf.1 (Nat.le_of_ble_eq_true rfl) ?_
  intro p e s m args below meth c C hin
  refine V_Le (L' := [(0, .ref q), (1, .int (nI s9))]) rfl ?_
  refine V_aload_n 1 C dX1_readOf_0 rfl rfl ?_
  refine V_get (k := 10) 4 C dX1_readOf_1 rfl fcX1 tw145 (by decide) rfl hob rfl ?_
  refine V_iload_n 5 C dX1_readOf_4 rfl rfl ?_
  refine V_aald (j := s9) 6 C dX1_readOf_5 rfl hfS rfl rfl (by omega) (by omega) (hS _ (by omega)) ?_
  refine V_aload_n 7 C dX1_readOf_6 rfl rfl ?_
  refine V_get (k := 10) 10 C dX1_readOf_7 rfl fcX1 tw145 (by decide) rfl hob rfl ?_
  refine V_iload_n 11 C dX1_readOf_10 rfl rfl ?_
  refine V_aald (j := s9) 12 C dX1_readOf_11 rfl hfS rfl rfl (by omega) (by omega) (hS _ (by omega)) ?_
  refine V_get (k := 2) 15 C dX1_readOf_12 rfl fcX8 tw98 (by decide) rfl hsh rfl ?_
  refine V_callV 18 C dX1_readOf_15 rfl mX8_readWith tw508 fcX8 hsh (c_X8_readWith l G _ _ _ _ _ _ _ _ _ hsh _ (by omega) (by omega)) rfl rfl (by decide) ⟨by omega, by omega⟩ (Nat.le_of_ble_eq_true rfl) ?_
  rintro _ _ _ ⟨rfl, rfl, rfl⟩
  refine V_ireturn C dX1_readOf_18 rfl rfl (by omega) (by omega) ?_
  exact (Rt_mk rfl)

theorem dX1_errorsAfter_0 : decode cX1_errorsAfter 0 = .ok (.aload_n 0, 1) := by decide +kernel
theorem dX1_errorsAfter_1 : decode cX1_errorsAfter 1 = .ok (.getfield 31, 3) := by decide +kernel
theorem dX1_errorsAfter_4 : decode cX1_errorsAfter 4 = .ok (.iload_n 1, 1) := by decide +kernel
theorem dX1_errorsAfter_5 : decode cX1_errorsAfter 5 = .ok (.aaload, 1) := by decide +kernel
theorem dX1_errorsAfter_6 : decode cX1_errorsAfter 6 = .ok (.astore_n 3, 1) := by decide +kernel
theorem dX1_errorsAfter_7 : decode cX1_errorsAfter 7 = .ok (.aload_n 3, 1) := by decide +kernel
theorem dX1_errorsAfter_8 : decode cX1_errorsAfter 8 = .ok (.aload_n 3, 1) := by decide +kernel
theorem dX1_errorsAfter_9 : decode cX1_errorsAfter 9 = .ok (.iload_n 2, 1) := by decide +kernel
theorem dX1_errorsAfter_10 : decode cX1_errorsAfter 10 = .ok (.invokevirtual 85, 3) := by decide +kernel
theorem dX1_errorsAfter_13 : decode cX1_errorsAfter 13 = .ok (.invokevirtual 81, 3) := by decide +kernel
theorem dX1_errorsAfter_16 : decode cX1_errorsAfter 16 = .ok (.istore 4, 2) := by decide +kernel
theorem dX1_errorsAfter_18 : decode cX1_errorsAfter 18 = .ok (.iload 4, 2) := by decide +kernel
theorem dX1_errorsAfter_20 : decode cX1_errorsAfter 20 = .ok (.iconst (-1), 1) := by decide +kernel
theorem dX1_errorsAfter_21 : decode cX1_errorsAfter 21 = .ok (.if_icmp .ne 8, 3) := by decide +kernel
theorem dX1_errorsAfter_24 : decode cX1_errorsAfter 24 = .ok (.bipush 6, 2) := by decide +kernel
theorem dX1_errorsAfter_26 : decode cX1_errorsAfter 26 = .ok (.goto 17, 3) := by decide +kernel
theorem dX1_errorsAfter_29 : decode cX1_errorsAfter 29 = .ok (.iload 4, 2) := by decide +kernel
theorem dX1_errorsAfter_31 : decode cX1_errorsAfter 31 = .ok (.aload_n 0, 1) := by decide +kernel
theorem dX1_errorsAfter_32 : decode cX1_errorsAfter 32 = .ok (.getfield 25, 3) := by decide +kernel
theorem dX1_errorsAfter_35 : decode cX1_errorsAfter 35 = .ok (.aload_n 3, 1) := by decide +kernel
theorem dX1_errorsAfter_36 : decode cX1_errorsAfter 36 = .ok (.getfield 88, 3) := by decide +kernel
theorem dX1_errorsAfter_39 : decode cX1_errorsAfter 39 = .ok (.iaload, 1) := by decide +kernel
theorem dX1_errorsAfter_40 : decode cX1_errorsAfter 40 = .ok (.invokestatic 91, 3) := by decide +kernel
theorem dX1_errorsAfter_43 : decode cX1_errorsAfter 43 = .ok (.ireturn, 1) := by decide +kernel
set_option maxRecDepth 100000 in
set_option maxHeartbeats 4000000 in
theorem c_X1_errorsAfter (l : Launch) (G : GT) (n : Nat) (h : AH) (q : Nat) (y : Nat → Nat) (hC : cty q y h) (hI : Iv y) (s9 k9 : Nat) (hs : s9 < y 4) (hk : k9 ≤ 1000) : Ct l yX1_errorsAfter cX1_errorsAfter 5 (some .int) 3 0 0 G n h [.ref q, .int (nI s9), .int (nI k9)] (Rt (nI (ers y s9 k9)) n h) := by
  obtain ⟨⟨i0, i1, i2, i3, i4⟩, iR, iU, iM, iS⟩ := id hI
  obtain ⟨hob, ⟨fR, hfR, hR⟩, ⟨fU, hfU, hU⟩, ⟨fS, hfS, hS⟩, ⟨fM, hfM, hM⟩, -, -, -⟩ := id hC
  obtain ⟨s0, s1, s2, s3, s4, s5⟩ := iS s9 hs
  unfold NO at s4
  have hsh := cty_sh hC hs i4
  have hm := iM (y (58 + 6 * s9)) s0
  have hik : ink y s9 k9 ≤ 99 := by unfold ink; omega
  have hrb := rdw_b (y (58 + 6 * s9 + 1)) (ink y s9 k9) s1
  have hers : ers y s9 k9 = err (rdw (y (58 + 6 * s9 + 1)) (ink y s9 k9)) (y (52 + y (58 + 6 * s9))) := rfl
  obtain ⟨rd, hrd⟩ : ∃ rd, rdw (y (58 + 6 * s9 + 1)) (ink y s9 k9) = rd := ⟨_, rfl⟩
  rw [hrd] at hrb hers
  refine Ct_of mX1_errorsAfter.1 (Nat.le_of_ble_eq_true rfl) ?_
  intro p e s m args below meth c C hin
  refine V_Le (L' := [(0, .ref q), (1, .int (nI s9)), (2, .int (nI k9))]) rfl ?_
  refine V_aload_n 1 C dX1_errorsAfter_0 rfl rfl ?_
  refine V_get (k := 10) 4 C dX1_errorsAfter_1 rfl fcX1 tw145 (by decide) rfl hob rfl ?_
  refine V_iload_n 5 C dX1_errorsAfter_4 rfl rfl ?_
  refine V_aald (j := s9) 6 C dX1_errorsAfter_5 rfl hfS rfl rfl (by omega) (by omega) (hS _ (by omega)) ?_
  refine V_astore_n 7 C dX1_errorsAfter_6 rfl (by decide) (L' := [(0, _), (1, _), (2, _), (3, _)]) rfl ?_
  refine V_aload_n 8 C dX1_errorsAfter_7 rfl rfl ?_
  refine V_aload_n 9 C dX1_errorsAfter_8 rfl rfl ?_
  refine V_iload_n 10 C dX1_errorsAfter_9 rfl rfl ?_
  refine V_callV 13 C dX1_errorsAfter_10 rfl mX8_inkAfter tw523 fcX8 hsh (c_X8_inkAfter l G _ _ _ _ _ _ _ _ _ hsh (by omega) (by omega) _ hk) rfl rfl (by decide) ⟨by omega, by omega⟩ (Nat.le_of_ble_eq_true rfl) ?_
  rintro _ _ _ ⟨rfl, rfl, rfl⟩
  refine V_callV 16 C dX1_errorsAfter_13 rfl mX8_readWith tw508 fcX8 hsh (c_X8_readWith l G _ _ _ _ _ _ _ _ _ hsh (ink y s9 k9) (by omega) hik) rfl rfl (by decide) ⟨by omega, by omega⟩ (Nat.le_of_ble_eq_true rfl) ?_
  rintro _ _ _ ⟨rfl, rfl, rfl⟩
  rw [hrd]
  refine V_istore 18 C dX1_errorsAfter_16 rfl (by decide) (L' := [(0, _), (1, _), (2, _), (3, _), (4, _)]) rfl ?_
  refine V_iload 20 C dX1_errorsAfter_18 rfl rfl ?_
  refine V_iconst 21 C dX1_errorsAfter_20 rfl icm1 ?_
  refine V_icmp_neN 29 24 C dX1_errorsAfter_21 (by decide) rfl (by omega) (by omega) (fun c21 => ?_) (fun c21 => ?_)
  · have hr6 : rd < 1000000 := by rw [← hrd]; exact rdw_lt s1 (fun z => c21 (by rw [← hrd, z, rdw_0, NO_eq]))
    refine V_iload 31 C dX1_errorsAfter_29 rfl rfl ?_
    refine V_aload_n 32 C dX1_errorsAfter_31 rfl rfl ?_
    refine V_get (k := 9) 35 C dX1_errorsAfter_32 rfl fcX1 tw143 (by decide) rfl hob rfl ?_
    refine V_aload_n 36 C dX1_errorsAfter_35 rfl rfl ?_
    refine V_get (k := 0) 39 C dX1_errorsAfter_36 rfl fcX8 tw91 (by decide) rfl hsh rfl ?_
    refine V_iald (j := y (58 + 6 * s9)) 40 C dX1_errorsAfter_39 rfl hfM rfl (by omega) (by omega) ?_
    rw [hM _ s0]
    refine V_callS 43 C dX1_errorsAfter_40 rfl mX2_unlikePlaces tw549 (c_X2_unlikePlaces l G _ _ _ _ hr6 hm) rfl rfl (by decide) ⟨by omega, by omega⟩ (Nat.le_of_ble_eq_true rfl) ?_
    rintro _ _ _ ⟨rfl, rfl, rfl⟩
    refine V_ireturn C dX1_errorsAfter_43 rfl rfl (by omega) (by omega) ?_
    exact (Rt_mk (by rw [hers]; unfold err NO; first | rw [if_pos c21] | rw [if_neg c21]))
  · refine V_bipush 26 C dX1_errorsAfter_24 rfl bip6 ?_
    refine V_goto 43 C dX1_errorsAfter_26 (by decide) ?_
    refine V_ireturn C dX1_errorsAfter_43 rfl rfl (by omega) (by omega) ?_
    exact (Rt_mk (by rw [hers]; unfold err NO; first | rw [if_pos c21] | rw [if_neg c21]))

theorem dX1_allErrors_0 : decode cX1_allErrors 0 = .ok (.iconst 0, 1) := by decide +kernel
theorem dX1_allErrors_1 : decode cX1_allErrors 1 = .ok (.istore_n 1, 1) := by decide +kernel
theorem dX1_allErrors_2 : decode cX1_allErrors 2 = .ok (.iconst 0, 1) := by decide +kernel
theorem dX1_allErrors_3 : decode cX1_allErrors 3 = .ok (.istore_n 2, 1) := by decide +kernel
theorem dX1_allErrors_4 : decode cX1_allErrors 4 = .ok (.iload_n 2, 1) := by decide +kernel
theorem dX1_allErrors_5 : decode cX1_allErrors 5 = .ok (.aload_n 0, 1) := by decide +kernel
theorem dX1_allErrors_6 : decode cX1_allErrors 6 = .ok (.getfield 49, 3) := by decide +kernel
theorem dX1_allErrors_9 : decode cX1_allErrors 9 = .ok (.if_icmp .ge 18, 3) := by decide +kernel
theorem dX1_allErrors_12 : decode cX1_allErrors 12 = .ok (.iload_n 1, 1) := by decide +kernel
theorem dX1_allErrors_13 : decode cX1_allErrors 13 = .ok (.aload_n 0, 1) := by decide +kernel
theorem dX1_allErrors_14 : decode cX1_allErrors 14 = .ok (.iload_n 2, 1) := by decide +kernel
theorem dX1_allErrors_15 : decode cX1_allErrors 15 = .ok (.iconst 0, 1) := by decide +kernel
theorem dX1_allErrors_16 : decode cX1_allErrors 16 = .ok (.invokevirtual 97, 3) := by decide +kernel
theorem dX1_allErrors_19 : decode cX1_allErrors 19 = .ok (.iadd, 1) := by decide +kernel
theorem dX1_allErrors_20 : decode cX1_allErrors 20 = .ok (.istore_n 1, 1) := by decide +kernel
theorem dX1_allErrors_21 : decode cX1_allErrors 21 = .ok (.iinc 2 1, 3) := by decide +kernel
theorem dX1_allErrors_24 : decode cX1_allErrors 24 = .ok (.goto (-20), 3) := by decide +kernel
theorem dX1_allErrors_27 : decode cX1_allErrors 27 = .ok (.iload_n 1, 1) := by decide +kernel
theorem dX1_allErrors_28 : decode cX1_allErrors 28 = .ok (.ireturn, 1) := by decide +kernel
set_option maxRecDepth 100000 in
set_option maxHeartbeats 4000000 in
theorem c_X1_allErrors (l : Launch) (G : GT) (n : Nat) (h : AH) (q : Nat) (y : Nat → Nat) (hC : cty q y h) (hI : Iv y) : Ct l yX1_allErrors cX1_allErrors 3 (some .int) 4 0 0 G n h [.ref q] (Rt (nI (allk y (y 4))) n h) := by
  obtain ⟨⟨i0, i1, i2, i3, i4⟩, iR, iU, iM, iS⟩ := id hI
  obtain ⟨hob, ⟨fR, hfR, hR⟩, ⟨fU, hfU, hU⟩, ⟨fS, hfS, hS⟩, ⟨fM, hfM, hM⟩, -, -, -⟩ := id hC
  refine Ct_of mX1_allErrors.1 (Nat.le_of_ble_eq_true rfl) ?_
  intro p e s m args below meth c C hin
  refine V_Le (L' := [(0, .ref q)]) rfl ?_
  refine V_iconst 1 C dX1_allErrors_0 rfl ic0 ?_
  refine V_istore_n 2 C dX1_allErrors_1 rfl (by decide) (L' := [(0, _), (1, _)]) rfl ?_
  refine V_iconst 3 C dX1_allErrors_2 rfl ic0 ?_
  refine V_istore_n 4 C dX1_allErrors_3 rfl (by decide) (L' := [(0, _), (1, _), (2, _)]) rfl ?_
  have J4 : ∀ (fuel : Nat) (i : Nat) (hi : i ≤ y 4), y 4 - i < fuel → V p l e (rmD 4 0 0) s m args below meth c (MQ below (Po G (Rt (nI (allk y (y 4))) n h)) args s 0 0 (rg G)) G 3 0 0 n h 4 [(0, .ref q), (1, .int (nI (allk y i))), (2, .int (nI i))] [] := by
    intro fuel
    induction fuel with
    | zero => intro i hi hf; omega
    | succ fuel ih4 =>
      intro i hi hf
      refine V_iload_n 5 C dX1_allErrors_4 rfl rfl ?_
      refine V_aload_n 6 C dX1_allErrors_5 rfl rfl ?_
      refine V_get (k := 4) 9 C dX1_allErrors_6 rfl fcX1 tw131 (by decide) rfl hob rfl ?_
      refine V_icmp_geN 27 12 C dX1_allErrors_9 (by decide) rfl (by omega) (by omega) (fun c9 => ?_) (fun c9 => ?_)
      · refine V_iload_n 28 C dX1_allErrors_27 rfl rfl ?_
        refine V_ireturn C dX1_allErrors_28 rfl rfl (by omega) (by omega) ?_
        exact (Rt_mk (by rw [show i = y 4 from by omega]))
      · refine V_iload_n 13 C dX1_allErrors_12 rfl rfl ?_
        refine V_aload_n 14 C dX1_allErrors_13 rfl rfl ?_
        refine V_iload_n 15 C dX1_allErrors_14 rfl rfl ?_
        refine V_iconst 16 C dX1_allErrors_15 rfl ic0 ?_
        refine V_callV 19 C dX1_allErrors_16 rfl mX1_errorsAfter tw545 fcX1 hob (c_X1_errorsAfter l G _ _ q y hC hI i 0 (by omega) (by omega)) rfl rfl (by decide) ⟨by omega, by omega⟩ (Nat.le_of_ble_eq_true rfl) ?_
        rintro _ _ _ ⟨rfl, rfl, rfl⟩
        refine V_iaddN 20 C dX1_allErrors_19 rfl  ?_
        refine V_istore_n 21 C dX1_allErrors_20 rfl (by decide) (L' := [(0, _), (1, _), (2, _)]) rfl ?_
        refine V_iinc 24 C dX1_allErrors_21 rfl (by decide) rfl (ii1 _) (L' := [(0, _), (1, _), (2, _)]) rfl ?_
        refine V_goto 4 C dX1_allErrors_24 (by decide) ?_
        refine V_L [0, 1, 2] rfl ?_
        exact ih4 (i + 1) (by omega) (by omega)
  refine V_L [0, 1, 2] rfl ?_
  exact J4 (y 4 + 1) 0 (by omega) (by omega)

theorem dX1_unreadable_0 : decode cX1_unreadable 0 = .ok (.iconst 0, 1) := by decide +kernel
theorem dX1_unreadable_1 : decode cX1_unreadable 1 = .ok (.istore_n 1, 1) := by decide +kernel
theorem dX1_unreadable_2 : decode cX1_unreadable 2 = .ok (.iconst 0, 1) := by decide +kernel
theorem dX1_unreadable_3 : decode cX1_unreadable 3 = .ok (.istore_n 2, 1) := by decide +kernel
theorem dX1_unreadable_4 : decode cX1_unreadable 4 = .ok (.iload_n 2, 1) := by decide +kernel
theorem dX1_unreadable_5 : decode cX1_unreadable 5 = .ok (.aload_n 0, 1) := by decide +kernel
theorem dX1_unreadable_6 : decode cX1_unreadable 6 = .ok (.getfield 49, 3) := by decide +kernel
theorem dX1_unreadable_9 : decode cX1_unreadable 9 = .ok (.if_icmp .ge 24, 3) := by decide +kernel
theorem dX1_unreadable_12 : decode cX1_unreadable 12 = .ok (.aload_n 0, 1) := by decide +kernel
theorem dX1_unreadable_13 : decode cX1_unreadable 13 = .ok (.getfield 31, 3) := by decide +kernel
theorem dX1_unreadable_16 : decode cX1_unreadable 16 = .ok (.iload_n 2, 1) := by decide +kernel
theorem dX1_unreadable_17 : decode cX1_unreadable 17 = .ok (.aaload, 1) := by decide +kernel
theorem dX1_unreadable_18 : decode cX1_unreadable 18 = .ok (.invokevirtual 100, 3) := by decide +kernel
theorem dX1_unreadable_21 : decode cX1_unreadable 21 = .ok (.ifCond .ne 6, 3) := by decide +kernel
theorem dX1_unreadable_24 : decode cX1_unreadable 24 = .ok (.iinc 1 1, 3) := by decide +kernel
theorem dX1_unreadable_27 : decode cX1_unreadable 27 = .ok (.iinc 2 1, 3) := by decide +kernel
theorem dX1_unreadable_30 : decode cX1_unreadable 30 = .ok (.goto (-26), 3) := by decide +kernel
theorem dX1_unreadable_33 : decode cX1_unreadable 33 = .ok (.iload_n 1, 1) := by decide +kernel
theorem dX1_unreadable_34 : decode cX1_unreadable 34 = .ok (.ireturn, 1) := by decide +kernel
set_option maxRecDepth 100000 in
set_option maxHeartbeats 4000000 in
theorem c_X1_unreadable (l : Launch) (G : GT) (n : Nat) (h : AH) (q : Nat) (y : Nat → Nat) (hC : cty q y h) (hI : Iv y) : Ct l yX1_unreadable cX1_unreadable 3 (some .int) 2 0 0 G n h [.ref q] (Rt (nI (blk y (y 4))) n h) := by
  obtain ⟨⟨i0, i1, i2, i3, i4⟩, iR, iU, iM, iS⟩ := id hI
  obtain ⟨hob, ⟨fR, hfR, hR⟩, ⟨fU, hfU, hU⟩, ⟨fS, hfS, hS⟩, ⟨fM, hfM, hM⟩, -, -, -⟩ := id hC
  refine Ct_of mX1_unreadable.1 (Nat.le_of_ble_eq_true rfl) ?_
  intro p e s m args below meth c C hin
  refine V_Le (L' := [(0, .ref q)]) rfl ?_
  refine V_iconst 1 C dX1_unreadable_0 rfl ic0 ?_
  refine V_istore_n 2 C dX1_unreadable_1 rfl (by decide) (L' := [(0, _), (1, _)]) rfl ?_
  refine V_iconst 3 C dX1_unreadable_2 rfl ic0 ?_
  refine V_istore_n 4 C dX1_unreadable_3 rfl (by decide) (L' := [(0, _), (1, _), (2, _)]) rfl ?_
  have J4 : ∀ (fuel : Nat) (i : Nat) (hi : i ≤ y 4), y 4 - i < fuel → V p l e (rmD 2 0 0) s m args below meth c (MQ below (Po G (Rt (nI (blk y (y 4))) n h)) args s 0 0 (rg G)) G 3 0 0 n h 4 [(0, .ref q), (1, .int (nI (blk y i))), (2, .int (nI i))] [] := by
    intro fuel
    induction fuel with
    | zero => intro i hi hf; omega
    | succ fuel ih4 =>
      intro i hi hf
      refine V_iload_n 5 C dX1_unreadable_4 rfl rfl ?_
      refine V_aload_n 6 C dX1_unreadable_5 rfl rfl ?_
      refine V_get (k := 4) 9 C dX1_unreadable_6 rfl fcX1 tw131 (by decide) rfl hob rfl ?_
      refine V_icmp_geN 33 12 C dX1_unreadable_9 (by decide) rfl (by omega) (by omega) (fun c9 => ?_) (fun c9 => ?_)
      · refine V_iload_n 34 C dX1_unreadable_33 rfl rfl ?_
        refine V_ireturn C dX1_unreadable_34 rfl rfl (by omega) (by omega) ?_
        exact (Rt_mk (by rw [show i = y 4 from by omega]))
      · refine V_aload_n 13 C dX1_unreadable_12 rfl rfl ?_
        refine V_get (k := 10) 16 C dX1_unreadable_13 rfl fcX1 tw145 (by decide) rfl hob rfl ?_
        refine V_iload_n 17 C dX1_unreadable_16 rfl rfl ?_
        refine V_aald (j := i) 18 C dX1_unreadable_17 rfl hfS rfl rfl (by omega) (by omega) (hS _ (by omega)) ?_
        have hs : i < y 4 := by omega
        have hsh := cty_sh hC hs i4
        obtain ⟨s0, s1, s2, s3, s4, s5⟩ := iS i hs
        unfold NO at s4
        refine V_callV 21 C dX1_unreadable_18 rfl mX8_isReadable tw492 fcX8 hsh (c_X8_isReadable l G _ _ _ _ _ _ _ _ _ hsh (by omega)) rfl rfl (by decide) ⟨by omega, by omega⟩ (Nat.le_of_ble_eq_true rfl) ?_
        rintro _ _ _ ⟨rfl, rfl, rfl⟩
        refine V_if_neB 27 24 C dX1_unreadable_21 (by decide) rfl  (fun c21 => ?_) (fun c21 => ?_)
        · have hz : blk y i = blk y (i + 1) := by simp only [blk]; rw [bp_f c21]; rfl
          refine V_iinc 30 C dX1_unreadable_27 rfl (by decide) rfl (ii1 _) (L' := [(0, _), (1, _), (2, _)]) rfl ?_
          refine V_goto 4 C dX1_unreadable_30 (by decide) ?_
          refine V_L [0, 1, 2] rfl ?_
          rw [hz]; exact ih4 (i + 1) (by omega) (by omega)
        · have hz : blk y i + 1 = blk y (i + 1) := by simp only [blk]; rw [bp_t (Decidable.not_not.mp c21)]
          refine V_iinc 27 C dX1_unreadable_24 rfl (by decide) rfl (ii1 _) (L' := [(0, _), (1, _), (2, _)]) rfl ?_
          refine V_iinc 30 C dX1_unreadable_27 rfl (by decide) rfl (ii1 _) (L' := [(0, _), (1, _), (2, _)]) rfl ?_
          refine V_goto 4 C dX1_unreadable_30 (by decide) ?_
          refine V_L [0, 1, 2] rfl ?_
          rw [hz]; exact ih4 (i + 1) (by omega) (by omega)
  refine V_L [0, 1, 2] rfl ?_
  exact J4 (y 4 + 1) 0 (by omega) (by omega)

theorem dX1_hasRunnerIn_0 : decode cX1_hasRunnerIn 0 = .ok (.iconst 0, 1) := by decide +kernel
theorem dX1_hasRunnerIn_1 : decode cX1_hasRunnerIn 1 = .ok (.istore_n 3, 1) := by decide +kernel
theorem dX1_hasRunnerIn_2 : decode cX1_hasRunnerIn 2 = .ok (.iload_n 3, 1) := by decide +kernel
theorem dX1_hasRunnerIn_3 : decode cX1_hasRunnerIn 3 = .ok (.aload_n 0, 1) := by decide +kernel
theorem dX1_hasRunnerIn_4 : decode cX1_hasRunnerIn 4 = .ok (.getfield 43, 3) := by decide +kernel
theorem dX1_hasRunnerIn_7 : decode cX1_hasRunnerIn 7 = .ok (.if_icmp .ge 29, 3) := by decide +kernel
theorem dX1_hasRunnerIn_10 : decode cX1_hasRunnerIn 10 = .ok (.iload_n 3, 1) := by decide +kernel
theorem dX1_hasRunnerIn_11 : decode cX1_hasRunnerIn 11 = .ok (.iload_n 2, 1) := by decide +kernel
theorem dX1_hasRunnerIn_12 : decode cX1_hasRunnerIn 12 = .ok (.if_icmp .eq 18, 3) := by decide +kernel
theorem dX1_hasRunnerIn_15 : decode cX1_hasRunnerIn 15 = .ok (.aload_n 0, 1) := by decide +kernel
theorem dX1_hasRunnerIn_16 : decode cX1_hasRunnerIn 16 = .ok (.getfield 20, 3) := by decide +kernel
theorem dX1_hasRunnerIn_19 : decode cX1_hasRunnerIn 19 = .ok (.iload_n 3, 1) := by decide +kernel
theorem dX1_hasRunnerIn_20 : decode cX1_hasRunnerIn 20 = .ok (.aaload, 1) := by decide +kernel
theorem dX1_hasRunnerIn_21 : decode cX1_hasRunnerIn 21 = .ok (.iload_n 1, 1) := by decide +kernel
theorem dX1_hasRunnerIn_22 : decode cX1_hasRunnerIn 22 = .ok (.invokevirtual 104, 3) := by decide +kernel
theorem dX1_hasRunnerIn_25 : decode cX1_hasRunnerIn 25 = .ok (.ifCond .eq 5, 3) := by decide +kernel
theorem dX1_hasRunnerIn_28 : decode cX1_hasRunnerIn 28 = .ok (.iconst 1, 1) := by decide +kernel
theorem dX1_hasRunnerIn_29 : decode cX1_hasRunnerIn 29 = .ok (.ireturn, 1) := by decide +kernel
theorem dX1_hasRunnerIn_30 : decode cX1_hasRunnerIn 30 = .ok (.iinc 3 1, 3) := by decide +kernel
theorem dX1_hasRunnerIn_33 : decode cX1_hasRunnerIn 33 = .ok (.goto (-31), 3) := by decide +kernel
theorem dX1_hasRunnerIn_36 : decode cX1_hasRunnerIn 36 = .ok (.iconst 0, 1) := by decide +kernel
theorem dX1_hasRunnerIn_37 : decode cX1_hasRunnerIn 37 = .ok (.ireturn, 1) := by decide +kernel
set_option maxRecDepth 100000 in
set_option maxHeartbeats 4000000 in
theorem c_X1_hasRunnerIn (l : Launch) (G : GT) (n : Nat) (h : AH) (q : Nat) (y : Nat → Nat) (hC : cty q y h) (hI : Iv y) (t bt : Nat) (ht : t < 7) (hb : bt < 2 ^ 32) : Ct l yX1_hasRunnerIn cX1_hasRunnerIn 4 (some .boolean) 2 0 0 G n h [.ref q, .int (nI t), .int (nI bt)] (fun v n' h' => ∃ b, ((b = 1 ∧ rin y t bt (y 2)) ∨ (b = 0 ∧ ¬ rin y t bt (y 2))) ∧ v = some (.int (nI b)) ∧ n = n' ∧ h = h') := by
  obtain ⟨⟨i0, i1, i2, i3, i4⟩, iR, iU, iM, iS⟩ := id hI
  obtain ⟨hob, ⟨fR, hfR, hR⟩, ⟨fU, hfU, hU⟩, ⟨fS, hfS, hS⟩, ⟨fM, hfM, hM⟩, -, -, -⟩ := id hC
  refine Ct_of mX1_hasRunnerIn.1 (Nat.le_of_ble_eq_true rfl) ?_
  intro p e s m args below meth c C hin
  refine V_Le (L' := [(0, .ref q), (1, .int (nI t)), (2, .int (nI bt))]) rfl ?_
  refine V_iconst 1 C dX1_hasRunnerIn_0 rfl ic0 ?_
  refine V_istore_n 2 C dX1_hasRunnerIn_1 rfl (by decide) (L' := [(0, _), (1, _), (2, _), (3, _)]) rfl ?_
  have J2 : ∀ (fuel : Nat) (i : Nat) (hi : i ≤ y 2) (hn : ¬ rin y t bt i), y 2 - i < fuel → V p l e (rmD 2 0 0) s m args below meth c (MQ below (Po G (fun v n' h' => ∃ b, ((b = 1 ∧ rin y t bt (y 2)) ∨ (b = 0 ∧ ¬ rin y t bt (y 2))) ∧ v = some (.int (nI b)) ∧ n = n' ∧ h = h')) args s 0 0 (rg G)) G 4 0 0 n h 2 [(0, .ref q), (1, .int (nI t)), (2, .int (nI bt)), (3, .int (nI i))] [] := by
    intro fuel
    induction fuel with
    | zero => intro i hi hn hf; omega
    | succ fuel ih2 =>
      intro i hi hn hf
      refine V_iload_n 3 C dX1_hasRunnerIn_2 rfl rfl ?_
      refine V_aload_n 4 C dX1_hasRunnerIn_3 rfl rfl ?_
      refine V_get (k := 2) 7 C dX1_hasRunnerIn_4 rfl fcX1 tw127 (by decide) rfl hob rfl ?_
      refine V_icmp_geN 36 10 C dX1_hasRunnerIn_7 (by decide) rfl (by omega) (by omega) (fun c7 => ?_) (fun c7 => ?_)
      · refine V_iconst 37 C dX1_hasRunnerIn_36 rfl ic0 ?_
        refine V_ireturn C dX1_hasRunnerIn_37 rfl (by decide) (by omega) (by omega) ?_
        exact ⟨0, Or.inr ⟨rfl, by rw [show y 2 = i from by omega]; exact hn⟩, rfl, rfl, rfl⟩
      · refine V_iload_n 11 C dX1_hasRunnerIn_10 rfl rfl ?_
        refine V_iload_n 12 C dX1_hasRunnerIn_11 rfl rfl ?_
        refine V_icmp_eqN 30 15 C dX1_hasRunnerIn_12 (by decide) rfl (by omega) (by omega) (fun c12 => ?_) (fun c12 => ?_)
        · have hz : i = bt ∨ ¬ tof y i = t := Or.inl c12
          refine V_iinc 33 C dX1_hasRunnerIn_30 rfl (by decide) rfl (ii1 _) (L' := [(0, _), (1, _), (2, _), (3, _)]) rfl ?_
          refine V_goto 2 C dX1_hasRunnerIn_33 (by decide) ?_
          refine V_L [0, 1, 2, 3] rfl ?_
          exact ih2 (i + 1) (by omega) (rin_s hn hz) (by omega)
        · refine V_aload_n 16 C dX1_hasRunnerIn_15 rfl rfl ?_
          refine V_get (k := 8) 19 C dX1_hasRunnerIn_16 rfl fcX1 tw140 (by decide) rfl hob rfl ?_
          refine V_iload_n 20 C dX1_hasRunnerIn_19 rfl rfl ?_
          refine V_aald (j := i) 21 C dX1_hasRunnerIn_20 rfl hfU rfl rfl (by omega) (by omega) (hU _ (by omega)) ?_
          refine V_iload_n 22 C dX1_hasRunnerIn_21 rfl rfl ?_
          have hlt : i < y 2 := by omega
          have hru := cty_ru hC hlt i2
          obtain ⟨u0, u1⟩ := iU i hlt
          refine V_callV 25 C dX1_hasRunnerIn_22 rfl mX6_isIn tw500 fcX6 hru (c_X6_isIn l G _ _ _ _ _ _ hru t (by omega) (by omega) (by omega)) rfl rfl (by decide) ⟨by omega, by omega⟩ (Nat.le_of_ble_eq_true rfl) ?_
          rintro _ _ _ ⟨rfl, rfl, rfl⟩
          refine V_if_eqB 30 28 C dX1_hasRunnerIn_25 (by decide) rfl  (fun c25 => ?_) (fun c25 => ?_)
          · have hz : i = bt ∨ ¬ tof y i = t := Or.inr (by unfold tof NO; split <;> omega)
            refine V_iinc 33 C dX1_hasRunnerIn_30 rfl (by decide) rfl (ii1 _) (L' := [(0, _), (1, _), (2, _), (3, _)]) rfl ?_
            refine V_goto 2 C dX1_hasRunnerIn_33 (by decide) ?_
            refine V_L [0, 1, 2, 3] rfl ?_
            exact ih2 (i + 1) (by omega) (rin_s hn hz) (by omega)
          · have hz : tof y i = t := by unfold tof; rw [if_pos c25.1]; exact c25.2
            refine V_iconst 29 C dX1_hasRunnerIn_28 rfl ic1 ?_
            refine V_ireturn C dX1_hasRunnerIn_29 rfl (by decide) (by omega) (by omega) ?_
            exact ⟨1, Or.inl ⟨rfl, i, by omega, c12, hz⟩, rfl, rfl, rfl⟩
  refine V_L [0, 1, 2, 3] rfl ?_
  exact J2 (y 2 + 1) 0 (by omega) rin_0 (by omega)

theorem dX1_copyHindrance_0 : decode cX1_copyHindrance 0 = .ok (.aload_n 0, 1) := by decide +kernel
theorem dX1_copyHindrance_1 : decode cX1_copyHindrance 1 = .ok (.iload_n 1, 1) := by decide +kernel
theorem dX1_copyHindrance_2 : decode cX1_copyHindrance 2 = .ok (.invokevirtual 108, 3) := by decide +kernel
theorem dX1_copyHindrance_5 : decode cX1_copyHindrance 5 = .ok (.istore_n 2, 1) := by decide +kernel
theorem dX1_copyHindrance_6 : decode cX1_copyHindrance 6 = .ok (.iload_n 2, 1) := by decide +kernel
theorem dX1_copyHindrance_7 : decode cX1_copyHindrance 7 = .ok (.iconst (-1), 1) := by decide +kernel
theorem dX1_copyHindrance_8 : decode cX1_copyHindrance 8 = .ok (.if_icmp .ne 5, 3) := by decide +kernel
theorem dX1_copyHindrance_11 : decode cX1_copyHindrance 11 = .ok (.iconst 1, 1) := by decide +kernel
theorem dX1_copyHindrance_12 : decode cX1_copyHindrance 12 = .ok (.ireturn, 1) := by decide +kernel
theorem dX1_copyHindrance_13 : decode cX1_copyHindrance 13 = .ok (.aload_n 0, 1) := by decide +kernel
theorem dX1_copyHindrance_14 : decode cX1_copyHindrance 14 = .ok (.getfield 31, 3) := by decide +kernel
theorem dX1_copyHindrance_17 : decode cX1_copyHindrance 17 = .ok (.iload_n 1, 1) := by decide +kernel
theorem dX1_copyHindrance_18 : decode cX1_copyHindrance 18 = .ok (.aaload, 1) := by decide +kernel
theorem dX1_copyHindrance_19 : decode cX1_copyHindrance 19 = .ok (.invokevirtual 100, 3) := by decide +kernel
theorem dX1_copyHindrance_22 : decode cX1_copyHindrance 22 = .ok (.ifCond .ne 5, 3) := by decide +kernel
theorem dX1_copyHindrance_25 : decode cX1_copyHindrance 25 = .ok (.iconst 2, 1) := by decide +kernel
theorem dX1_copyHindrance_26 : decode cX1_copyHindrance 26 = .ok (.ireturn, 1) := by decide +kernel
theorem dX1_copyHindrance_27 : decode cX1_copyHindrance 27 = .ok (.aload_n 0, 1) := by decide +kernel
theorem dX1_copyHindrance_28 : decode cX1_copyHindrance 28 = .ok (.iload_n 2, 1) := by decide +kernel
theorem dX1_copyHindrance_29 : decode cX1_copyHindrance 29 = .ok (.aload_n 0, 1) := by decide +kernel
theorem dX1_copyHindrance_30 : decode cX1_copyHindrance 30 = .ok (.getfield 31, 3) := by decide +kernel
theorem dX1_copyHindrance_33 : decode cX1_copyHindrance 33 = .ok (.iload_n 1, 1) := by decide +kernel
theorem dX1_copyHindrance_34 : decode cX1_copyHindrance 34 = .ok (.aaload, 1) := by decide +kernel
theorem dX1_copyHindrance_35 : decode cX1_copyHindrance 35 = .ok (.getfield 68, 3) := by decide +kernel
theorem dX1_copyHindrance_38 : decode cX1_copyHindrance 38 = .ok (.invokevirtual 111, 3) := by decide +kernel
theorem dX1_copyHindrance_41 : decode cX1_copyHindrance 41 = .ok (.ifCond .ne 5, 3) := by decide +kernel
theorem dX1_copyHindrance_44 : decode cX1_copyHindrance 44 = .ok (.iconst 3, 1) := by decide +kernel
theorem dX1_copyHindrance_45 : decode cX1_copyHindrance 45 = .ok (.ireturn, 1) := by decide +kernel
theorem dX1_copyHindrance_46 : decode cX1_copyHindrance 46 = .ok (.aload_n 0, 1) := by decide +kernel
theorem dX1_copyHindrance_47 : decode cX1_copyHindrance 47 = .ok (.getfield 49, 3) := by decide +kernel
theorem dX1_copyHindrance_50 : decode cX1_copyHindrance 50 = .ok (.bipush 12, 2) := by decide +kernel
theorem dX1_copyHindrance_52 : decode cX1_copyHindrance 52 = .ok (.if_icmp .lt 7, 3) := by decide +kernel
theorem dX1_copyHindrance_55 : decode cX1_copyHindrance 55 = .ok (.iconst 4, 1) := by decide +kernel
theorem dX1_copyHindrance_56 : decode cX1_copyHindrance 56 = .ok (.goto 4, 3) := by decide +kernel
theorem dX1_copyHindrance_59 : decode cX1_copyHindrance 59 = .ok (.iconst 0, 1) := by decide +kernel
theorem dX1_copyHindrance_60 : decode cX1_copyHindrance 60 = .ok (.ireturn, 1) := by decide +kernel
set_option maxRecDepth 100000 in
set_option maxHeartbeats 4000000 in
theorem c_X1_copyHindrance (l : Launch) (G : GT) (n : Nat) (h : AH) (q : Nat) (y : Nat → Nat) (hC : cty q y h) (hI : Iv y) (s9 : Nat) (hs : s9 < y 4) : Ct l yX1_copyHindrance cX1_copyHindrance 3 (some .int) 3 0 0 G n h [.ref q, .int (nI s9)] (Rt (nI (crs y s9)) n h) := by
  obtain ⟨⟨i0, i1, i2, i3, i4⟩, iR, iU, iM, iS⟩ := id hI
  obtain ⟨hob, ⟨fR, hfR, hR⟩, ⟨fU, hfU, hU⟩, ⟨fS, hfS, hS⟩, ⟨fM, hfM, hM⟩, -, -, -⟩ := id hC
  obtain ⟨s0, s1, s2, s3, s4, s5⟩ := iS s9 hs
  unfold NO at s4
  have hsh := cty_sh hC hs i4
  have hpo := pof_b hI hs
  unfold NO at hpo
  refine Ct_of mX1_copyHindrance.1 (Nat.le_of_ble_eq_true rfl) ?_
  intro p e s m args below meth c C hin
  refine V_Le (L' := [(0, .ref q), (1, .int (nI s9))]) rfl ?_
  refine V_aload_n 1 C dX1_copyHindrance_0 rfl rfl ?_
  refine V_iload_n 2 C dX1_copyHindrance_1 rfl rfl ?_
  refine V_callV 5 C dX1_copyHindrance_2 rfl mX1_placeOf tw460 fcX1 hob (c_X1_placeOf l G _ _ q y hC hI s9 hs) rfl rfl (by decide) ⟨by omega, by omega⟩ (Nat.le_of_ble_eq_true rfl) ?_
  rintro _ _ _ ⟨rfl, rfl, rfl⟩
  refine V_istore_n 6 C dX1_copyHindrance_5 rfl (by decide) (L' := [(0, _), (1, _), (2, _)]) rfl ?_
  refine V_iload_n 7 C dX1_copyHindrance_6 rfl rfl ?_
  refine V_iconst 8 C dX1_copyHindrance_7 rfl icm1 ?_
  refine V_icmp_neN 13 11 C dX1_copyHindrance_8 (by decide) rfl (by omega) (by omega) (fun c8 => ?_) (fun c8 => ?_)
  · refine V_aload_n 14 C dX1_copyHindrance_13 rfl rfl ?_
    refine V_get (k := 10) 17 C dX1_copyHindrance_14 rfl fcX1 tw145 (by decide) rfl hob rfl ?_
    refine V_iload_n 18 C dX1_copyHindrance_17 rfl rfl ?_
    refine V_aald (j := s9) 19 C dX1_copyHindrance_18 rfl hfS rfl rfl (by omega) (by omega) (hS _ (by omega)) ?_
    refine V_callV 22 C dX1_copyHindrance_19 rfl mX8_isReadable tw492 fcX8 hsh (c_X8_isReadable l G _ _ _ _ _ _ _ _ _ hsh (by omega)) rfl rfl (by decide) ⟨by omega, by omega⟩ (Nat.le_of_ble_eq_true rfl) ?_
    rintro _ _ _ ⟨rfl, rfl, rfl⟩
    refine V_if_neB 27 25 C dX1_copyHindrance_22 (by decide) rfl  (fun c22 => ?_) (fun c22 => ?_)
    · refine V_aload_n 28 C dX1_copyHindrance_27 rfl rfl ?_
      refine V_iload_n 29 C dX1_copyHindrance_28 rfl rfl ?_
      refine V_aload_n 30 C dX1_copyHindrance_29 rfl rfl ?_
      refine V_get (k := 10) 33 C dX1_copyHindrance_30 rfl fcX1 tw145 (by decide) rfl hob rfl ?_
      refine V_iload_n 34 C dX1_copyHindrance_33 rfl rfl ?_
      refine V_aald (j := s9) 35 C dX1_copyHindrance_34 rfl hfS rfl rfl (by omega) (by omega) (hS _ (by omega)) ?_
      refine V_get (k := 4) 38 C dX1_copyHindrance_35 rfl fcX8 tw103 (by decide) rfl hsh rfl ?_
      refine V_callV 41 C dX1_copyHindrance_38 rfl mX1_hasRunnerIn tw496 fcX1 hob (c_X1_hasRunnerIn l G _ _ q y hC hI _ _ (by omega) (by omega)) rfl rfl (by decide) ⟨by omega, by omega⟩ (Nat.le_of_ble_eq_true rfl) ?_
      rintro _ _ _ ⟨b9, hb9, rfl, rfl, rfl⟩
      have hb9b : b9 < 2 := by omega
      refine V_if_neN 46 44 C dX1_copyHindrance_41 (by decide) rfl (by omega) (fun c41 => ?_) (fun c41 => ?_)
      · have hrb := rinb_iff.mpr (show rin y _ _ _ by rcases hb9 with ⟨e, hz⟩ | ⟨e, hz⟩; exact hz; exact absurd e c41)
        refine V_aload_n 47 C dX1_copyHindrance_46 rfl rfl ?_
        refine V_get (k := 4) 50 C dX1_copyHindrance_47 rfl fcX1 tw131 (by decide) rfl hob rfl ?_
        refine V_bipush 52 C dX1_copyHindrance_50 rfl bip12 ?_
        refine V_icmp_ltN 59 55 C dX1_copyHindrance_52 (by decide) rfl (by omega) (by omega) (fun c52 => ?_) (fun c52 => ?_)
        · refine V_iconst 60 C dX1_copyHindrance_59 rfl ic0 ?_
          refine V_ireturn C dX1_copyHindrance_60 rfl rfl (by omega) (by omega) ?_
          exact (Rt_mk (by unfold crs; rw [NO_eq, if_neg c8, if_neg (by omega), hrb, if_neg (by decide)]; first | rw [if_pos (by omega)] | rw [if_neg (by omega)]))
        · refine V_iconst 56 C dX1_copyHindrance_55 rfl ic4 ?_
          refine V_goto 60 C dX1_copyHindrance_56 (by decide) ?_
          refine V_ireturn C dX1_copyHindrance_60 rfl rfl (by omega) (by omega) ?_
          exact (Rt_mk (by unfold crs; rw [NO_eq, if_neg c8, if_neg (by omega), hrb, if_neg (by decide)]; first | rw [if_pos (by omega)] | rw [if_neg (by omega)]))
      · have hrb := eq_false_of_ne_true (fun z => (show ¬ rin y _ _ _ by rcases hb9 with ⟨e, hz⟩ | ⟨e, hz⟩; (rw [e] at c41; exact absurd c41 (by decide)); exact hz) (rinb_iff.mp z))
        refine V_iconst 45 C dX1_copyHindrance_44 rfl ic3 ?_
        refine V_ireturn C dX1_copyHindrance_45 rfl rfl (by omega) (by omega) ?_
        exact (Rt_mk (by unfold crs; rw [NO_eq, if_neg c8, if_neg (by omega), if_pos hrb]))
    · refine V_iconst 26 C dX1_copyHindrance_25 rfl ic2 ?_
      refine V_ireturn C dX1_copyHindrance_26 rfl rfl (by omega) (by omega) ?_
      exact (Rt_mk (by unfold crs; rw [NO_eq, if_neg c8, if_pos (by omega)]))
  · refine V_iconst 12 C dX1_copyHindrance_11 rfl ic1 ?_
    refine V_ireturn C dX1_copyHindrance_12 rfl rfl (by omega) (by omega) ?_
    exact (Rt_mk (by unfold crs; rw [NO_eq, if_pos c8]))


