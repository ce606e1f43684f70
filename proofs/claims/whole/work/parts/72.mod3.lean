/-! THE REFERENCE'S FACE: actions -/
theorem rA_1 {i1 i2 i3 : Nat} {x : Ar} {y : Nat → Nat} (e : x = (cN, y)) : kA i1 i2 i3 x.1 = i1 ∧ x.2 = y := by rw [e]; exact ⟨kA_1 rfl, rfl⟩
theorem rA_2 {i1 i2 i3 : Nat} {x : Ar} {y : Nat → Nat} (e : x = (cR, y)) : kA i1 i2 i3 x.1 = i2 ∧ x.2 = y := by rw [e]; exact ⟨kA_2 rfl, rfl⟩
theorem rA_3 {i1 i2 i3 : Nat} {x : Ar} {y : Nat → Nat} (e : x = (cW, y)) : kA i1 i2 i3 x.1 = i3 ∧ x.2 = y := by rw [e]; exact ⟨kA_3 rfl, rfl⟩
theorem rC_1 {i1 i2 i3 : Nat} {x : Ar} {y : Nat → Nat} (e : x = (cN, y)) : kA i1 i2 i3 x.1 = i1 ∧ cnt x = y := by rw [e]; exact ⟨kA_1 rfl, if_pos (Or.inr (Or.inl rfl))⟩
theorem rC_2 {i1 i2 i3 : Nat} {x : Ar} {y : Nat → Nat} (e : x = (cR, y)) : kA i1 i2 i3 x.1 = i2 ∧ cnt x = y := by rw [e]; exact ⟨kA_2 rfl, if_pos (Or.inr (Or.inr (Or.inl rfl)))⟩
theorem PoM_A {m n i1 i2 i3 w k N : Nat} {h h' : AH} {v b : Int32} {y y2 : Nat → Nat} {D S : Nat → Nat → Nat} {sv : Nat → Bool} {T : Nat → Nat} (hw : ¬ w = 0) (e : kA i1 i2 i3 v = w ∧ y2 = y) (hS : SysM m (nI w) y k D S sv N T h') (hX : FM m h h') : PoM m n h (kA i1 i2 i3 v) v y2 (aK (kA i1 i2 i3 v) k) (aD (kA i1 i2 i3 v) k D y) S sv N T (some (.int b)) n h' := by
  obtain ⟨e1, rfl⟩ := e
  have e3 : aK (kA i1 i2 i3 v) k = k := if_neg (by rw [e1]; exact hw)
  have e4 : aD (kA i1 i2 i3 v) k D y2 = D := if_neg (by rw [e1]; exact hw)
  rw [e3, e4]
  exact PoM_k w e1 hw rfl hS hX
theorem PoM_B {m n i1 i2 i3 k N : Nat} {h h' : AH} {v b : Int32} {y y2 y3 : Nat → Nat} {D S : Nat → Nat → Nat} {sv : Nat → Bool} {T : Nat → Nat} (hn : ¬ v = cN ∧ ¬ v = cR ∧ ¬ v = cW) (e1 : b = v) (e2 : y3 = y2) (hS : SysM m (nI 0) y3 (psC k) (psD k D y) S sv N T h') (hX : FM m h h') : PoM m n h (kA i1 i2 i3 v) v y2 (aK (kA i1 i2 i3 v) k) (aD (kA i1 i2 i3 v) k D y) S sv N T (some (.int b)) n h' := by
  subst e2
  have e := kA_0 (i1 := i1) (i2 := i2) (i3 := i3) hn
  have e3 : aK (kA i1 i2 i3 v) k = psC k := if_pos e
  have e4 : aD (kA i1 i2 i3 v) k D y = psD k D y := if_pos e
  rw [e3, e4]
  exact PoM_0 e rfl e1 hS hX
theorem cnt_cp {y : Nat → Nat} {s f : Nat} : cnt (nI (crs y s), cpC y s f) = cpOn y s f := by
  have hc := crs_le y s
  have hn := nIc (show crs y s < 2 ^ 31 by omega)
  unfold cnt cpOn cpC
  by_cases e : crs y s = 0
  · rw [if_pos e, if_pos (Or.inl (by rw [e]; rfl)), if_pos e]
  · rw [if_neg e, if_neg (fun g => g.elim (show ¬ nI (crs y s) = nI 0 from nIne (by omega) (by omega) e) (fun g => g.elim hn.1 (fun g => g.elim hn.2.1 hn.2.2))), if_neg e]
theorem cnt_pr {y : Nat → Nat} {a b c f : Nat} : cnt (nI (prs y a b c), prC y a b c f) = prOn y a b c f := by
  have hc := prs_le y a b c
  have hn := nIc (show prs y a b c < 2 ^ 31 by omega)
  unfold cnt prOn prC
  by_cases e : prs y a b c = 0
  · rw [if_pos e, if_pos (Or.inl (by rw [e]; rfl)), if_pos e]
  · rw [if_neg e, if_neg (fun g => g.elim (show ¬ nI (prs y a b c) = nI 0 from nIne (by omega) (by omega) e) (fun g => g.elim hn.1 (fun g => g.elim hn.2.1 hn.2.2))), if_neg e]
theorem dX10_town_0 : decode cX10_town 0 = .ok (.aload_n 0, 1) := by decide +kernel
theorem dX10_town_1 : decode cX10_town 1 = .ok (.aload_n 0, 1) := by decide +kernel
theorem dX10_town_2 : decode cX10_town 2 = .ok (.getfield 13, 3) := by decide +kernel
theorem dX10_town_5 : decode cX10_town 5 = .ok (.iconst 0, 1) := by decide +kernel
theorem dX10_town_6 : decode cX10_town 6 = .ok (.iaload, 1) := by decide +kernel
theorem dX10_town_7 : decode cX10_town 7 = .ok (.bipush 6, 2) := by decide +kernel
theorem dX10_town_9 : decode cX10_town 9 = .ok (.if_icmp .ge 7, 3) := by decide +kernel
theorem dX10_town_12 : decode cX10_town 12 = .ok (.iconst 0, 1) := by decide +kernel
theorem dX10_town_13 : decode cX10_town 13 = .ok (.goto 4, 3) := by decide +kernel
theorem dX10_town_16 : decode cX10_town 16 = .ok (.iconst 1, 1) := by decide +kernel
theorem dX10_town_17 : decode cX10_town 17 = .ok (.invokevirtual 124, 3) := by decide +kernel
theorem dX10_town_20 : decode cX10_town 20 = .ok (.ifCond .eq 5, 3) := by decide +kernel
theorem dX10_town_23 : decode cX10_town 23 = .ok (.iconst 0, 1) := by decide +kernel
theorem dX10_town_24 : decode cX10_town 24 = .ok (.ireturn, 1) := by decide +kernel
theorem dX10_town_25 : decode cX10_town 25 = .ok (.aload_n 0, 1) := by decide +kernel
theorem dX10_town_26 : decode cX10_town 26 = .ok (.invokevirtual 248, 3) := by decide +kernel
theorem dX10_town_29 : decode cX10_town 29 = .ok (.aload_n 0, 1) := by decide +kernel
theorem dX10_town_30 : decode cX10_town 30 = .ok (.getfield 13, 3) := by decide +kernel
theorem dX10_town_33 : decode cX10_town 33 = .ok (.invokestatic 190, 3) := by decide +kernel
theorem dX10_town_36 : decode cX10_town 36 = .ok (.ireturn, 1) := by decide +kernel
set_option maxRecDepth 100000 in
set_option maxHeartbeats 4000000 in
theorem c_X10_town (l : Launch) (G : GT) (n : Nat) (h : AH) (m : Nat) (rf : Int32) (y : Nat → Nat) (k : Nat) (D S : Nat → Nat → Nat) (sv : Nat → Bool) (N : Nat) (T : Nat → Nat) (hS : SysM m rf y k D S sv N T h) (hI : SI y k D S sv N T) : Ct l yX10_town cX10_town 1 (some .int) 8 0 0 G n h [.ref m] (PoM m n h (kA 1 1 1 (aTw y).1) ((aTw y).1) ((aTw y).2) (aK (kA 1 1 1 (aTw y).1) k) (aD (kA 1 1 1 (aTw y).1) k D y) S sv N T) := by
  have NE := NO_eq
  obtain ⟨⟨sp, ou, g1, hmx⟩, hx, ⟨yt, hxt⟩, ⟨gd, hgd, hdia⟩, ⟨gk, hgk, hkp⟩, ⟨gi, hgi, hik⟩, ⟨gf, hgf⟩⟩ := id hS
  obtain ⟨hNn, hm, hg1, hch⟩ := id hmx
  obtain ⟨hIy, hk14, hID, hIS, hN, hT⟩ := id hI
  obtain ⟨⟨i0, i1, i2, i3, i4⟩, iR, iU, iM, iS⟩ := id hIy
  refine Ct_of mX10_town.1 (Nat.le_of_ble_eq_true rfl) ?_
  intro p₀ e₀ s₀ m₀ as₀ bl₀ me₀ c₀ C hin
  refine V_Le (L' := [(0, .ref m)]) rfl ?_
  refine V_aload_n 1 C dX10_town_0 rfl rfl ?_
  refine V_aload_n 2 C dX10_town_1 rfl rfl ?_
  have J17 : ∀ (w9 : Nat) (hw9 : w9 ≤ 3) (hq : (¬ w9 = 0 ∧ (kA 1 1 1 (aTw y).1) = w9 ∧ (aTw y).2 = y) ∨ (w9 = 0 ∧ y 0 < 6)), V p₀ l e₀ (rmD 8 0 0) s₀ m₀ as₀ bl₀ me₀ c₀ (MQ bl₀ (Po G (PoM m n h (kA 1 1 1 (aTw y).1) ((aTw y).1) ((aTw y).2) (aK (kA 1 1 1 (aTw y).1) k) (aD (kA 1 1 1 (aTw y).1) k D y) S sv N T)) as₀ s₀ 0 0 (rg G)) G 1 0 0 n h 17 [(0, .ref m)] [.int (nI w9), .ref m] := by
    intro w9 hw9 hq
    refine V_callV 20 C dX10_town_17 rfl mX10_refused tw985 fcX10 hm (c_X10_refused l G _ _ m rf (nI N) (nI k) sp ou hm w9 hw9) rfl rfl (by decide) ⟨by omega, by omega⟩ (Nat.le_of_ble_eq_true rfl) ?_
    rintro _ _ h1 ⟨rfl, rfl, eh1⟩
    have hm1 : h1 m = some (obM m (nI w9) (nI N) (nI k) sp ou) := by rw [eh1]; exact up_s _ _ _
    have hF1 : ∀ a, ¬ a = m → h1 a = h a := fun a ha => by rw [eh1]; exact up_n _ ha
    have hS1 : SysM m (nI w9) y k D S sv N T h1 := hS.ob hm1 hF1
    have hX1 : FM m h h1 := fun a ha => hF1 a (by omega)
    have hx1 : Row (m + 2) y h1 := (hF1 _ (by omega)).trans hx
    refine V_if_eqB 25 23 C dX10_town_20 (by decide) rfl  (fun cq20 => ?_) (fun cq20 => ?_)
    · obtain ⟨rfl, hFF⟩ := hq.resolve_left (fun e => by omega)
      have e9 : aTw y = (nI (y 0), twOn y) := if_pos hFF
      refine V_aload_n 26 C dX10_town_25 rfl rfl ?_
      refine V_callV 29 C dX10_town_26 rfl mX10_remember tw1196 fcX10 hm1 (c_X10_remember l G _ _ m (nI 0) (nI N) sp ou k hm1 D y gd hk14 hx1 ((hF1 _ (by omega)).trans hgd) hdia) rfl rfl (by decide) ⟨by omega, by omega⟩ (Nat.le_of_ble_eq_true rfl) ?_
      rintro _ _ h2 ⟨rfl, rfl, g7, eh2, hd7⟩
      have hm2 : h2 m = some (obM m (nI 0) (nI N) (nI (psC k)) sp ou) := by rw [eh2]; exact up_s _ _ _
      have hF2 : ∀ a, (¬ a = m ∧ ¬ a = m + 4) → h2 a = h1 a := fun a ha => by rw [eh2, up_n _ ha.1, up_n _ ha.2]
      have hS2 := hS1.rem (k' := psC k) (D' := psD k D y) hm2 (by rw [eh2, up_n _ (by omega)]; exact up_s _ _ _) hd7 (fun a ha => hF2 a (by omega))
      have hx2 : Row (m + 2) y h2 := (hF2 _ (by omega)).trans hx1
      refine V_aload_n 30 C dX10_town_29 rfl rfl ?_
      refine V_get (k := 3) 33 C dX10_town_30 rfl fcX10 tw939 (by decide) rfl hm2 rfl ?_
      refine V_callS 36 C dX10_town_33 rfl mX10_townOn tw1005 (c_X10_townOn l G _ _ (m + 2) y hx2 ) rfl rfl (by decide) ⟨by omega, by omega⟩ (Nat.le_of_ble_eq_true rfl) ?_
      rintro _ _ h3 ⟨rfl, rfl, eh3⟩
      have hS3 := hS2.now (h' := h3) (y' := twOn y) (by rw [eh3]; exact HR_row _ _ _) (fun a ha => by rw [eh3]; exact HR_n ha)
      have hX3 : FM m h h3 := fun a ha => by rw [eh3, HR_n (by omega), hF2 a (by omega)]; exact hX1 a ha
      refine V_ireturn C dX10_town_36 rfl rfl (by omega) (by omega) ?_
      exact (by rw [e9]; exact PoM_B (nIc (by omega)) (rfl) (rfl) hS3 hX3)
    · have hqn := (hq.resolve_right (fun e => by omega))
      refine V_iconst 24 C dX10_town_23 rfl ic0 ?_
      refine V_ireturn C dX10_town_24 rfl rfl (by omega) (by omega) ?_
      exact (PoM_A hqn.1 hqn.2 hS1 hX1)
  refine V_get (k := 3) 5 C dX10_town_2 rfl fcX10 tw939 (by decide) rfl hm rfl ?_
  refine V_iconst 6 C dX10_town_5 rfl ic0 ?_
  refine V_iald (j := 0) 7 C dX10_town_6 rfl hx rfl (by omega) (by omega) ?_
  refine V_bipush 9 C dX10_town_7 rfl bip6 ?_
  refine V_icmp_geN 16 12 C dX10_town_9 (by decide) rfl (by omega) (by omega) (fun c9 => ?_) (fun c9 => ?_)
  · have e9 : (aTw y) = (cW, y) := by unfold aTw; rw [if_neg (by omega)]
    refine V_iconst 17 C dX10_town_16 rfl ic1 ?_
    refine V_L [0] rfl ?_
    exact J17 1 (by omega) (Or.inl ⟨by decide, rA_3 e9⟩)
  · refine V_iconst 13 C dX10_town_12 rfl ic0 ?_
    refine V_goto 17 C dX10_town_13 (by decide) ?_
    refine V_L [0] rfl ?_
    exact J17 0 (by omega) (Or.inr ⟨rfl, by omega⟩)

theorem dX10_road_0 : decode cX10_road 0 = .ok (.aload_n 0, 1) := by decide +kernel
theorem dX10_road_1 : decode cX10_road 1 = .ok (.aload_n 0, 1) := by decide +kernel
theorem dX10_road_2 : decode cX10_road 2 = .ok (.getfield 13, 3) := by decide +kernel
theorem dX10_road_5 : decode cX10_road 5 = .ok (.iload_n 1, 1) := by decide +kernel
theorem dX10_road_6 : decode cX10_road 6 = .ok (.iload_n 2, 1) := by decide +kernel
theorem dX10_road_7 : decode cX10_road 7 = .ok (.invokestatic 141, 3) := by decide +kernel
theorem dX10_road_10 : decode cX10_road 10 = .ok (.ifCond .ne 7, 3) := by decide +kernel
theorem dX10_road_13 : decode cX10_road 13 = .ok (.iconst 1, 1) := by decide +kernel
theorem dX10_road_14 : decode cX10_road 14 = .ok (.goto 40, 3) := by decide +kernel
theorem dX10_road_17 : decode cX10_road 17 = .ok (.iload_n 1, 1) := by decide +kernel
theorem dX10_road_18 : decode cX10_road 18 = .ok (.iload_n 2, 1) := by decide +kernel
theorem dX10_road_19 : decode cX10_road 19 = .ok (.if_icmp .eq 15, 3) := by decide +kernel
theorem dX10_road_22 : decode cX10_road 22 = .ok (.iload_n 3, 1) := by decide +kernel
theorem dX10_road_23 : decode cX10_road 23 = .ok (.i2l, 1) := by decide +kernel
theorem dX10_road_24 : decode cX10_road 24 = .ok (.lconst 1, 1) := by decide +kernel
theorem dX10_road_25 : decode cX10_road 25 = .ok (.ldc2_w 251, 3) := by decide +kernel
theorem dX10_road_28 : decode cX10_road 28 = .ok (.invokestatic 40, 3) := by decide +kernel
theorem dX10_road_31 : decode cX10_road 31 = .ok (.ifCond .ne 7, 3) := by decide +kernel
theorem dX10_road_34 : decode cX10_road 34 = .ok (.iconst 2, 1) := by decide +kernel
theorem dX10_road_35 : decode cX10_road 35 = .ok (.goto 19, 3) := by decide +kernel
theorem dX10_road_38 : decode cX10_road 38 = .ok (.aload_n 0, 1) := by decide +kernel
theorem dX10_road_39 : decode cX10_road 39 = .ok (.getfield 13, 3) := by decide +kernel
theorem dX10_road_42 : decode cX10_road 42 = .ok (.iconst 1, 1) := by decide +kernel
theorem dX10_road_43 : decode cX10_road 43 = .ok (.iaload, 1) := by decide +kernel
theorem dX10_road_44 : decode cX10_road 44 = .ok (.bipush 10, 2) := by decide +kernel
theorem dX10_road_46 : decode cX10_road 46 = .ok (.if_icmp .ge 7, 3) := by decide +kernel
theorem dX10_road_49 : decode cX10_road 49 = .ok (.iconst 0, 1) := by decide +kernel
theorem dX10_road_50 : decode cX10_road 50 = .ok (.goto 4, 3) := by decide +kernel
theorem dX10_road_53 : decode cX10_road 53 = .ok (.iconst 3, 1) := by decide +kernel
theorem dX10_road_54 : decode cX10_road 54 = .ok (.invokevirtual 124, 3) := by decide +kernel
theorem dX10_road_57 : decode cX10_road 57 = .ok (.ifCond .eq 5, 3) := by decide +kernel
theorem dX10_road_60 : decode cX10_road 60 = .ok (.iconst 0, 1) := by decide +kernel
theorem dX10_road_61 : decode cX10_road 61 = .ok (.ireturn, 1) := by decide +kernel
theorem dX10_road_62 : decode cX10_road 62 = .ok (.aload_n 0, 1) := by decide +kernel
theorem dX10_road_63 : decode cX10_road 63 = .ok (.invokevirtual 248, 3) := by decide +kernel
theorem dX10_road_66 : decode cX10_road 66 = .ok (.aload_n 0, 1) := by decide +kernel
theorem dX10_road_67 : decode cX10_road 67 = .ok (.getfield 13, 3) := by decide +kernel
theorem dX10_road_70 : decode cX10_road 70 = .ok (.iload_n 1, 1) := by decide +kernel
theorem dX10_road_71 : decode cX10_road 71 = .ok (.iload_n 2, 1) := by decide +kernel
theorem dX10_road_72 : decode cX10_road 72 = .ok (.iload_n 3, 1) := by decide +kernel
theorem dX10_road_73 : decode cX10_road 73 = .ok (.invokestatic 144, 3) := by decide +kernel
theorem dX10_road_76 : decode cX10_road 76 = .ok (.ireturn, 1) := by decide +kernel
set_option maxRecDepth 100000 in
set_option maxHeartbeats 4000000 in
theorem c_X10_road (l : Launch) (G : GT) (n : Nat) (h : AH) (m : Nat) (rf : Int32) (y : Nat → Nat) (k : Nat) (D S : Nat → Nat → Nat) (sv : Nat → Bool) (N : Nat) (T : Nat → Nat) (hS : SysM m rf y k D S sv N T h) (hI : SI y k D S sv N T) (pq1 : Int32) (pq2 : Int32) (pq3 : Int32) : Ct l yX10_road cX10_road 4 (some .int) 8 0 0 G n h [.ref m, .int pq1, .int pq2, .int pq3] (PoM m n h (kA 1 2 3 (aRd y pq1 pq2 pq3).1) ((aRd y pq1 pq2 pq3).1) ((aRd y pq1 pq2 pq3).2) (aK (kA 1 2 3 (aRd y pq1 pq2 pq3).1) k) (aD (kA 1 2 3 (aRd y pq1 pq2 pq3).1) k D y) S sv N T) := by
  have NE := NO_eq
  obtain ⟨⟨sp, ou, g1, hmx⟩, hx, ⟨yt, hxt⟩, ⟨gd, hgd, hdia⟩, ⟨gk, hgk, hkp⟩, ⟨gi, hgi, hik⟩, ⟨gf, hgf⟩⟩ := id hS
  obtain ⟨hNn, hm, hg1, hch⟩ := id hmx
  obtain ⟨hIy, hk14, hID, hIS, hN, hT⟩ := id hI
  obtain ⟨⟨i0, i1, i2, i3, i4⟩, iR, iU, iM, iS⟩ := id hIy
  refine Ct_of mX10_road.1 (Nat.le_of_ble_eq_true rfl) ?_
  intro p₀ e₀ s₀ m₀ as₀ bl₀ me₀ c₀ C hin
  refine V_Le (L' := [(0, .ref m), (1, .int pq1), (2, .int pq2), (3, .int pq3)]) rfl ?_
  refine V_aload_n 1 C dX10_road_0 rfl rfl ?_
  refine V_aload_n 2 C dX10_road_1 rfl rfl ?_
  have J54 : ∀ (w9 : Nat) (hw9 : w9 ≤ 3) (hq : (¬ w9 = 0 ∧ (kA 1 2 3 (aRd y pq1 pq2 pq3).1) = w9 ∧ (aRd y pq1 pq2 pq3).2 = y) ∨ (w9 = 0 ∧ (ix pq1 (y 0) ∧ ix pq2 (y 0)) ∧ ¬ pq1 = pq2 ∧ (1 ≤ pq3.toInt ∧ pq3.toInt ≤ 20) ∧ y 1 < 10)), V p₀ l e₀ (rmD 8 0 0) s₀ m₀ as₀ bl₀ me₀ c₀ (MQ bl₀ (Po G (PoM m n h (kA 1 2 3 (aRd y pq1 pq2 pq3).1) ((aRd y pq1 pq2 pq3).1) ((aRd y pq1 pq2 pq3).2) (aK (kA 1 2 3 (aRd y pq1 pq2 pq3).1) k) (aD (kA 1 2 3 (aRd y pq1 pq2 pq3).1) k D y) S sv N T)) as₀ s₀ 0 0 (rg G)) G 4 0 0 n h 54 [(0, .ref m), (1, .int pq1), (2, .int pq2), (3, .int pq3)] [.int (nI w9), .ref m] := by
    intro w9 hw9 hq
    refine V_callV 57 C dX10_road_54 rfl mX10_refused tw985 fcX10 hm (c_X10_refused l G _ _ m rf (nI N) (nI k) sp ou hm w9 hw9) rfl rfl (by decide) ⟨by omega, by omega⟩ (Nat.le_of_ble_eq_true rfl) ?_
    rintro _ _ h1 ⟨rfl, rfl, eh1⟩
    have hm1 : h1 m = some (obM m (nI w9) (nI N) (nI k) sp ou) := by rw [eh1]; exact up_s _ _ _
    have hF1 : ∀ a, ¬ a = m → h1 a = h a := fun a ha => by rw [eh1]; exact up_n _ ha
    have hS1 : SysM m (nI w9) y k D S sv N T h1 := hS.ob hm1 hF1
    have hX1 : FM m h h1 := fun a ha => hF1 a (by omega)
    have hx1 : Row (m + 2) y h1 := (hF1 _ (by omega)).trans hx
    refine V_if_eqB 62 60 C dX10_road_57 (by decide) rfl  (fun cq57 => ?_) (fun cq57 => ?_)
    · obtain ⟨rfl, hFF⟩ := hq.resolve_left (fun e => by omega)
      obtain ⟨f1, f3, f4, f5⟩ := hFF
      have f6 : ix pq3 21 := ⟨by omega, by omega⟩
      obtain ⟨j1, hj1, rfl⟩ := ix_of f1.1 (by omega)
      have z1 := zn (show j1 < 2 ^ 31 by omega)
      obtain ⟨j2, hj2, rfl⟩ := ix_of f1.2 (by omega)
      have z2 := zn (show j2 < 2 ^ 31 by omega)
      obtain ⟨j3, hj3, rfl⟩ := ix_of f6 (by omega)
      have z3 := zn (show j3 < 2 ^ 31 by omega)
      
      have e9 : aRd y (nI j1) (nI j2) (nI j3) = (nI (y 1), rdOn y j1 j2 j3) := by unfold aRd; rw [if_pos f1, if_neg (fun e => e.elim f3 (fun g => g f4)), if_pos f5, z1, z2, z3]
      refine V_aload_n 63 C dX10_road_62 rfl rfl ?_
      refine V_callV 66 C dX10_road_63 rfl mX10_remember tw1196 fcX10 hm1 (c_X10_remember l G _ _ m (nI 0) (nI N) sp ou k hm1 D y gd hk14 hx1 ((hF1 _ (by omega)).trans hgd) hdia) rfl rfl (by decide) ⟨by omega, by omega⟩ (Nat.le_of_ble_eq_true rfl) ?_
      rintro _ _ h2 ⟨rfl, rfl, g7, eh2, hd7⟩
      have hm2 : h2 m = some (obM m (nI 0) (nI N) (nI (psC k)) sp ou) := by rw [eh2]; exact up_s _ _ _
      have hF2 : ∀ a, (¬ a = m ∧ ¬ a = m + 4) → h2 a = h1 a := fun a ha => by rw [eh2, up_n _ ha.1, up_n _ ha.2]
      have hS2 := hS1.rem (k' := psC k) (D' := psD k D y) hm2 (by rw [eh2, up_n _ (by omega)]; exact up_s _ _ _) hd7 (fun a ha => hF2 a (by omega))
      have hx2 : Row (m + 2) y h2 := (hF2 _ (by omega)).trans hx1
      refine V_aload_n 67 C dX10_road_66 rfl rfl ?_
      refine V_get (k := 3) 70 C dX10_road_67 rfl fcX10 tw939 (by decide) rfl hm2 rfl ?_
      refine V_iload_n 71 C dX10_road_70 rfl rfl ?_
      refine V_iload_n 72 C dX10_road_71 rfl rfl ?_
      refine V_iload_n 73 C dX10_road_72 rfl rfl ?_
      refine V_callS 76 C dX10_road_73 rfl mX10_roadOn tw1031 (c_X10_roadOn l G _ _ (m + 2) y hx2 f5 j1 j2 j3) rfl rfl (by decide) ⟨by omega, by omega⟩ (Nat.le_of_ble_eq_true rfl) ?_
      rintro _ _ h3 ⟨rfl, rfl, eh3⟩
      have hS3 := hS2.now (h' := h3) (y' := rdOn y j1 j2 j3) (by rw [eh3]; exact HR_row _ _ _) (fun a ha => by rw [eh3]; exact HR_n ha)
      have hX3 : FM m h h3 := fun a ha => by rw [eh3, HR_n (by omega), hF2 a (by omega)]; exact hX1 a ha
      refine V_ireturn C dX10_road_76 rfl rfl (by omega) (by omega) ?_
      exact (by rw [e9]; exact PoM_B (nIc (by omega)) (rfl) (rfl) hS3 hX3)
    · have hqn := (hq.resolve_right (fun e => by omega))
      refine V_iconst 61 C dX10_road_60 rfl ic0 ?_
      refine V_ireturn C dX10_road_61 rfl rfl (by omega) (by omega) ?_
      exact (PoM_A hqn.1 hqn.2 hS1 hX1)
  refine V_get (k := 3) 5 C dX10_road_2 rfl fcX10 tw939 (by decide) rfl hm rfl ?_
  refine V_iload_n 6 C dX10_road_5 rfl rfl ?_
  refine V_iload_n 7 C dX10_road_6 rfl rfl ?_
  refine V_callS 10 C dX10_road_7 rfl mX10_areEnds tw1025 (c_X10_areEnds l G _ _ (m + 2) y hx hIy pq1 pq2) rfl rfl (by decide) ⟨by omega, by omega⟩ (Nat.le_of_ble_eq_true rfl) ?_
  rintro _ _ _ ⟨rfl, rfl, rfl⟩
  refine V_if_neB 17 13 C dX10_road_10 (by decide) rfl  (fun cq10 => ?_) (fun cq10 => ?_)
  · refine V_iload_n 18 C dX10_road_17 rfl rfl ?_
    refine V_iload_n 19 C dX10_road_18 rfl rfl ?_
    refine V_icmp_eq 34 22 C dX10_road_19 (by decide) rfl  (fun cq19 => ?_) (fun cq19 => ?_)
    · have e9 : (aRd y pq1 pq2 pq3) = (cR, y) := by unfold aRd; rw [if_pos cq10, if_pos (Or.inl cq19)]
      refine V_iconst 35 C dX10_road_34 rfl ic2 ?_
      refine V_goto 54 C dX10_road_35 (by decide) ?_
      refine V_L [0, 1, 2, 3] rfl ?_
      exact J54 2 (by omega) (Or.inl ⟨by decide, rA_2 e9⟩)
    · refine V_iload_n 23 C dX10_road_22 rfl rfl ?_
      refine V_i2l 24 C dX10_road_23 rfl  ?_
      refine V_lconst 25 C dX10_road_24 rfl rfl ?_
      refine V_ldc2 28 C dX10_road_25 rfl tw1204 ?_
      refine V_callS 31 C dX10_road_28 rfl mX10_in tw982 (c_X10_in l G _ _ _ _ _) rfl rfl (by decide) ⟨by omega, by omega⟩ (Nat.le_of_ble_eq_true rfl) ?_
      rintro _ _ _ ⟨rfl, rfl, rfl⟩
      rw [inI (v := pq3) (lo := 1) (hi := 20) (by decide +kernel) (by decide +kernel)]
      refine V_if_neB 38 34 C dX10_road_31 (by decide) rfl  (fun cq31 => ?_) (fun cq31 => ?_)
      · have hno : ¬ (pq1 = pq2 ∨ ¬ (1 ≤ pq3.toInt ∧ pq3.toInt ≤ 20)) := fun e => e.elim cq19 (fun g => g ⟨by have := cq31.1; omega, by have := cq31.2; omega⟩)
        refine V_aload_n 39 C dX10_road_38 rfl rfl ?_
        refine V_get (k := 3) 42 C dX10_road_39 rfl fcX10 tw939 (by decide) rfl hm rfl ?_
        refine V_iconst 43 C dX10_road_42 rfl ic1 ?_
        refine V_iald (j := 1) 44 C dX10_road_43 rfl hx rfl (by omega) (by omega) ?_
        refine V_bipush 46 C dX10_road_44 rfl bip10 ?_
        refine V_icmp_geN 53 49 C dX10_road_46 (by decide) rfl (by omega) (by omega) (fun cq46 => ?_) (fun cq46 => ?_)
        · have e9 : (aRd y pq1 pq2 pq3) = (cW, y) := by unfold aRd; rw [if_pos cq10, if_neg hno, if_neg (by omega)]
          refine V_iconst 54 C dX10_road_53 rfl ic3 ?_
          refine V_L [0, 1, 2, 3] rfl ?_
          exact J54 3 (by omega) (Or.inl ⟨by decide, rA_3 e9⟩)
        · refine V_iconst 50 C dX10_road_49 rfl ic0 ?_
          refine V_goto 54 C dX10_road_50 (by decide) ?_
          refine V_L [0, 1, 2, 3] rfl ?_
          exact J54 0 (by omega) (Or.inr ⟨rfl, cq10, cq19, ⟨by have := cq31.1; omega, by have := cq31.2; omega⟩, by omega⟩)
      · have e9 : (aRd y pq1 pq2 pq3) = (cR, y) := by unfold aRd; rw [if_pos cq10, if_pos (Or.inr (fun e => cq31 ⟨by have := e.1; omega, by have := e.2; omega⟩))]
        refine V_iconst 35 C dX10_road_34 rfl ic2 ?_
        refine V_goto 54 C dX10_road_35 (by decide) ?_
        refine V_L [0, 1, 2, 3] rfl ?_
        exact J54 2 (by omega) (Or.inl ⟨by decide, rA_2 e9⟩)
  · have e9 : aRd y pq1 pq2 pq3 = (cN, y) := if_neg cq10
    refine V_iconst 14 C dX10_road_13 rfl ic1 ?_
    refine V_goto 54 C dX10_road_14 (by decide) ?_
    refine V_L [0, 1, 2, 3] rfl ?_
    exact J54 1 (by omega) (Or.inl ⟨by decide, rA_1 e9⟩)

theorem dX10_runner_0 : decode cX10_runner 0 = .ok (.aload_n 0, 1) := by decide +kernel
theorem dX10_runner_1 : decode cX10_runner 1 = .ok (.aload_n 0, 1) := by decide +kernel
theorem dX10_runner_2 : decode cX10_runner 2 = .ok (.getfield 13, 3) := by decide +kernel
theorem dX10_runner_5 : decode cX10_runner 5 = .ok (.iload_n 1, 1) := by decide +kernel
theorem dX10_runner_6 : decode cX10_runner 6 = .ok (.invokestatic 94, 3) := by decide +kernel
theorem dX10_runner_9 : decode cX10_runner 9 = .ok (.ifCond .ne 7, 3) := by decide +kernel
theorem dX10_runner_12 : decode cX10_runner 12 = .ok (.iconst 1, 1) := by decide +kernel
theorem dX10_runner_13 : decode cX10_runner 13 = .ok (.goto 18, 3) := by decide +kernel
theorem dX10_runner_16 : decode cX10_runner 16 = .ok (.aload_n 0, 1) := by decide +kernel
theorem dX10_runner_17 : decode cX10_runner 17 = .ok (.getfield 13, 3) := by decide +kernel
theorem dX10_runner_20 : decode cX10_runner 20 = .ok (.iconst 2, 1) := by decide +kernel
theorem dX10_runner_21 : decode cX10_runner 21 = .ok (.iaload, 1) := by decide +kernel
theorem dX10_runner_22 : decode cX10_runner 22 = .ok (.iconst 5, 1) := by decide +kernel
theorem dX10_runner_23 : decode cX10_runner 23 = .ok (.if_icmp .ge 7, 3) := by decide +kernel
theorem dX10_runner_26 : decode cX10_runner 26 = .ok (.iconst 0, 1) := by decide +kernel
theorem dX10_runner_27 : decode cX10_runner 27 = .ok (.goto 4, 3) := by decide +kernel
theorem dX10_runner_30 : decode cX10_runner 30 = .ok (.iconst 2, 1) := by decide +kernel
theorem dX10_runner_31 : decode cX10_runner 31 = .ok (.invokevirtual 124, 3) := by decide +kernel
theorem dX10_runner_34 : decode cX10_runner 34 = .ok (.ifCond .eq 5, 3) := by decide +kernel
theorem dX10_runner_37 : decode cX10_runner 37 = .ok (.iconst 0, 1) := by decide +kernel
theorem dX10_runner_38 : decode cX10_runner 38 = .ok (.ireturn, 1) := by decide +kernel
theorem dX10_runner_39 : decode cX10_runner 39 = .ok (.aload_n 0, 1) := by decide +kernel
theorem dX10_runner_40 : decode cX10_runner 40 = .ok (.invokevirtual 248, 3) := by decide +kernel
theorem dX10_runner_43 : decode cX10_runner 43 = .ok (.aload_n 0, 1) := by decide +kernel
theorem dX10_runner_44 : decode cX10_runner 44 = .ok (.getfield 13, 3) := by decide +kernel
theorem dX10_runner_47 : decode cX10_runner 47 = .ok (.iload_n 1, 1) := by decide +kernel
theorem dX10_runner_48 : decode cX10_runner 48 = .ok (.invokestatic 196, 3) := by decide +kernel
theorem dX10_runner_51 : decode cX10_runner 51 = .ok (.ireturn, 1) := by decide +kernel
set_option maxRecDepth 100000 in
set_option maxHeartbeats 4000000 in
theorem c_X10_runner (l : Launch) (G : GT) (n : Nat) (h : AH) (m : Nat) (rf : Int32) (y : Nat → Nat) (k : Nat) (D S : Nat → Nat → Nat) (sv : Nat → Bool) (N : Nat) (T : Nat → Nat) (hS : SysM m rf y k D S sv N T h) (hI : SI y k D S sv N T) (pq1 : Int32) : Ct l yX10_runner cX10_runner 2 (some .int) 8 0 0 G n h [.ref m, .int pq1] (PoM m n h (kA 1 1 2 (aRu y pq1).1) ((aRu y pq1).1) ((aRu y pq1).2) (aK (kA 1 1 2 (aRu y pq1).1) k) (aD (kA 1 1 2 (aRu y pq1).1) k D y) S sv N T) := by
  have NE := NO_eq
  obtain ⟨⟨sp, ou, g1, hmx⟩, hx, ⟨yt, hxt⟩, ⟨gd, hgd, hdia⟩, ⟨gk, hgk, hkp⟩, ⟨gi, hgi, hik⟩, ⟨gf, hgf⟩⟩ := id hS
  obtain ⟨hNn, hm, hg1, hch⟩ := id hmx
  obtain ⟨hIy, hk14, hID, hIS, hN, hT⟩ := id hI
  obtain ⟨⟨i0, i1, i2, i3, i4⟩, iR, iU, iM, iS⟩ := id hIy
  refine Ct_of mX10_runner.1 (Nat.le_of_ble_eq_true rfl) ?_
  intro p₀ e₀ s₀ m₀ as₀ bl₀ me₀ c₀ C hin
  refine V_Le (L' := [(0, .ref m), (1, .int pq1)]) rfl ?_
  refine V_aload_n 1 C dX10_runner_0 rfl rfl ?_
  refine V_aload_n 2 C dX10_runner_1 rfl rfl ?_
  have J31 : ∀ (w9 : Nat) (hw9 : w9 ≤ 3) (hq : (¬ w9 = 0 ∧ (kA 1 1 2 (aRu y pq1).1) = w9 ∧ (aRu y pq1).2 = y) ∨ (w9 = 0 ∧ ix pq1 (y 0) ∧ y 2 < 5)), V p₀ l e₀ (rmD 8 0 0) s₀ m₀ as₀ bl₀ me₀ c₀ (MQ bl₀ (Po G (PoM m n h (kA 1 1 2 (aRu y pq1).1) ((aRu y pq1).1) ((aRu y pq1).2) (aK (kA 1 1 2 (aRu y pq1).1) k) (aD (kA 1 1 2 (aRu y pq1).1) k D y) S sv N T)) as₀ s₀ 0 0 (rg G)) G 2 0 0 n h 31 [(0, .ref m), (1, .int pq1)] [.int (nI w9), .ref m] := by
    intro w9 hw9 hq
    refine V_callV 34 C dX10_runner_31 rfl mX10_refused tw985 fcX10 hm (c_X10_refused l G _ _ m rf (nI N) (nI k) sp ou hm w9 hw9) rfl rfl (by decide) ⟨by omega, by omega⟩ (Nat.le_of_ble_eq_true rfl) ?_
    rintro _ _ h1 ⟨rfl, rfl, eh1⟩
    have hm1 : h1 m = some (obM m (nI w9) (nI N) (nI k) sp ou) := by rw [eh1]; exact up_s _ _ _
    have hF1 : ∀ a, ¬ a = m → h1 a = h a := fun a ha => by rw [eh1]; exact up_n _ ha
    have hS1 : SysM m (nI w9) y k D S sv N T h1 := hS.ob hm1 hF1
    have hX1 : FM m h h1 := fun a ha => hF1 a (by omega)
    have hx1 : Row (m + 2) y h1 := (hF1 _ (by omega)).trans hx
    refine V_if_eqB 39 37 C dX10_runner_34 (by decide) rfl  (fun cq34 => ?_) (fun cq34 => ?_)
    · obtain ⟨rfl, hFF⟩ := hq.resolve_left (fun e => by omega)
      obtain ⟨f1, f2⟩ := hFF
      obtain ⟨j1, hj1, rfl⟩ := ix_of f1 (by omega)
      have z1 := zn (show j1 < 2 ^ 31 by omega)
      
      have e9 : aRu y (nI j1) = (nI (y 2), ruOn y j1) := by unfold aRu; rw [if_pos f1, if_pos f2, z1]
      refine V_aload_n 40 C dX10_runner_39 rfl rfl ?_
      refine V_callV 43 C dX10_runner_40 rfl mX10_remember tw1196 fcX10 hm1 (c_X10_remember l G _ _ m (nI 0) (nI N) sp ou k hm1 D y gd hk14 hx1 ((hF1 _ (by omega)).trans hgd) hdia) rfl rfl (by decide) ⟨by omega, by omega⟩ (Nat.le_of_ble_eq_true rfl) ?_
      rintro _ _ h2 ⟨rfl, rfl, g7, eh2, hd7⟩
      have hm2 : h2 m = some (obM m (nI 0) (nI N) (nI (psC k)) sp ou) := by rw [eh2]; exact up_s _ _ _
      have hF2 : ∀ a, (¬ a = m ∧ ¬ a = m + 4) → h2 a = h1 a := fun a ha => by rw [eh2, up_n _ ha.1, up_n _ ha.2]
      have hS2 := hS1.rem (k' := psC k) (D' := psD k D y) hm2 (by rw [eh2, up_n _ (by omega)]; exact up_s _ _ _) hd7 (fun a ha => hF2 a (by omega))
      have hx2 : Row (m + 2) y h2 := (hF2 _ (by omega)).trans hx1
      refine V_aload_n 44 C dX10_runner_43 rfl rfl ?_
      refine V_get (k := 3) 47 C dX10_runner_44 rfl fcX10 tw939 (by decide) rfl hm2 rfl ?_
      refine V_iload_n 48 C dX10_runner_47 rfl rfl ?_
      refine V_callS 51 C dX10_runner_48 rfl mX10_runnerOn tw1034 (c_X10_runnerOn l G _ _ (m + 2) y hx2 f2 j1) rfl rfl (by decide) ⟨by omega, by omega⟩ (Nat.le_of_ble_eq_true rfl) ?_
      rintro _ _ h3 ⟨rfl, rfl, eh3⟩
      have hS3 := hS2.now (h' := h3) (y' := ruOn y j1) (by rw [eh3]; exact HR_row _ _ _) (fun a ha => by rw [eh3]; exact HR_n ha)
      have hX3 : FM m h h3 := fun a ha => by rw [eh3, HR_n (by omega), hF2 a (by omega)]; exact hX1 a ha
      refine V_ireturn C dX10_runner_51 rfl rfl (by omega) (by omega) ?_
      exact (by rw [e9]; exact PoM_B (nIc (by omega)) (rfl) (rfl) hS3 hX3)
    · have hqn := (hq.resolve_right (fun e => by omega))
      refine V_iconst 38 C dX10_runner_37 rfl ic0 ?_
      refine V_ireturn C dX10_runner_38 rfl rfl (by omega) (by omega) ?_
      exact (PoM_A hqn.1 hqn.2 hS1 hX1)
  refine V_get (k := 3) 5 C dX10_runner_2 rfl fcX10 tw939 (by decide) rfl hm rfl ?_
  refine V_iload_n 6 C dX10_runner_5 rfl rfl ?_
  refine V_callS 9 C dX10_runner_6 rfl mX10_isTown tw1028 (c_X10_isTown l G _ _ (m + 2) y hx hIy pq1) rfl rfl (by decide) ⟨by omega, by omega⟩ (Nat.le_of_ble_eq_true rfl) ?_
  rintro _ _ _ ⟨rfl, rfl, rfl⟩
  refine V_if_neB 16 12 C dX10_runner_9 (by decide) rfl  (fun c9 => ?_) (fun c9 => ?_)
  · refine V_aload_n 17 C dX10_runner_16 rfl rfl ?_
    refine V_get (k := 3) 20 C dX10_runner_17 rfl fcX10 tw939 (by decide) rfl hm rfl ?_
    refine V_iconst 21 C dX10_runner_20 rfl ic2 ?_
    refine V_iald (j := 2) 22 C dX10_runner_21 rfl hx rfl (by omega) (by omega) ?_
    refine V_iconst 23 C dX10_runner_22 rfl ic5 ?_
    refine V_icmp_geN 30 26 C dX10_runner_23 (by decide) rfl (by omega) (by omega) (fun cq23 => ?_) (fun cq23 => ?_)
    · have e9 : (aRu y pq1) = (cW, y) := by unfold aRu; rw [if_pos c9, if_neg (by omega)]
      refine V_iconst 31 C dX10_runner_30 rfl ic2 ?_
      refine V_L [0, 1] rfl ?_
      exact J31 2 (by omega) (Or.inl ⟨by decide, rA_3 e9⟩)
    · refine V_iconst 27 C dX10_runner_26 rfl ic0 ?_
      refine V_goto 31 C dX10_runner_27 (by decide) ?_
      refine V_L [0, 1] rfl ?_
      exact J31 0 (by omega) (Or.inr ⟨rfl, c9, by omega⟩)
  · have e9 : aRu y pq1 = (cN, y) := if_neg c9
    refine V_iconst 13 C dX10_runner_12 rfl ic1 ?_
    refine V_goto 31 C dX10_runner_13 (by decide) ?_
    refine V_L [0, 1] rfl ?_
    exact J31 1 (by omega) (Or.inl ⟨by decide, rA_1 e9⟩)

theorem dX10_write_0 : decode cX10_write 0 = .ok (.aload_n 0, 1) := by decide +kernel
theorem dX10_write_1 : decode cX10_write 1 = .ok (.aload_n 0, 1) := by decide +kernel
theorem dX10_write_2 : decode cX10_write 2 = .ok (.getfield 13, 3) := by decide +kernel
theorem dX10_write_5 : decode cX10_write 5 = .ok (.iload_n 1, 1) := by decide +kernel
theorem dX10_write_6 : decode cX10_write 6 = .ok (.invokestatic 94, 3) := by decide +kernel
theorem dX10_write_9 : decode cX10_write 9 = .ok (.ifCond .ne 7, 3) := by decide +kernel
theorem dX10_write_12 : decode cX10_write 12 = .ok (.iconst 1, 1) := by decide +kernel
theorem dX10_write_13 : decode cX10_write 13 = .ok (.goto 46, 3) := by decide +kernel
theorem dX10_write_16 : decode cX10_write 16 = .ok (.iload_n 2, 1) := by decide +kernel
theorem dX10_write_17 : decode cX10_write 17 = .ok (.i2l, 1) := by decide +kernel
theorem dX10_write_18 : decode cX10_write 18 = .ok (.lconst 0, 1) := by decide +kernel
theorem dX10_write_19 : decode cX10_write 19 = .ok (.ldc2_w 253, 3) := by decide +kernel
theorem dX10_write_22 : decode cX10_write 22 = .ok (.invokestatic 40, 3) := by decide +kernel
theorem dX10_write_25 : decode cX10_write 25 = .ok (.ifCond .eq 15, 3) := by decide +kernel
theorem dX10_write_28 : decode cX10_write 28 = .ok (.iload_n 3, 1) := by decide +kernel
theorem dX10_write_29 : decode cX10_write 29 = .ok (.i2l, 1) := by decide +kernel
theorem dX10_write_30 : decode cX10_write 30 = .ok (.lconst 0, 1) := by decide +kernel
theorem dX10_write_31 : decode cX10_write 31 = .ok (.ldc2_w 92, 3) := by decide +kernel
theorem dX10_write_34 : decode cX10_write 34 = .ok (.invokestatic 40, 3) := by decide +kernel
theorem dX10_write_37 : decode cX10_write 37 = .ok (.ifCond .ne 7, 3) := by decide +kernel
theorem dX10_write_40 : decode cX10_write 40 = .ok (.iconst 2, 1) := by decide +kernel
theorem dX10_write_41 : decode cX10_write 41 = .ok (.goto 18, 3) := by decide +kernel
theorem dX10_write_44 : decode cX10_write 44 = .ok (.aload_n 0, 1) := by decide +kernel
theorem dX10_write_45 : decode cX10_write 45 = .ok (.getfield 13, 3) := by decide +kernel
theorem dX10_write_48 : decode cX10_write 48 = .ok (.invokestatic 153, 3) := by decide +kernel
theorem dX10_write_51 : decode cX10_write 51 = .ok (.ifCond .eq 7, 3) := by decide +kernel
theorem dX10_write_54 : decode cX10_write 54 = .ok (.iconst 0, 1) := by decide +kernel
theorem dX10_write_55 : decode cX10_write 55 = .ok (.goto 4, 3) := by decide +kernel
theorem dX10_write_58 : decode cX10_write 58 = .ok (.iconst 3, 1) := by decide +kernel
theorem dX10_write_59 : decode cX10_write 59 = .ok (.invokevirtual 124, 3) := by decide +kernel
theorem dX10_write_62 : decode cX10_write 62 = .ok (.ifCond .eq 5, 3) := by decide +kernel
theorem dX10_write_65 : decode cX10_write 65 = .ok (.iconst 0, 1) := by decide +kernel
theorem dX10_write_66 : decode cX10_write 66 = .ok (.ireturn, 1) := by decide +kernel
theorem dX10_write_67 : decode cX10_write 67 = .ok (.aload_n 0, 1) := by decide +kernel
theorem dX10_write_68 : decode cX10_write 68 = .ok (.invokevirtual 248, 3) := by decide +kernel
theorem dX10_write_71 : decode cX10_write 71 = .ok (.aload_n 0, 1) := by decide +kernel
theorem dX10_write_72 : decode cX10_write 72 = .ok (.getfield 13, 3) := by decide +kernel
theorem dX10_write_75 : decode cX10_write 75 = .ok (.iload_n 1, 1) := by decide +kernel
theorem dX10_write_76 : decode cX10_write 76 = .ok (.iload_n 2, 1) := by decide +kernel
theorem dX10_write_77 : decode cX10_write 77 = .ok (.iload_n 3, 1) := by decide +kernel
theorem dX10_write_78 : decode cX10_write 78 = .ok (.invokestatic 157, 3) := by decide +kernel
theorem dX10_write_81 : decode cX10_write 81 = .ok (.ireturn, 1) := by decide +kernel
set_option maxRecDepth 100000 in
set_option maxHeartbeats 4000000 in
theorem c_X10_write (l : Launch) (G : GT) (n : Nat) (h : AH) (m : Nat) (rf : Int32) (y : Nat → Nat) (k : Nat) (D S : Nat → Nat → Nat) (sv : Nat → Bool) (N : Nat) (T : Nat → Nat) (hS : SysM m rf y k D S sv N T h) (hI : SI y k D S sv N T) (pq1 : Int32) (pq2 : Int32) (pq3 : Int32) : Ct l yX10_write cX10_write 4 (some .int) 8 0 0 G n h [.ref m, .int pq1, .int pq2, .int pq3] (PoM m n h (kA 1 2 3 (aWr y pq1 pq2 pq3).1) ((aWr y pq1 pq2 pq3).1) ((aWr y pq1 pq2 pq3).2) (aK (kA 1 2 3 (aWr y pq1 pq2 pq3).1) k) (aD (kA 1 2 3 (aWr y pq1 pq2 pq3).1) k D y) S sv N T) := by
  have NE := NO_eq
  obtain ⟨⟨sp, ou, g1, hmx⟩, hx, ⟨yt, hxt⟩, ⟨gd, hgd, hdia⟩, ⟨gk, hgk, hkp⟩, ⟨gi, hgi, hik⟩, ⟨gf, hgf⟩⟩ := id hS
  obtain ⟨hNn, hm, hg1, hch⟩ := id hmx
  obtain ⟨hIy, hk14, hID, hIS, hN, hT⟩ := id hI
  obtain ⟨⟨i0, i1, i2, i3, i4⟩, iR, iU, iM, iS⟩ := id hIy
  refine Ct_of mX10_write.1 (Nat.le_of_ble_eq_true rfl) ?_
  intro p₀ e₀ s₀ m₀ as₀ bl₀ me₀ c₀ C hin
  refine V_Le (L' := [(0, .ref m), (1, .int pq1), (2, .int pq2), (3, .int pq3)]) rfl ?_
  refine V_aload_n 1 C dX10_write_0 rfl rfl ?_
  refine V_aload_n 2 C dX10_write_1 rfl rfl ?_
  have J59 : ∀ (w9 : Nat) (hw9 : w9 ≤ 3) (hq : (¬ w9 = 0 ∧ (kA 1 2 3 (aWr y pq1 pq2 pq3).1) = w9 ∧ (aWr y pq1 pq2 pq3).2 = y) ∨ (w9 = 0 ∧ ix pq1 (y 0) ∧ (ix pq2 1000000 ∧ ix pq3 10) ∧ (y 3 < 6 ∧ y 4 < 12))), V p₀ l e₀ (rmD 8 0 0) s₀ m₀ as₀ bl₀ me₀ c₀ (MQ bl₀ (Po G (PoM m n h (kA 1 2 3 (aWr y pq1 pq2 pq3).1) ((aWr y pq1 pq2 pq3).1) ((aWr y pq1 pq2 pq3).2) (aK (kA 1 2 3 (aWr y pq1 pq2 pq3).1) k) (aD (kA 1 2 3 (aWr y pq1 pq2 pq3).1) k D y) S sv N T)) as₀ s₀ 0 0 (rg G)) G 4 0 0 n h 59 [(0, .ref m), (1, .int pq1), (2, .int pq2), (3, .int pq3)] [.int (nI w9), .ref m] := by
    intro w9 hw9 hq
    refine V_callV 62 C dX10_write_59 rfl mX10_refused tw985 fcX10 hm (c_X10_refused l G _ _ m rf (nI N) (nI k) sp ou hm w9 hw9) rfl rfl (by decide) ⟨by omega, by omega⟩ (Nat.le_of_ble_eq_true rfl) ?_
    rintro _ _ h1 ⟨rfl, rfl, eh1⟩
    have hm1 : h1 m = some (obM m (nI w9) (nI N) (nI k) sp ou) := by rw [eh1]; exact up_s _ _ _
    have hF1 : ∀ a, ¬ a = m → h1 a = h a := fun a ha => by rw [eh1]; exact up_n _ ha
    have hS1 : SysM m (nI w9) y k D S sv N T h1 := hS.ob hm1 hF1
    have hX1 : FM m h h1 := fun a ha => hF1 a (by omega)
    have hx1 : Row (m + 2) y h1 := (hF1 _ (by omega)).trans hx
    refine V_if_eqB 67 65 C dX10_write_62 (by decide) rfl  (fun cq62 => ?_) (fun cq62 => ?_)
    · obtain ⟨rfl, hFF⟩ := hq.resolve_left (fun e => by omega)
      obtain ⟨f1, f2, f3⟩ := hFF
      obtain ⟨j1, hj1, rfl⟩ := ix_of f1 (by omega)
      have z1 := zn (show j1 < 2 ^ 31 by omega)
      obtain ⟨j2, hj2, rfl⟩ := ix_of f2.1 (by omega)
      have z2 := zn (show j2 < 2 ^ 31 by omega)
      obtain ⟨j3, hj3, rfl⟩ := ix_of f2.2 (by omega)
      have z3 := zn (show j3 < 2 ^ 31 by omega)
      
      have e9 : aWr y (nI j1) (nI j2) (nI j3) = (nI (y 3), wrOn y j1 j2 j3) := by unfold aWr; rw [if_pos f1, if_pos f2, if_pos f3, z1, z2, z3]
      refine V_aload_n 68 C dX10_write_67 rfl rfl ?_
      refine V_callV 71 C dX10_write_68 rfl mX10_remember tw1196 fcX10 hm1 (c_X10_remember l G _ _ m (nI 0) (nI N) sp ou k hm1 D y gd hk14 hx1 ((hF1 _ (by omega)).trans hgd) hdia) rfl rfl (by decide) ⟨by omega, by omega⟩ (Nat.le_of_ble_eq_true rfl) ?_
      rintro _ _ h2 ⟨rfl, rfl, g7, eh2, hd7⟩
      have hm2 : h2 m = some (obM m (nI 0) (nI N) (nI (psC k)) sp ou) := by rw [eh2]; exact up_s _ _ _
      have hF2 : ∀ a, (¬ a = m ∧ ¬ a = m + 4) → h2 a = h1 a := fun a ha => by rw [eh2, up_n _ ha.1, up_n _ ha.2]
      have hS2 := hS1.rem (k' := psC k) (D' := psD k D y) hm2 (by rw [eh2, up_n _ (by omega)]; exact up_s _ _ _) hd7 (fun a ha => hF2 a (by omega))
      have hx2 : Row (m + 2) y h2 := (hF2 _ (by omega)).trans hx1
      refine V_aload_n 72 C dX10_write_71 rfl rfl ?_
      refine V_get (k := 3) 75 C dX10_write_72 rfl fcX10 tw939 (by decide) rfl hm2 rfl ?_
      refine V_iload_n 76 C dX10_write_75 rfl rfl ?_
      refine V_iload_n 77 C dX10_write_76 rfl rfl ?_
      refine V_iload_n 78 C dX10_write_77 rfl rfl ?_
      refine V_callS 81 C dX10_write_78 rfl mX10_writeOn tw1046 (c_X10_writeOn l G _ _ (m + 2) y hx2 f3.1 f3.2 j1 j2 j3) rfl rfl (by decide) ⟨by omega, by omega⟩ (Nat.le_of_ble_eq_true rfl) ?_
      rintro _ _ h3 ⟨rfl, rfl, eh3⟩
      have hS3 := hS2.now (h' := h3) (y' := wrOn y j1 j2 j3) (by rw [eh3]; exact HR_row _ _ _) (fun a ha => by rw [eh3]; exact HR_n ha)
      have hX3 : FM m h h3 := fun a ha => by rw [eh3, HR_n (by omega), hF2 a (by omega)]; exact hX1 a ha
      refine V_ireturn C dX10_write_81 rfl rfl (by omega) (by omega) ?_
      exact (by rw [e9]; exact PoM_B (nIc (by omega)) (rfl) (rfl) hS3 hX3)
    · have hqn := (hq.resolve_right (fun e => by omega))
      refine V_iconst 66 C dX10_write_65 rfl ic0 ?_
      refine V_ireturn C dX10_write_66 rfl rfl (by omega) (by omega) ?_
      exact (PoM_A hqn.1 hqn.2 hS1 hX1)
  refine V_get (k := 3) 5 C dX10_write_2 rfl fcX10 tw939 (by decide) rfl hm rfl ?_
  refine V_iload_n 6 C dX10_write_5 rfl rfl ?_
  refine V_callS 9 C dX10_write_6 rfl mX10_isTown tw1028 (c_X10_isTown l G _ _ (m + 2) y hx hIy pq1) rfl rfl (by decide) ⟨by omega, by omega⟩ (Nat.le_of_ble_eq_true rfl) ?_
  rintro _ _ _ ⟨rfl, rfl, rfl⟩
  refine V_if_neB 16 12 C dX10_write_9 (by decide) rfl  (fun c9 => ?_) (fun c9 => ?_)
  · refine V_iload_n 17 C dX10_write_16 rfl rfl ?_
    refine V_i2l 18 C dX10_write_17 rfl  ?_
    refine V_lconst 19 C dX10_write_18 rfl rfl ?_
    refine V_ldc2 22 C dX10_write_19 rfl tw1213 ?_
    refine V_callS 25 C dX10_write_22 rfl mX10_in tw982 (c_X10_in l G _ _ _ _ _) rfl rfl (by decide) ⟨by omega, by omega⟩ (Nat.le_of_ble_eq_true rfl) ?_
    rintro _ _ _ ⟨rfl, rfl, rfl⟩
    rw [inI (v := pq2) (lo := 0) (hi := 999999) (by decide +kernel) (by decide +kernel)]
    refine V_if_eqB 40 28 C dX10_write_25 (by decide) rfl  (fun cq25 => ?_) (fun cq25 => ?_)
    · have e9 : (aWr y pq1 pq2 pq3) = (cR, y) := by unfold aWr; rw [if_pos c9, if_neg (fun e => cq25 ⟨by have := e.1.1; omega, by have := e.1.2; omega⟩)]
      refine V_iconst 41 C dX10_write_40 rfl ic2 ?_
      refine V_goto 59 C dX10_write_41 (by decide) ?_
      refine V_L [0, 1, 2, 3] rfl ?_
      exact J59 2 (by omega) (Or.inl ⟨by decide, rA_2 e9⟩)
    · refine V_iload_n 29 C dX10_write_28 rfl rfl ?_
      refine V_i2l 30 C dX10_write_29 rfl  ?_
      refine V_lconst 31 C dX10_write_30 rfl rfl ?_
      refine V_ldc2 34 C dX10_write_31 rfl tw1024 ?_
      refine V_callS 37 C dX10_write_34 rfl mX10_in tw982 (c_X10_in l G _ _ _ _ _) rfl rfl (by decide) ⟨by omega, by omega⟩ (Nat.le_of_ble_eq_true rfl) ?_
      rintro _ _ _ ⟨rfl, rfl, rfl⟩
      rw [inI (v := pq3) (lo := 0) (hi := 9) (by decide +kernel) (by decide +kernel)]
      refine V_if_neB 44 40 C dX10_write_37 (by decide) rfl  (fun cq37 => ?_) (fun cq37 => ?_)
      · have hw : ix pq2 1000000 ∧ ix pq3 10 := ⟨⟨by have := cq25.1; omega, by have := cq25.2; omega⟩, ⟨by have := cq37.1; omega, by have := cq37.2; omega⟩⟩
        refine V_aload_n 45 C dX10_write_44 rfl rfl ?_
        refine V_get (k := 3) 48 C dX10_write_45 rfl fcX10 tw939 (by decide) rfl hm rfl ?_
        refine V_callS 51 C dX10_write_48 rfl mX10_canWrite tw1043 (c_X10_canWrite l G _ _ (m + 2) y hx hIy) rfl rfl (by decide) ⟨by omega, by omega⟩ (Nat.le_of_ble_eq_true rfl) ?_
        rintro _ _ _ ⟨rfl, rfl, rfl⟩
        refine V_if_eqB 58 54 C dX10_write_51 (by decide) rfl  (fun cq51 => ?_) (fun cq51 => ?_)
        · have e9 : (aWr y pq1 pq2 pq3) = (cW, y) := by unfold aWr; rw [if_pos c9, if_pos hw, if_neg cq51]
          refine V_iconst 59 C dX10_write_58 rfl ic3 ?_
          refine V_L [0, 1, 2, 3] rfl ?_
          exact J59 3 (by omega) (Or.inl ⟨by decide, rA_3 e9⟩)
        · refine V_iconst 55 C dX10_write_54 rfl ic0 ?_
          refine V_goto 59 C dX10_write_55 (by decide) ?_
          refine V_L [0, 1, 2, 3] rfl ?_
          exact J59 0 (by omega) (Or.inr ⟨rfl, c9, hw, cq51⟩)
      · have e9 : (aWr y pq1 pq2 pq3) = (cR, y) := by unfold aWr; rw [if_pos c9, if_neg (fun e => cq37 ⟨by have := e.2.1; omega, by have := e.2.2; omega⟩)]
        refine V_iconst 41 C dX10_write_40 rfl ic2 ?_
        refine V_goto 59 C dX10_write_41 (by decide) ?_
        refine V_L [0, 1, 2, 3] rfl ?_
        exact J59 2 (by omega) (Or.inl ⟨by decide, rA_2 e9⟩)
  · have e9 : aWr y pq1 pq2 pq3 = (cN, y) := if_neg c9
    refine V_iconst 13 C dX10_write_12 rfl ic1 ?_
    refine V_goto 59 C dX10_write_13 (by decide) ?_
    refine V_L [0, 1, 2, 3] rfl ?_
    exact J59 1 (by omega) (Or.inl ⟨by decide, rA_1 e9⟩)

theorem dX10_take_0 : decode cX10_take 0 = .ok (.aload_n 0, 1) := by decide +kernel
theorem dX10_take_1 : decode cX10_take 1 = .ok (.aload_n 0, 1) := by decide +kernel
theorem dX10_take_2 : decode cX10_take 2 = .ok (.getfield 13, 3) := by decide +kernel
theorem dX10_take_5 : decode cX10_take 5 = .ok (.iload_n 1, 1) := by decide +kernel
theorem dX10_take_6 : decode cX10_take 6 = .ok (.invokestatic 166, 3) := by decide +kernel
theorem dX10_take_9 : decode cX10_take 9 = .ok (.ifCond .eq 14, 3) := by decide +kernel
theorem dX10_take_12 : decode cX10_take 12 = .ok (.aload_n 0, 1) := by decide +kernel
theorem dX10_take_13 : decode cX10_take 13 = .ok (.getfield 13, 3) := by decide +kernel
theorem dX10_take_16 : decode cX10_take 16 = .ok (.iload_n 2, 1) := by decide +kernel
theorem dX10_take_17 : decode cX10_take 17 = .ok (.invokestatic 169, 3) := by decide +kernel
theorem dX10_take_20 : decode cX10_take 20 = .ok (.ifCond .ne 7, 3) := by decide +kernel
theorem dX10_take_23 : decode cX10_take 23 = .ok (.iconst 1, 1) := by decide +kernel
theorem dX10_take_24 : decode cX10_take 24 = .ok (.goto 20, 3) := by decide +kernel
theorem dX10_take_27 : decode cX10_take 27 = .ok (.aload_n 0, 1) := by decide +kernel
theorem dX10_take_28 : decode cX10_take 28 = .ok (.getfield 13, 3) := by decide +kernel
theorem dX10_take_31 : decode cX10_take 31 = .ok (.iload_n 1, 1) := by decide +kernel
theorem dX10_take_32 : decode cX10_take 32 = .ok (.iload_n 2, 1) := by decide +kernel
theorem dX10_take_33 : decode cX10_take 33 = .ok (.invokestatic 172, 3) := by decide +kernel
theorem dX10_take_36 : decode cX10_take 36 = .ok (.ifCond .eq 7, 3) := by decide +kernel
theorem dX10_take_39 : decode cX10_take 39 = .ok (.iconst 0, 1) := by decide +kernel
theorem dX10_take_40 : decode cX10_take 40 = .ok (.goto 4, 3) := by decide +kernel
theorem dX10_take_43 : decode cX10_take 43 = .ok (.iconst 2, 1) := by decide +kernel
theorem dX10_take_44 : decode cX10_take 44 = .ok (.invokevirtual 124, 3) := by decide +kernel
theorem dX10_take_47 : decode cX10_take 47 = .ok (.ifCond .eq 5, 3) := by decide +kernel
theorem dX10_take_50 : decode cX10_take 50 = .ok (.iconst 0, 1) := by decide +kernel
theorem dX10_take_51 : decode cX10_take 51 = .ok (.ireturn, 1) := by decide +kernel
theorem dX10_take_52 : decode cX10_take 52 = .ok (.aload_n 0, 1) := by decide +kernel
theorem dX10_take_53 : decode cX10_take 53 = .ok (.invokevirtual 248, 3) := by decide +kernel
theorem dX10_take_56 : decode cX10_take 56 = .ok (.aload_n 0, 1) := by decide +kernel
theorem dX10_take_57 : decode cX10_take 57 = .ok (.getfield 13, 3) := by decide +kernel
theorem dX10_take_60 : decode cX10_take 60 = .ok (.iload_n 1, 1) := by decide +kernel
theorem dX10_take_61 : decode cX10_take 61 = .ok (.iload_n 2, 1) := by decide +kernel
theorem dX10_take_62 : decode cX10_take 62 = .ok (.invokestatic 175, 3) := by decide +kernel
theorem dX10_take_65 : decode cX10_take 65 = .ok (.ireturn, 1) := by decide +kernel
set_option maxRecDepth 100000 in
set_option maxHeartbeats 4000000 in
theorem c_X10_take (l : Launch) (G : GT) (n : Nat) (h : AH) (m : Nat) (rf : Int32) (y : Nat → Nat) (k : Nat) (D S : Nat → Nat → Nat) (sv : Nat → Bool) (N : Nat) (T : Nat → Nat) (hS : SysM m rf y k D S sv N T h) (hI : SI y k D S sv N T) (pq1 : Int32) (pq2 : Int32) : Ct l yX10_take cX10_take 3 (some .int) 8 0 0 G n h [.ref m, .int pq1, .int pq2] (PoM m n h (kA 1 1 2 (aTk y pq1 pq2).1) ((aTk y pq1 pq2).1) ((aTk y pq1 pq2).2) (aK (kA 1 1 2 (aTk y pq1 pq2).1) k) (aD (kA 1 1 2 (aTk y pq1 pq2).1) k D y) S sv N T) := by
  have NE := NO_eq
  obtain ⟨⟨sp, ou, g1, hmx⟩, hx, ⟨yt, hxt⟩, ⟨gd, hgd, hdia⟩, ⟨gk, hgk, hkp⟩, ⟨gi, hgi, hik⟩, ⟨gf, hgf⟩⟩ := id hS
  obtain ⟨hNn, hm, hg1, hch⟩ := id hmx
  obtain ⟨hIy, hk14, hID, hIS, hN, hT⟩ := id hI
  obtain ⟨⟨i0, i1, i2, i3, i4⟩, iR, iU, iM, iS⟩ := id hIy
  refine Ct_of mX10_take.1 (Nat.le_of_ble_eq_true rfl) ?_
  intro p₀ e₀ s₀ m₀ as₀ bl₀ me₀ c₀ C hin
  refine V_Le (L' := [(0, .ref m), (1, .int pq1), (2, .int pq2)]) rfl ?_
  refine V_aload_n 1 C dX10_take_0 rfl rfl ?_
  refine V_aload_n 2 C dX10_take_1 rfl rfl ?_
  have J44 : ∀ (w9 : Nat) (hw9 : w9 ≤ 3) (hq : (¬ w9 = 0 ∧ (kA 1 1 2 (aTk y pq1 pq2).1) = w9 ∧ (aTk y pq1 pq2).2 = y) ∨ (w9 = 0 ∧ (ix pq1 (y 2) ∧ ix pq2 (y 4)) ∧ (¬ tof y (z pq1) = NO ∧ pof y (z pq2) = tof y (z pq1) ∧ ¬ y (58 + 6 * (z pq2) + 4) = (z pq1) ∧ car y (z pq1) < 3))), V p₀ l e₀ (rmD 8 0 0) s₀ m₀ as₀ bl₀ me₀ c₀ (MQ bl₀ (Po G (PoM m n h (kA 1 1 2 (aTk y pq1 pq2).1) ((aTk y pq1 pq2).1) ((aTk y pq1 pq2).2) (aK (kA 1 1 2 (aTk y pq1 pq2).1) k) (aD (kA 1 1 2 (aTk y pq1 pq2).1) k D y) S sv N T)) as₀ s₀ 0 0 (rg G)) G 3 0 0 n h 44 [(0, .ref m), (1, .int pq1), (2, .int pq2)] [.int (nI w9), .ref m] := by
    intro w9 hw9 hq
    refine V_callV 47 C dX10_take_44 rfl mX10_refused tw985 fcX10 hm (c_X10_refused l G _ _ m rf (nI N) (nI k) sp ou hm w9 hw9) rfl rfl (by decide) ⟨by omega, by omega⟩ (Nat.le_of_ble_eq_true rfl) ?_
    rintro _ _ h1 ⟨rfl, rfl, eh1⟩
    have hm1 : h1 m = some (obM m (nI w9) (nI N) (nI k) sp ou) := by rw [eh1]; exact up_s _ _ _
    have hF1 : ∀ a, ¬ a = m → h1 a = h a := fun a ha => by rw [eh1]; exact up_n _ ha
    have hS1 : SysM m (nI w9) y k D S sv N T h1 := hS.ob hm1 hF1
    have hX1 : FM m h h1 := fun a ha => hF1 a (by omega)
    have hx1 : Row (m + 2) y h1 := (hF1 _ (by omega)).trans hx
    refine V_if_eqB 52 50 C dX10_take_47 (by decide) rfl  (fun cq47 => ?_) (fun cq47 => ?_)
    · obtain ⟨rfl, hFF⟩ := hq.resolve_left (fun e => by omega)
      obtain ⟨f1, f2⟩ := hFF
      obtain ⟨j1, hj1, rfl⟩ := ix_of f1.1 (by omega)
      have z1 := zn (show j1 < 2 ^ 31 by omega)
      obtain ⟨j2, hj2, rfl⟩ := ix_of f1.2 (by omega)
      have z2 := zn (show j2 < 2 ^ 31 by omega)
      rw [z1, z2] at f2
      have e9 : aTk y (nI j1) (nI j2) = (nI (car y j1 + 1), tkOn y j1 j2) := by unfold aTk; rw [if_pos f1, z1, z2, if_pos f2]
      refine V_aload_n 53 C dX10_take_52 rfl rfl ?_
      refine V_callV 56 C dX10_take_53 rfl mX10_remember tw1196 fcX10 hm1 (c_X10_remember l G _ _ m (nI 0) (nI N) sp ou k hm1 D y gd hk14 hx1 ((hF1 _ (by omega)).trans hgd) hdia) rfl rfl (by decide) ⟨by omega, by omega⟩ (Nat.le_of_ble_eq_true rfl) ?_
      rintro _ _ h2 ⟨rfl, rfl, g7, eh2, hd7⟩
      have hm2 : h2 m = some (obM m (nI 0) (nI N) (nI (psC k)) sp ou) := by rw [eh2]; exact up_s _ _ _
      have hF2 : ∀ a, (¬ a = m ∧ ¬ a = m + 4) → h2 a = h1 a := fun a ha => by rw [eh2, up_n _ ha.1, up_n _ ha.2]
      have hS2 := hS1.rem (k' := psC k) (D' := psD k D y) hm2 (by rw [eh2, up_n _ (by omega)]; exact up_s _ _ _) hd7 (fun a ha => hF2 a (by omega))
      have hx2 : Row (m + 2) y h2 := (hF2 _ (by omega)).trans hx1
      refine V_aload_n 57 C dX10_take_56 rfl rfl ?_
      refine V_get (k := 3) 60 C dX10_take_57 rfl fcX10 tw939 (by decide) rfl hm2 rfl ?_
      refine V_iload_n 61 C dX10_take_60 rfl rfl ?_
      refine V_iload_n 62 C dX10_take_61 rfl rfl ?_
      refine V_callS 65 C dX10_take_62 rfl mX10_takeOn tw1088 (c_X10_takeOn l G _ _ (m + 2) y hx2 hIy j1 j2 hj1 hj2) rfl rfl (by decide) ⟨by omega, by omega⟩ (Nat.le_of_ble_eq_true rfl) ?_
      rintro _ _ h3 ⟨rfl, rfl, eh3⟩
      have hS3 := hS2.now (h' := h3) (y' := tkOn y j1 j2) (by rw [eh3]; exact HR_row _ _ _) (fun a ha => by rw [eh3]; exact HR_n ha)
      have hX3 : FM m h h3 := fun a ha => by rw [eh3, HR_n (by omega), hF2 a (by omega)]; exact hX1 a ha
      refine V_ireturn C dX10_take_65 rfl rfl (by omega) (by omega) ?_
      exact (by rw [e9]; exact PoM_B (nIc (by have := f2.2.2.2; omega)) (by rw [car_tk hj2 f2.2.2.1]) (rfl) hS3 hX3)
    · have hqn := (hq.resolve_right (fun e => by omega))
      refine V_iconst 51 C dX10_take_50 rfl ic0 ?_
      refine V_ireturn C dX10_take_51 rfl rfl (by omega) (by omega) ?_
      exact (PoM_A hqn.1 hqn.2 hS1 hX1)
  refine V_get (k := 3) 5 C dX10_take_2 rfl fcX10 tw939 (by decide) rfl hm rfl ?_
  refine V_iload_n 6 C dX10_take_5 rfl rfl ?_
  refine V_callS 9 C dX10_take_6 rfl mX10_isRunner tw1064 (c_X10_isRunner l G _ _ (m + 2) y hx hIy pq1) rfl rfl (by decide) ⟨by omega, by omega⟩ (Nat.le_of_ble_eq_true rfl) ?_
  rintro _ _ _ ⟨rfl, rfl, rfl⟩
  refine V_if_eqB 23 12 C dX10_take_9 (by decide) rfl  (fun c9 => ?_) (fun c9 => ?_)
  · have e9 : (aTk y pq1 pq2) = (cN, y) := by unfold aTk; rw [if_neg (fun e => c9 e.1)]
    refine V_iconst 24 C dX10_take_23 rfl ic1 ?_
    refine V_goto 44 C dX10_take_24 (by decide) ?_
    refine V_L [0, 1, 2] rfl ?_
    exact J44 1 (by omega) (Or.inl ⟨by decide, rA_1 e9⟩)
  · refine V_aload_n 13 C dX10_take_12 rfl rfl ?_
    refine V_get (k := 3) 16 C dX10_take_13 rfl fcX10 tw939 (by decide) rfl hm rfl ?_
    refine V_iload_n 17 C dX10_take_16 rfl rfl ?_
    refine V_callS 20 C dX10_take_17 rfl mX10_isSheet tw1067 (c_X10_isSheet l G _ _ (m + 2) y hx hIy pq2) rfl rfl (by decide) ⟨by omega, by omega⟩ (Nat.le_of_ble_eq_true rfl) ?_
    rintro _ _ _ ⟨rfl, rfl, rfl⟩
    refine V_if_neB 27 23 C dX10_take_20 (by decide) rfl  (fun cq20 => ?_) (fun cq20 => ?_)
    · have cc : ix pq1 (y 2) ∧ ix pq2 (y 4) := ⟨c9, cq20⟩
      obtain ⟨j1, hj1, rfl⟩ := ix_of c9 (by omega)
      have z1 := zn (show j1 < 2 ^ 31 by omega)
      obtain ⟨j2, hj2, rfl⟩ := ix_of cq20 (by omega)
      have z2 := zn (show j2 < 2 ^ 31 by omega)
      
      refine V_aload_n 28 C dX10_take_27 rfl rfl ?_
      refine V_get (k := 3) 31 C dX10_take_28 rfl fcX10 tw939 (by decide) rfl hm rfl ?_
      refine V_iload_n 32 C dX10_take_31 rfl rfl ?_
      refine V_iload_n 33 C dX10_take_32 rfl rfl ?_
      refine V_callS 36 C dX10_take_33 rfl mX10_canTake tw1070 (c_X10_canTake l G _ _ (m + 2) y hx hIy j1 j2 hj1 hj2) rfl rfl (by decide) ⟨by omega, by omega⟩ (Nat.le_of_ble_eq_true rfl) ?_
      rintro _ _ _ ⟨rfl, rfl, rfl⟩
      refine V_if_eqB 43 39 C dX10_take_36 (by decide) rfl  (fun cq36 => ?_) (fun cq36 => ?_)
      · have e9 : (aTk y (nI j1) (nI j2)) = (cW, y) := by unfold aTk; rw [if_pos cc, z1, z2, if_neg cq36]
        refine V_iconst 44 C dX10_take_43 rfl ic2 ?_
        refine V_L [0, 1, 2] rfl ?_
        exact J44 2 (by omega) (Or.inl ⟨by decide, rA_3 e9⟩)
      · refine V_iconst 40 C dX10_take_39 rfl ic0 ?_
        refine V_goto 44 C dX10_take_40 (by decide) ?_
        refine V_L [0, 1, 2] rfl ?_
        exact J44 0 (by omega) (Or.inr ⟨rfl, cc, by rw [z1, z2]; exact cq36⟩)
    · have e9 : (aTk y pq1 pq2) = (cN, y) := by unfold aTk; rw [if_neg (fun e => cq20 e.2)]
      refine V_iconst 24 C dX10_take_23 rfl ic1 ?_
      refine V_goto 44 C dX10_take_24 (by decide) ?_
      refine V_L [0, 1, 2] rfl ?_
      exact J44 1 (by omega) (Or.inl ⟨by decide, rA_1 e9⟩)

theorem dX10_lay_0 : decode cX10_lay 0 = .ok (.aload_n 0, 1) := by decide +kernel
theorem dX10_lay_1 : decode cX10_lay 1 = .ok (.aload_n 0, 1) := by decide +kernel
theorem dX10_lay_2 : decode cX10_lay 2 = .ok (.getfield 13, 3) := by decide +kernel
theorem dX10_lay_5 : decode cX10_lay 5 = .ok (.iload_n 1, 1) := by decide +kernel
theorem dX10_lay_6 : decode cX10_lay 6 = .ok (.invokestatic 169, 3) := by decide +kernel
theorem dX10_lay_9 : decode cX10_lay 9 = .ok (.ifCond .ne 7, 3) := by decide +kernel
theorem dX10_lay_12 : decode cX10_lay 12 = .ok (.iconst 1, 1) := by decide +kernel
theorem dX10_lay_13 : decode cX10_lay 13 = .ok (.goto 19, 3) := by decide +kernel
theorem dX10_lay_16 : decode cX10_lay 16 = .ok (.aload_n 0, 1) := by decide +kernel
theorem dX10_lay_17 : decode cX10_lay 17 = .ok (.getfield 13, 3) := by decide +kernel
theorem dX10_lay_20 : decode cX10_lay 20 = .ok (.iload_n 1, 1) := by decide +kernel
theorem dX10_lay_21 : decode cX10_lay 21 = .ok (.invokestatic 205, 3) := by decide +kernel
theorem dX10_lay_24 : decode cX10_lay 24 = .ok (.ifCond .eq 7, 3) := by decide +kernel
theorem dX10_lay_27 : decode cX10_lay 27 = .ok (.iconst 0, 1) := by decide +kernel
theorem dX10_lay_28 : decode cX10_lay 28 = .ok (.goto 4, 3) := by decide +kernel
theorem dX10_lay_31 : decode cX10_lay 31 = .ok (.iconst 2, 1) := by decide +kernel
theorem dX10_lay_32 : decode cX10_lay 32 = .ok (.invokevirtual 124, 3) := by decide +kernel
theorem dX10_lay_35 : decode cX10_lay 35 = .ok (.ifCond .eq 5, 3) := by decide +kernel
theorem dX10_lay_38 : decode cX10_lay 38 = .ok (.iconst 0, 1) := by decide +kernel
theorem dX10_lay_39 : decode cX10_lay 39 = .ok (.ireturn, 1) := by decide +kernel
theorem dX10_lay_40 : decode cX10_lay 40 = .ok (.aload_n 0, 1) := by decide +kernel
theorem dX10_lay_41 : decode cX10_lay 41 = .ok (.invokevirtual 248, 3) := by decide +kernel
theorem dX10_lay_44 : decode cX10_lay 44 = .ok (.aload_n 0, 1) := by decide +kernel
theorem dX10_lay_45 : decode cX10_lay 45 = .ok (.getfield 13, 3) := by decide +kernel
theorem dX10_lay_48 : decode cX10_lay 48 = .ok (.iload_n 1, 1) := by decide +kernel
theorem dX10_lay_49 : decode cX10_lay 49 = .ok (.invokestatic 208, 3) := by decide +kernel
theorem dX10_lay_52 : decode cX10_lay 52 = .ok (.ireturn, 1) := by decide +kernel
set_option maxRecDepth 100000 in
set_option maxHeartbeats 4000000 in
theorem c_X10_lay (l : Launch) (G : GT) (n : Nat) (h : AH) (m : Nat) (rf : Int32) (y : Nat → Nat) (k : Nat) (D S : Nat → Nat → Nat) (sv : Nat → Bool) (N : Nat) (T : Nat → Nat) (hS : SysM m rf y k D S sv N T h) (hI : SI y k D S sv N T) (pq1 : Int32) : Ct l yX10_lay cX10_lay 2 (some .int) 8 0 0 G n h [.ref m, .int pq1] (PoM m n h (kA 1 1 2 (aLy y pq1).1) ((aLy y pq1).1) ((aLy y pq1).2) (aK (kA 1 1 2 (aLy y pq1).1) k) (aD (kA 1 1 2 (aLy y pq1).1) k D y) S sv N T) := by
  have NE := NO_eq
  obtain ⟨⟨sp, ou, g1, hmx⟩, hx, ⟨yt, hxt⟩, ⟨gd, hgd, hdia⟩, ⟨gk, hgk, hkp⟩, ⟨gi, hgi, hik⟩, ⟨gf, hgf⟩⟩ := id hS
  obtain ⟨hNn, hm, hg1, hch⟩ := id hmx
  obtain ⟨hIy, hk14, hID, hIS, hN, hT⟩ := id hI
  obtain ⟨⟨i0, i1, i2, i3, i4⟩, iR, iU, iM, iS⟩ := id hIy
  refine Ct_of mX10_lay.1 (Nat.le_of_ble_eq_true rfl) ?_
  intro p₀ e₀ s₀ m₀ as₀ bl₀ me₀ c₀ C hin
  refine V_Le (L' := [(0, .ref m), (1, .int pq1)]) rfl ?_
  refine V_aload_n 1 C dX10_lay_0 rfl rfl ?_
  refine V_aload_n 2 C dX10_lay_1 rfl rfl ?_
  have J32 : ∀ (w9 : Nat) (hw9 : w9 ≤ 3) (hq : (¬ w9 = 0 ∧ (kA 1 1 2 (aLy y pq1).1) = w9 ∧ (aLy y pq1).2 = y) ∨ (w9 = 0 ∧ ix pq1 (y 4) ∧ (¬ pof y (z pq1) = NO ∧ ¬ y (58 + 6 * (z pq1) + 4) = NO))), V p₀ l e₀ (rmD 8 0 0) s₀ m₀ as₀ bl₀ me₀ c₀ (MQ bl₀ (Po G (PoM m n h (kA 1 1 2 (aLy y pq1).1) ((aLy y pq1).1) ((aLy y pq1).2) (aK (kA 1 1 2 (aLy y pq1).1) k) (aD (kA 1 1 2 (aLy y pq1).1) k D y) S sv N T)) as₀ s₀ 0 0 (rg G)) G 2 0 0 n h 32 [(0, .ref m), (1, .int pq1)] [.int (nI w9), .ref m] := by
    intro w9 hw9 hq
    refine V_callV 35 C dX10_lay_32 rfl mX10_refused tw985 fcX10 hm (c_X10_refused l G _ _ m rf (nI N) (nI k) sp ou hm w9 hw9) rfl rfl (by decide) ⟨by omega, by omega⟩ (Nat.le_of_ble_eq_true rfl) ?_
    rintro _ _ h1 ⟨rfl, rfl, eh1⟩
    have hm1 : h1 m = some (obM m (nI w9) (nI N) (nI k) sp ou) := by rw [eh1]; exact up_s _ _ _
    have hF1 : ∀ a, ¬ a = m → h1 a = h a := fun a ha => by rw [eh1]; exact up_n _ ha
    have hS1 : SysM m (nI w9) y k D S sv N T h1 := hS.ob hm1 hF1
    have hX1 : FM m h h1 := fun a ha => hF1 a (by omega)
    have hx1 : Row (m + 2) y h1 := (hF1 _ (by omega)).trans hx
    refine V_if_eqB 40 38 C dX10_lay_35 (by decide) rfl  (fun cq35 => ?_) (fun cq35 => ?_)
    · obtain ⟨rfl, hFF⟩ := hq.resolve_left (fun e => by omega)
      obtain ⟨f1, f2⟩ := hFF
      obtain ⟨j1, hj1, rfl⟩ := ix_of f1 (by omega)
      have z1 := zn (show j1 < 2 ^ 31 by omega)
      rw [z1] at f2
      have hpb := pof_31 hIy hj1 f2.1
      have e9 : aLy y (nI j1) = (nI (pof y j1), lyOn y j1) := by unfold aLy; rw [if_pos f1, z1, if_pos f2]
      refine V_aload_n 41 C dX10_lay_40 rfl rfl ?_
      refine V_callV 44 C dX10_lay_41 rfl mX10_remember tw1196 fcX10 hm1 (c_X10_remember l G _ _ m (nI 0) (nI N) sp ou k hm1 D y gd hk14 hx1 ((hF1 _ (by omega)).trans hgd) hdia) rfl rfl (by decide) ⟨by omega, by omega⟩ (Nat.le_of_ble_eq_true rfl) ?_
      rintro _ _ h2 ⟨rfl, rfl, g7, eh2, hd7⟩
      have hm2 : h2 m = some (obM m (nI 0) (nI N) (nI (psC k)) sp ou) := by rw [eh2]; exact up_s _ _ _
      have hF2 : ∀ a, (¬ a = m ∧ ¬ a = m + 4) → h2 a = h1 a := fun a ha => by rw [eh2, up_n _ ha.1, up_n _ ha.2]
      have hS2 := hS1.rem (k' := psC k) (D' := psD k D y) hm2 (by rw [eh2, up_n _ (by omega)]; exact up_s _ _ _) hd7 (fun a ha => hF2 a (by omega))
      have hx2 : Row (m + 2) y h2 := (hF2 _ (by omega)).trans hx1
      refine V_aload_n 45 C dX10_lay_44 rfl rfl ?_
      refine V_get (k := 3) 48 C dX10_lay_45 rfl fcX10 tw939 (by decide) rfl hm2 rfl ?_
      refine V_iload_n 49 C dX10_lay_48 rfl rfl ?_
      refine V_callS 52 C dX10_lay_49 rfl mX10_layOn tw1094 (c_X10_layOn l G _ _ (m + 2) y hx2 hIy j1 hj1) rfl rfl (by decide) ⟨by omega, by omega⟩ (Nat.le_of_ble_eq_true rfl) ?_
      rintro _ _ h3 ⟨rfl, rfl, eh3⟩
      have hS3 := hS2.now (h' := h3) (y' := lyOn y j1) (by rw [eh3]; exact HR_row _ _ _) (fun a ha => by rw [eh3]; exact HR_n ha)
      have hX3 : FM m h h3 := fun a ha => by rw [eh3, HR_n (by omega), hF2 a (by omega)]; exact hX1 a ha
      refine V_ireturn C dX10_lay_52 rfl rfl (by omega) (by omega) ?_
      exact (by rw [e9]; exact PoM_B (nIc (by omega)) (rfl) (rfl) hS3 hX3)
    · have hqn := (hq.resolve_right (fun e => by omega))
      refine V_iconst 39 C dX10_lay_38 rfl ic0 ?_
      refine V_ireturn C dX10_lay_39 rfl rfl (by omega) (by omega) ?_
      exact (PoM_A hqn.1 hqn.2 hS1 hX1)
  refine V_get (k := 3) 5 C dX10_lay_2 rfl fcX10 tw939 (by decide) rfl hm rfl ?_
  refine V_iload_n 6 C dX10_lay_5 rfl rfl ?_
  refine V_callS 9 C dX10_lay_6 rfl mX10_isSheet tw1067 (c_X10_isSheet l G _ _ (m + 2) y hx hIy pq1) rfl rfl (by decide) ⟨by omega, by omega⟩ (Nat.le_of_ble_eq_true rfl) ?_
  rintro _ _ _ ⟨rfl, rfl, rfl⟩
  refine V_if_neB 16 12 C dX10_lay_9 (by decide) rfl  (fun c9 => ?_) (fun c9 => ?_)
  · have cc := c9
    obtain ⟨j1, hj1, rfl⟩ := ix_of c9 (by omega)
    have z1 := zn (show j1 < 2 ^ 31 by omega)
    
    refine V_aload_n 17 C dX10_lay_16 rfl rfl ?_
    refine V_get (k := 3) 20 C dX10_lay_17 rfl fcX10 tw939 (by decide) rfl hm rfl ?_
    refine V_iload_n 21 C dX10_lay_20 rfl rfl ?_
    refine V_callS 24 C dX10_lay_21 rfl mX10_canLay tw1091 (c_X10_canLay l G _ _ (m + 2) y hx hIy j1 hj1) rfl rfl (by decide) ⟨by omega, by omega⟩ (Nat.le_of_ble_eq_true rfl) ?_
    rintro _ _ _ ⟨rfl, rfl, rfl⟩
    refine V_if_eqB 31 27 C dX10_lay_24 (by decide) rfl  (fun cq24 => ?_) (fun cq24 => ?_)
    · have e9 : (aLy y (nI j1)) = (cW, y) := by unfold aLy; rw [if_pos cc, z1, if_neg cq24]
      refine V_iconst 32 C dX10_lay_31 rfl ic2 ?_
      refine V_L [0, 1] rfl ?_
      exact J32 2 (by omega) (Or.inl ⟨by decide, rA_3 e9⟩)
    · refine V_iconst 28 C dX10_lay_27 rfl ic0 ?_
      refine V_goto 32 C dX10_lay_28 (by decide) ?_
      refine V_L [0, 1] rfl ?_
      exact J32 0 (by omega) (Or.inr ⟨rfl, cc, by rw [z1]; exact cq24⟩)
  · have e9 : aLy y pq1 = (cN, y) := if_neg c9
    refine V_iconst 13 C dX10_lay_12 rfl ic1 ?_
    refine V_goto 32 C dX10_lay_13 (by decide) ?_
    refine V_L [0, 1] rfl ?_
    exact J32 1 (by omega) (Or.inl ⟨by decide, rA_1 e9⟩)

theorem dX10_go_0 : decode cX10_go 0 = .ok (.aload_n 0, 1) := by decide +kernel
theorem dX10_go_1 : decode cX10_go 1 = .ok (.aload_n 0, 1) := by decide +kernel
theorem dX10_go_2 : decode cX10_go 2 = .ok (.getfield 13, 3) := by decide +kernel
theorem dX10_go_5 : decode cX10_go 5 = .ok (.iload_n 1, 1) := by decide +kernel
theorem dX10_go_6 : decode cX10_go 6 = .ok (.invokestatic 166, 3) := by decide +kernel
theorem dX10_go_9 : decode cX10_go 9 = .ok (.ifCond .eq 14, 3) := by decide +kernel
theorem dX10_go_12 : decode cX10_go 12 = .ok (.aload_n 0, 1) := by decide +kernel
theorem dX10_go_13 : decode cX10_go 13 = .ok (.getfield 13, 3) := by decide +kernel
theorem dX10_go_16 : decode cX10_go 16 = .ok (.iload_n 2, 1) := by decide +kernel
theorem dX10_go_17 : decode cX10_go 17 = .ok (.invokestatic 178, 3) := by decide +kernel
theorem dX10_go_20 : decode cX10_go 20 = .ok (.ifCond .ne 7, 3) := by decide +kernel
theorem dX10_go_23 : decode cX10_go 23 = .ok (.iconst 1, 1) := by decide +kernel
theorem dX10_go_24 : decode cX10_go 24 = .ok (.goto 20, 3) := by decide +kernel
theorem dX10_go_27 : decode cX10_go 27 = .ok (.aload_n 0, 1) := by decide +kernel
theorem dX10_go_28 : decode cX10_go 28 = .ok (.getfield 13, 3) := by decide +kernel
theorem dX10_go_31 : decode cX10_go 31 = .ok (.iload_n 1, 1) := by decide +kernel
theorem dX10_go_32 : decode cX10_go 32 = .ok (.iload_n 2, 1) := by decide +kernel
theorem dX10_go_33 : decode cX10_go 33 = .ok (.invokestatic 181, 3) := by decide +kernel
theorem dX10_go_36 : decode cX10_go 36 = .ok (.ifCond .eq 7, 3) := by decide +kernel
theorem dX10_go_39 : decode cX10_go 39 = .ok (.iconst 0, 1) := by decide +kernel
theorem dX10_go_40 : decode cX10_go 40 = .ok (.goto 4, 3) := by decide +kernel
theorem dX10_go_43 : decode cX10_go 43 = .ok (.iconst 2, 1) := by decide +kernel
theorem dX10_go_44 : decode cX10_go 44 = .ok (.invokevirtual 124, 3) := by decide +kernel
theorem dX10_go_47 : decode cX10_go 47 = .ok (.ifCond .eq 5, 3) := by decide +kernel
theorem dX10_go_50 : decode cX10_go 50 = .ok (.iconst 0, 1) := by decide +kernel
theorem dX10_go_51 : decode cX10_go 51 = .ok (.ireturn, 1) := by decide +kernel
theorem dX10_go_52 : decode cX10_go 52 = .ok (.aload_n 0, 1) := by decide +kernel
theorem dX10_go_53 : decode cX10_go 53 = .ok (.invokevirtual 248, 3) := by decide +kernel
theorem dX10_go_56 : decode cX10_go 56 = .ok (.aload_n 0, 1) := by decide +kernel
theorem dX10_go_57 : decode cX10_go 57 = .ok (.getfield 13, 3) := by decide +kernel
theorem dX10_go_60 : decode cX10_go 60 = .ok (.iload_n 1, 1) := by decide +kernel
theorem dX10_go_61 : decode cX10_go 61 = .ok (.iload_n 2, 1) := by decide +kernel
theorem dX10_go_62 : decode cX10_go 62 = .ok (.invokestatic 184, 3) := by decide +kernel
theorem dX10_go_65 : decode cX10_go 65 = .ok (.ireturn, 1) := by decide +kernel
set_option maxRecDepth 100000 in
set_option maxHeartbeats 4000000 in
theorem c_X10_go (l : Launch) (G : GT) (n : Nat) (h : AH) (m : Nat) (rf : Int32) (y : Nat → Nat) (k : Nat) (D S : Nat → Nat → Nat) (sv : Nat → Bool) (N : Nat) (T : Nat → Nat) (hS : SysM m rf y k D S sv N T h) (hI : SI y k D S sv N T) (pq1 : Int32) (pq2 : Int32) : Ct l yX10_go cX10_go 3 (some .int) 8 0 0 G n h [.ref m, .int pq1, .int pq2] (PoM m n h (kA 1 1 2 (aGo y pq1 pq2).1) ((aGo y pq1 pq2).1) ((aGo y pq1 pq2).2) (aK (kA 1 1 2 (aGo y pq1 pq2).1) k) (aD (kA 1 1 2 (aGo y pq1 pq2).1) k D y) S sv N T) := by
  have NE := NO_eq
  obtain ⟨⟨sp, ou, g1, hmx⟩, hx, ⟨yt, hxt⟩, ⟨gd, hgd, hdia⟩, ⟨gk, hgk, hkp⟩, ⟨gi, hgi, hik⟩, ⟨gf, hgf⟩⟩ := id hS
  obtain ⟨hNn, hm, hg1, hch⟩ := id hmx
  obtain ⟨hIy, hk14, hID, hIS, hN, hT⟩ := id hI
  obtain ⟨⟨i0, i1, i2, i3, i4⟩, iR, iU, iM, iS⟩ := id hIy
  refine Ct_of mX10_go.1 (Nat.le_of_ble_eq_true rfl) ?_
  intro p₀ e₀ s₀ m₀ as₀ bl₀ me₀ c₀ C hin
  refine V_Le (L' := [(0, .ref m), (1, .int pq1), (2, .int pq2)]) rfl ?_
  refine V_aload_n 1 C dX10_go_0 rfl rfl ?_
  refine V_aload_n 2 C dX10_go_1 rfl rfl ?_
  have J44 : ∀ (w9 : Nat) (hw9 : w9 ≤ 3) (hq : (¬ w9 = 0 ∧ (kA 1 1 2 (aGo y pq1 pq2).1) = w9 ∧ (aGo y pq1 pq2).2 = y) ∨ (w9 = 0 ∧ (ix pq1 (y 2) ∧ ix pq2 (y 1)) ∧ (¬ tof y (z pq1) = NO ∧ (y (7 + 3 * (z pq2)) = tof y (z pq1) ∨ y (7 + 3 * (z pq2) + 1) = tof y (z pq1))))), V p₀ l e₀ (rmD 8 0 0) s₀ m₀ as₀ bl₀ me₀ c₀ (MQ bl₀ (Po G (PoM m n h (kA 1 1 2 (aGo y pq1 pq2).1) ((aGo y pq1 pq2).1) ((aGo y pq1 pq2).2) (aK (kA 1 1 2 (aGo y pq1 pq2).1) k) (aD (kA 1 1 2 (aGo y pq1 pq2).1) k D y) S sv N T)) as₀ s₀ 0 0 (rg G)) G 3 0 0 n h 44 [(0, .ref m), (1, .int pq1), (2, .int pq2)] [.int (nI w9), .ref m] := by
    intro w9 hw9 hq
    refine V_callV 47 C dX10_go_44 rfl mX10_refused tw985 fcX10 hm (c_X10_refused l G _ _ m rf (nI N) (nI k) sp ou hm w9 hw9) rfl rfl (by decide) ⟨by omega, by omega⟩ (Nat.le_of_ble_eq_true rfl) ?_
    rintro _ _ h1 ⟨rfl, rfl, eh1⟩
    have hm1 : h1 m = some (obM m (nI w9) (nI N) (nI k) sp ou) := by rw [eh1]; exact up_s _ _ _
    have hF1 : ∀ a, ¬ a = m → h1 a = h a := fun a ha => by rw [eh1]; exact up_n _ ha
    have hS1 : SysM m (nI w9) y k D S sv N T h1 := hS.ob hm1 hF1
    have hX1 : FM m h h1 := fun a ha => hF1 a (by omega)
    have hx1 : Row (m + 2) y h1 := (hF1 _ (by omega)).trans hx
    refine V_if_eqB 52 50 C dX10_go_47 (by decide) rfl  (fun cq47 => ?_) (fun cq47 => ?_)
    · obtain ⟨rfl, hFF⟩ := hq.resolve_left (fun e => by omega)
      obtain ⟨f1, f2⟩ := hFF
      obtain ⟨j1, hj1, rfl⟩ := ix_of f1.1 (by omega)
      have z1 := zn (show j1 < 2 ^ 31 by omega)
      obtain ⟨j2, hj2, rfl⟩ := ix_of f1.2 (by omega)
      have z2 := zn (show j2 < 2 ^ 31 by omega)
      rw [z1, z2] at f2
      have hgb := goT_b hIy j1 hj2
      have e9 : aGo y (nI j1) (nI j2) = (nI (goT y j1 j2), gOn y j1 j2) := by unfold aGo; rw [if_pos f1, z1, z2, if_pos f2]
      refine V_aload_n 53 C dX10_go_52 rfl rfl ?_
      refine V_callV 56 C dX10_go_53 rfl mX10_remember tw1196 fcX10 hm1 (c_X10_remember l G _ _ m (nI 0) (nI N) sp ou k hm1 D y gd hk14 hx1 ((hF1 _ (by omega)).trans hgd) hdia) rfl rfl (by decide) ⟨by omega, by omega⟩ (Nat.le_of_ble_eq_true rfl) ?_
      rintro _ _ h2 ⟨rfl, rfl, g7, eh2, hd7⟩
      have hm2 : h2 m = some (obM m (nI 0) (nI N) (nI (psC k)) sp ou) := by rw [eh2]; exact up_s _ _ _
      have hF2 : ∀ a, (¬ a = m ∧ ¬ a = m + 4) → h2 a = h1 a := fun a ha => by rw [eh2, up_n _ ha.1, up_n _ ha.2]
      have hS2 := hS1.rem (k' := psC k) (D' := psD k D y) hm2 (by rw [eh2, up_n _ (by omega)]; exact up_s _ _ _) hd7 (fun a ha => hF2 a (by omega))
      have hx2 : Row (m + 2) y h2 := (hF2 _ (by omega)).trans hx1
      refine V_aload_n 57 C dX10_go_56 rfl rfl ?_
      refine V_get (k := 3) 60 C dX10_go_57 rfl fcX10 tw939 (by decide) rfl hm2 rfl ?_
      refine V_iload_n 61 C dX10_go_60 rfl rfl ?_
      refine V_iload_n 62 C dX10_go_61 rfl rfl ?_
      refine V_callS 65 C dX10_go_62 rfl mX10_goOn tw1110 (c_X10_goOn l G _ _ (m + 2) y hx2 hIy j1 j2 hj1 hj2) rfl rfl (by decide) ⟨by omega, by omega⟩ (Nat.le_of_ble_eq_true rfl) ?_
      rintro _ _ h3 ⟨rfl, rfl, eh3⟩
      have hS3 := hS2.now (h' := h3) (y' := gOn y j1 j2) (by rw [eh3]; exact HR_row _ _ _) (fun a ha => by rw [eh3]; exact HR_n ha)
      have hX3 : FM m h h3 := fun a ha => by rw [eh3, HR_n (by omega), hF2 a (by omega)]; exact hX1 a ha
      refine V_ireturn C dX10_go_65 rfl rfl (by omega) (by omega) ?_
      exact (by rw [e9]; exact PoM_B (nIc (by omega)) (rfl) (rfl) hS3 hX3)
    · have hqn := (hq.resolve_right (fun e => by omega))
      refine V_iconst 51 C dX10_go_50 rfl ic0 ?_
      refine V_ireturn C dX10_go_51 rfl rfl (by omega) (by omega) ?_
      exact (PoM_A hqn.1 hqn.2 hS1 hX1)
  refine V_get (k := 3) 5 C dX10_go_2 rfl fcX10 tw939 (by decide) rfl hm rfl ?_
  refine V_iload_n 6 C dX10_go_5 rfl rfl ?_
  refine V_callS 9 C dX10_go_6 rfl mX10_isRunner tw1064 (c_X10_isRunner l G _ _ (m + 2) y hx hIy pq1) rfl rfl (by decide) ⟨by omega, by omega⟩ (Nat.le_of_ble_eq_true rfl) ?_
  rintro _ _ _ ⟨rfl, rfl, rfl⟩
  refine V_if_eqB 23 12 C dX10_go_9 (by decide) rfl  (fun c9 => ?_) (fun c9 => ?_)
  · have e9 : (aGo y pq1 pq2) = (cN, y) := by unfold aGo; rw [if_neg (fun e => c9 e.1)]
    refine V_iconst 24 C dX10_go_23 rfl ic1 ?_
    refine V_goto 44 C dX10_go_24 (by decide) ?_
    refine V_L [0, 1, 2] rfl ?_
    exact J44 1 (by omega) (Or.inl ⟨by decide, rA_1 e9⟩)
  · refine V_aload_n 13 C dX10_go_12 rfl rfl ?_
    refine V_get (k := 3) 16 C dX10_go_13 rfl fcX10 tw939 (by decide) rfl hm rfl ?_
    refine V_iload_n 17 C dX10_go_16 rfl rfl ?_
    refine V_callS 20 C dX10_go_17 rfl mX10_isRoad tw1101 (c_X10_isRoad l G _ _ (m + 2) y hx hIy pq2) rfl rfl (by decide) ⟨by omega, by omega⟩ (Nat.le_of_ble_eq_true rfl) ?_
    rintro _ _ _ ⟨rfl, rfl, rfl⟩
    refine V_if_neB 27 23 C dX10_go_20 (by decide) rfl  (fun cq20 => ?_) (fun cq20 => ?_)
    · have cc : ix pq1 (y 2) ∧ ix pq2 (y 1) := ⟨c9, cq20⟩
      obtain ⟨j1, hj1, rfl⟩ := ix_of c9 (by omega)
      have z1 := zn (show j1 < 2 ^ 31 by omega)
      obtain ⟨j2, hj2, rfl⟩ := ix_of cq20 (by omega)
      have z2 := zn (show j2 < 2 ^ 31 by omega)
      
      refine V_aload_n 28 C dX10_go_27 rfl rfl ?_
      refine V_get (k := 3) 31 C dX10_go_28 rfl fcX10 tw939 (by decide) rfl hm rfl ?_
      refine V_iload_n 32 C dX10_go_31 rfl rfl ?_
      refine V_iload_n 33 C dX10_go_32 rfl rfl ?_
      refine V_callS 36 C dX10_go_33 rfl mX10_canGo tw1104 (c_X10_canGo l G _ _ (m + 2) y hx hIy j1 j2 hj1 hj2) rfl rfl (by decide) ⟨by omega, by omega⟩ (Nat.le_of_ble_eq_true rfl) ?_
      rintro _ _ _ ⟨rfl, rfl, rfl⟩
      refine V_if_eqB 43 39 C dX10_go_36 (by decide) rfl  (fun cq36 => ?_) (fun cq36 => ?_)
      · have e9 : (aGo y (nI j1) (nI j2)) = (cW, y) := by unfold aGo; rw [if_pos cc, z1, z2, if_neg cq36]
        refine V_iconst 44 C dX10_go_43 rfl ic2 ?_
        refine V_L [0, 1, 2] rfl ?_
        exact J44 2 (by omega) (Or.inl ⟨by decide, rA_3 e9⟩)
      · refine V_iconst 40 C dX10_go_39 rfl ic0 ?_
        refine V_goto 44 C dX10_go_40 (by decide) ?_
        refine V_L [0, 1, 2] rfl ?_
        exact J44 0 (by omega) (Or.inr ⟨rfl, cc, by rw [z1, z2]; exact cq36⟩)
    · have e9 : (aGo y pq1 pq2) = (cN, y) := by unfold aGo; rw [if_neg (fun e => cq20 e.2)]
      refine V_iconst 24 C dX10_go_23 rfl ic1 ?_
      refine V_goto 44 C dX10_go_24 (by decide) ?_
      refine V_L [0, 1, 2] rfl ?_
      exact J44 1 (by omega) (Or.inl ⟨by decide, rA_1 e9⟩)

theorem dX10_copy_0 : decode cX10_copy 0 = .ok (.aload_n 0, 1) := by decide +kernel
theorem dX10_copy_1 : decode cX10_copy 1 = .ok (.aload_n 0, 1) := by decide +kernel
theorem dX10_copy_2 : decode cX10_copy 2 = .ok (.getfield 13, 3) := by decide +kernel
theorem dX10_copy_5 : decode cX10_copy 5 = .ok (.iload_n 1, 1) := by decide +kernel
theorem dX10_copy_6 : decode cX10_copy 6 = .ok (.invokestatic 169, 3) := by decide +kernel
theorem dX10_copy_9 : decode cX10_copy 9 = .ok (.ifCond .ne 7, 3) := by decide +kernel
theorem dX10_copy_12 : decode cX10_copy 12 = .ok (.iconst 1, 1) := by decide +kernel
theorem dX10_copy_13 : decode cX10_copy 13 = .ok (.goto 20, 3) := by decide +kernel
theorem dX10_copy_16 : decode cX10_copy 16 = .ok (.iload_n 2, 1) := by decide +kernel
theorem dX10_copy_17 : decode cX10_copy 17 = .ok (.i2l, 1) := by decide +kernel
theorem dX10_copy_18 : decode cX10_copy 18 = .ok (.lconst 0, 1) := by decide +kernel
theorem dX10_copy_19 : decode cX10_copy 19 = .ok (.ldc2_w 92, 3) := by decide +kernel
theorem dX10_copy_22 : decode cX10_copy 22 = .ok (.invokestatic 40, 3) := by decide +kernel
theorem dX10_copy_25 : decode cX10_copy 25 = .ok (.ifCond .eq 7, 3) := by decide +kernel
theorem dX10_copy_28 : decode cX10_copy 28 = .ok (.iconst 0, 1) := by decide +kernel
theorem dX10_copy_29 : decode cX10_copy 29 = .ok (.goto 4, 3) := by decide +kernel
theorem dX10_copy_32 : decode cX10_copy 32 = .ok (.iconst 2, 1) := by decide +kernel
theorem dX10_copy_33 : decode cX10_copy 33 = .ok (.invokevirtual 124, 3) := by decide +kernel
theorem dX10_copy_36 : decode cX10_copy 36 = .ok (.ifCond .eq 5, 3) := by decide +kernel
theorem dX10_copy_39 : decode cX10_copy 39 = .ok (.iconst 0, 1) := by decide +kernel
theorem dX10_copy_40 : decode cX10_copy 40 = .ok (.ireturn, 1) := by decide +kernel
theorem dX10_copy_41 : decode cX10_copy 41 = .ok (.aload_n 0, 1) := by decide +kernel
theorem dX10_copy_42 : decode cX10_copy 42 = .ok (.invokevirtual 248, 3) := by decide +kernel
theorem dX10_copy_45 : decode cX10_copy 45 = .ok (.aload_n 0, 1) := by decide +kernel
theorem dX10_copy_46 : decode cX10_copy 46 = .ok (.getfield 13, 3) := by decide +kernel
theorem dX10_copy_49 : decode cX10_copy 49 = .ok (.iload_n 1, 1) := by decide +kernel
theorem dX10_copy_50 : decode cX10_copy 50 = .ok (.iload_n 2, 1) := by decide +kernel
theorem dX10_copy_51 : decode cX10_copy 51 = .ok (.invokestatic 187, 3) := by decide +kernel
theorem dX10_copy_54 : decode cX10_copy 54 = .ok (.ireturn, 1) := by decide +kernel
set_option maxRecDepth 100000 in
set_option maxHeartbeats 4000000 in
theorem c_X10_copy (l : Launch) (G : GT) (n : Nat) (h : AH) (m : Nat) (rf : Int32) (y : Nat → Nat) (k : Nat) (D S : Nat → Nat → Nat) (sv : Nat → Bool) (N : Nat) (T : Nat → Nat) (hS : SysM m rf y k D S sv N T h) (hI : SI y k D S sv N T) (pq1 : Int32) (pq2 : Int32) : Ct l yX10_copy cX10_copy 3 (some .int) 8 0 0 G n h [.ref m, .int pq1, .int pq2] (PoM m n h (kA 1 2 1 (aCp y pq1 pq2).1) ((aCp y pq1 pq2).1) (cnt (aCp y pq1 pq2)) (aK (kA 1 2 1 (aCp y pq1 pq2).1) k) (aD (kA 1 2 1 (aCp y pq1 pq2).1) k D y) S sv N T) := by
  have NE := NO_eq
  obtain ⟨⟨sp, ou, g1, hmx⟩, hx, ⟨yt, hxt⟩, ⟨gd, hgd, hdia⟩, ⟨gk, hgk, hkp⟩, ⟨gi, hgi, hik⟩, ⟨gf, hgf⟩⟩ := id hS
  obtain ⟨hNn, hm, hg1, hch⟩ := id hmx
  obtain ⟨hIy, hk14, hID, hIS, hN, hT⟩ := id hI
  obtain ⟨⟨i0, i1, i2, i3, i4⟩, iR, iU, iM, iS⟩ := id hIy
  refine Ct_of mX10_copy.1 (Nat.le_of_ble_eq_true rfl) ?_
  intro p₀ e₀ s₀ m₀ as₀ bl₀ me₀ c₀ C hin
  refine V_Le (L' := [(0, .ref m), (1, .int pq1), (2, .int pq2)]) rfl ?_
  refine V_aload_n 1 C dX10_copy_0 rfl rfl ?_
  refine V_aload_n 2 C dX10_copy_1 rfl rfl ?_
  have J33 : ∀ (w9 : Nat) (hw9 : w9 ≤ 3) (hq : (¬ w9 = 0 ∧ (kA 1 2 1 (aCp y pq1 pq2).1) = w9 ∧ cnt (aCp y pq1 pq2) = y) ∨ (w9 = 0 ∧ ix pq1 (y 4) ∧ ix pq2 10)), V p₀ l e₀ (rmD 8 0 0) s₀ m₀ as₀ bl₀ me₀ c₀ (MQ bl₀ (Po G (PoM m n h (kA 1 2 1 (aCp y pq1 pq2).1) ((aCp y pq1 pq2).1) (cnt (aCp y pq1 pq2)) (aK (kA 1 2 1 (aCp y pq1 pq2).1) k) (aD (kA 1 2 1 (aCp y pq1 pq2).1) k D y) S sv N T)) as₀ s₀ 0 0 (rg G)) G 3 0 0 n h 33 [(0, .ref m), (1, .int pq1), (2, .int pq2)] [.int (nI w9), .ref m] := by
    intro w9 hw9 hq
    refine V_callV 36 C dX10_copy_33 rfl mX10_refused tw985 fcX10 hm (c_X10_refused l G _ _ m rf (nI N) (nI k) sp ou hm w9 hw9) rfl rfl (by decide) ⟨by omega, by omega⟩ (Nat.le_of_ble_eq_true rfl) ?_
    rintro _ _ h1 ⟨rfl, rfl, eh1⟩
    have hm1 : h1 m = some (obM m (nI w9) (nI N) (nI k) sp ou) := by rw [eh1]; exact up_s _ _ _
    have hF1 : ∀ a, ¬ a = m → h1 a = h a := fun a ha => by rw [eh1]; exact up_n _ ha
    have hS1 : SysM m (nI w9) y k D S sv N T h1 := hS.ob hm1 hF1
    have hX1 : FM m h h1 := fun a ha => hF1 a (by omega)
    have hx1 : Row (m + 2) y h1 := (hF1 _ (by omega)).trans hx
    refine V_if_eqB 41 39 C dX10_copy_36 (by decide) rfl  (fun cq36 => ?_) (fun cq36 => ?_)
    · obtain ⟨rfl, hFF⟩ := hq.resolve_left (fun e => by omega)
      obtain ⟨f1, f2⟩ := hFF
      obtain ⟨j1, hj1, rfl⟩ := ix_of f1 (by omega)
      have z1 := zn (show j1 < 2 ^ 31 by omega)
      obtain ⟨j2, hj2, rfl⟩ := ix_of f2 (by omega)
      have z2 := zn (show j2 < 2 ^ 31 by omega)
      have hcb := crs_le y j1
      have e9 : aCp y (nI j1) (nI j2) = (nI (crs y j1), cpC y j1 j2) := by unfold aCp; rw [if_pos f1, if_pos f2, z1, z2]
      refine V_aload_n 42 C dX10_copy_41 rfl rfl ?_
      refine V_callV 45 C dX10_copy_42 rfl mX10_remember tw1196 fcX10 hm1 (c_X10_remember l G _ _ m (nI 0) (nI N) sp ou k hm1 D y gd hk14 hx1 ((hF1 _ (by omega)).trans hgd) hdia) rfl rfl (by decide) ⟨by omega, by omega⟩ (Nat.le_of_ble_eq_true rfl) ?_
      rintro _ _ h2 ⟨rfl, rfl, g7, eh2, hd7⟩
      have hm2 : h2 m = some (obM m (nI 0) (nI N) (nI (psC k)) sp ou) := by rw [eh2]; exact up_s _ _ _
      have hF2 : ∀ a, (¬ a = m ∧ ¬ a = m + 4) → h2 a = h1 a := fun a ha => by rw [eh2, up_n _ ha.1, up_n _ ha.2]
      have hS2 := hS1.rem (k' := psC k) (D' := psD k D y) hm2 (by rw [eh2, up_n _ (by omega)]; exact up_s _ _ _) hd7 (fun a ha => hF2 a (by omega))
      have hx2 : Row (m + 2) y h2 := (hF2 _ (by omega)).trans hx1
      refine V_aload_n 46 C dX10_copy_45 rfl rfl ?_
      refine V_get (k := 3) 49 C dX10_copy_46 rfl fcX10 tw939 (by decide) rfl hm2 rfl ?_
      refine V_iload_n 50 C dX10_copy_49 rfl rfl ?_
      refine V_iload_n 51 C dX10_copy_50 rfl rfl ?_
      refine V_callS 54 C dX10_copy_51 rfl mX10_copyOn tw1123 (c_X10_copyOn l G _ _ (m + 2) y hx2 hIy j1 j2 hj1) rfl rfl (by decide) ⟨by omega, by omega⟩ (Nat.le_of_ble_eq_true rfl) ?_
      rintro _ _ h3 ⟨rfl, rfl, eh3⟩
      have hS3 := hS2.now (h' := h3) (y' := cpOn y j1 j2) (by rw [eh3]; exact HR_row _ _ _) (fun a ha => by rw [eh3]; exact HR_n ha)
      have hX3 : FM m h h3 := fun a ha => by rw [eh3, HR_n (by omega), hF2 a (by omega)]; exact hX1 a ha
      refine V_ireturn C dX10_copy_54 rfl rfl (by omega) (by omega) ?_
      exact (by rw [e9]; exact PoM_B (nIc (by omega)) (rfl) (cnt_cp.symm) hS3 hX3)
    · have hqn := (hq.resolve_right (fun e => by omega))
      refine V_iconst 40 C dX10_copy_39 rfl ic0 ?_
      refine V_ireturn C dX10_copy_40 rfl rfl (by omega) (by omega) ?_
      exact (PoM_A hqn.1 hqn.2 hS1 hX1)
  refine V_get (k := 3) 5 C dX10_copy_2 rfl fcX10 tw939 (by decide) rfl hm rfl ?_
  refine V_iload_n 6 C dX10_copy_5 rfl rfl ?_
  refine V_callS 9 C dX10_copy_6 rfl mX10_isSheet tw1067 (c_X10_isSheet l G _ _ (m + 2) y hx hIy pq1) rfl rfl (by decide) ⟨by omega, by omega⟩ (Nat.le_of_ble_eq_true rfl) ?_
  rintro _ _ _ ⟨rfl, rfl, rfl⟩
  refine V_if_neB 16 12 C dX10_copy_9 (by decide) rfl  (fun c9 => ?_) (fun c9 => ?_)
  · refine V_iload_n 17 C dX10_copy_16 rfl rfl ?_
    refine V_i2l 18 C dX10_copy_17 rfl  ?_
    refine V_lconst 19 C dX10_copy_18 rfl rfl ?_
    refine V_ldc2 22 C dX10_copy_19 rfl tw1024 ?_
    refine V_callS 25 C dX10_copy_22 rfl mX10_in tw982 (c_X10_in l G _ _ _ _ _) rfl rfl (by decide) ⟨by omega, by omega⟩ (Nat.le_of_ble_eq_true rfl) ?_
    rintro _ _ _ ⟨rfl, rfl, rfl⟩
    rw [inI (v := pq2) (lo := 0) (hi := 9) (by decide +kernel) (by decide +kernel)]
    refine V_if_eqB 32 28 C dX10_copy_25 (by decide) rfl  (fun cq25 => ?_) (fun cq25 => ?_)
    · have e9 : (aCp y pq1 pq2) = (cR, y) := by unfold aCp; rw [if_pos c9, if_neg (fun e => cq25 ⟨by have := e.1; omega, by have := e.2; omega⟩)]
      refine V_iconst 33 C dX10_copy_32 rfl ic2 ?_
      refine V_L [0, 1, 2] rfl ?_
      exact J33 2 (by omega) (Or.inl ⟨by decide, rC_2 e9⟩)
    · have hw : ix pq2 10 := ⟨by have := cq25.1; omega, by have := cq25.2; omega⟩
      refine V_iconst 29 C dX10_copy_28 rfl ic0 ?_
      refine V_goto 33 C dX10_copy_29 (by decide) ?_
      refine V_L [0, 1, 2] rfl ?_
      exact J33 0 (by omega) (Or.inr ⟨rfl, c9, hw⟩)
  · have e9 : aCp y pq1 pq2 = (cN, y) := if_neg c9
    refine V_iconst 13 C dX10_copy_12 rfl ic1 ?_
    refine V_goto 33 C dX10_copy_13 (by decide) ?_
    refine V_L [0, 1, 2] rfl ?_
    exact J33 1 (by omega) (Or.inl ⟨by decide, rC_1 e9⟩)

theorem dX10_proof_0 : decode cX10_proof 0 = .ok (.aload_n 0, 1) := by decide +kernel
theorem dX10_proof_1 : decode cX10_proof 1 = .ok (.aload_n 0, 1) := by decide +kernel
theorem dX10_proof_2 : decode cX10_proof 2 = .ok (.getfield 13, 3) := by decide +kernel
theorem dX10_proof_5 : decode cX10_proof 5 = .ok (.iload_n 1, 1) := by decide +kernel
theorem dX10_proof_6 : decode cX10_proof 6 = .ok (.invokestatic 169, 3) := by decide +kernel
theorem dX10_proof_9 : decode cX10_proof 9 = .ok (.ifCond .eq 25, 3) := by decide +kernel
theorem dX10_proof_12 : decode cX10_proof 12 = .ok (.aload_n 0, 1) := by decide +kernel
theorem dX10_proof_13 : decode cX10_proof 13 = .ok (.getfield 13, 3) := by decide +kernel
theorem dX10_proof_16 : decode cX10_proof 16 = .ok (.iload_n 2, 1) := by decide +kernel
theorem dX10_proof_17 : decode cX10_proof 17 = .ok (.invokestatic 169, 3) := by decide +kernel
theorem dX10_proof_20 : decode cX10_proof 20 = .ok (.ifCond .eq 14, 3) := by decide +kernel
theorem dX10_proof_23 : decode cX10_proof 23 = .ok (.aload_n 0, 1) := by decide +kernel
theorem dX10_proof_24 : decode cX10_proof 24 = .ok (.getfield 13, 3) := by decide +kernel
theorem dX10_proof_27 : decode cX10_proof 27 = .ok (.iload_n 3, 1) := by decide +kernel
theorem dX10_proof_28 : decode cX10_proof 28 = .ok (.invokestatic 169, 3) := by decide +kernel
theorem dX10_proof_31 : decode cX10_proof 31 = .ok (.ifCond .ne 7, 3) := by decide +kernel
theorem dX10_proof_34 : decode cX10_proof 34 = .ok (.iconst 1, 1) := by decide +kernel
theorem dX10_proof_35 : decode cX10_proof 35 = .ok (.goto 23, 3) := by decide +kernel
theorem dX10_proof_38 : decode cX10_proof 38 = .ok (.aload_n 0, 1) := by decide +kernel
theorem dX10_proof_39 : decode cX10_proof 39 = .ok (.getfield 13, 3) := by decide +kernel
theorem dX10_proof_42 : decode cX10_proof 42 = .ok (.iload_n 1, 1) := by decide +kernel
theorem dX10_proof_43 : decode cX10_proof 43 = .ok (.iload_n 2, 1) := by decide +kernel
theorem dX10_proof_44 : decode cX10_proof 44 = .ok (.iload_n 3, 1) := by decide +kernel
theorem dX10_proof_45 : decode cX10_proof 45 = .ok (.iload 4, 2) := by decide +kernel
theorem dX10_proof_47 : decode cX10_proof 47 = .ok (.invokestatic 255, 3) := by decide +kernel
theorem dX10_proof_50 : decode cX10_proof 50 = .ok (.ifCond .eq 7, 3) := by decide +kernel
theorem dX10_proof_53 : decode cX10_proof 53 = .ok (.iconst 0, 1) := by decide +kernel
theorem dX10_proof_54 : decode cX10_proof 54 = .ok (.goto 4, 3) := by decide +kernel
theorem dX10_proof_57 : decode cX10_proof 57 = .ok (.iconst 2, 1) := by decide +kernel
theorem dX10_proof_58 : decode cX10_proof 58 = .ok (.invokevirtual 124, 3) := by decide +kernel
theorem dX10_proof_61 : decode cX10_proof 61 = .ok (.ifCond .eq 5, 3) := by decide +kernel
theorem dX10_proof_64 : decode cX10_proof 64 = .ok (.iconst 0, 1) := by decide +kernel
theorem dX10_proof_65 : decode cX10_proof 65 = .ok (.ireturn, 1) := by decide +kernel
theorem dX10_proof_66 : decode cX10_proof 66 = .ok (.aload_n 0, 1) := by decide +kernel
theorem dX10_proof_67 : decode cX10_proof 67 = .ok (.invokevirtual 248, 3) := by decide +kernel
theorem dX10_proof_70 : decode cX10_proof 70 = .ok (.aload_n 0, 1) := by decide +kernel
theorem dX10_proof_71 : decode cX10_proof 71 = .ok (.getfield 13, 3) := by decide +kernel
theorem dX10_proof_74 : decode cX10_proof 74 = .ok (.iload_n 1, 1) := by decide +kernel
theorem dX10_proof_75 : decode cX10_proof 75 = .ok (.iload_n 2, 1) := by decide +kernel
theorem dX10_proof_76 : decode cX10_proof 76 = .ok (.iload_n 3, 1) := by decide +kernel
theorem dX10_proof_77 : decode cX10_proof 77 = .ok (.iload 4, 2) := by decide +kernel
theorem dX10_proof_79 : decode cX10_proof 79 = .ok (.invokestatic 259, 3) := by decide +kernel
theorem dX10_proof_82 : decode cX10_proof 82 = .ok (.ireturn, 1) := by decide +kernel
set_option maxRecDepth 100000 in
set_option maxHeartbeats 4000000 in
theorem c_X10_proof (l : Launch) (G : GT) (n : Nat) (h : AH) (m : Nat) (rf : Int32) (y : Nat → Nat) (k : Nat) (D S : Nat → Nat → Nat) (sv : Nat → Bool) (N : Nat) (T : Nat → Nat) (hS : SysM m rf y k D S sv N T h) (hI : SI y k D S sv N T) (pq1 : Int32) (pq2 : Int32) (pq3 : Int32) (pq4 : Int32) : Ct l yX10_proof cX10_proof 5 (some .int) 8 0 0 G n h [.ref m, .int pq1, .int pq2, .int pq3, .int pq4] (PoM m n h (kA 1 2 1 (aPr y pq1 pq2 pq3 pq4).1) ((aPr y pq1 pq2 pq3 pq4).1) (cnt (aPr y pq1 pq2 pq3 pq4)) (aK (kA 1 2 1 (aPr y pq1 pq2 pq3 pq4).1) k) (aD (kA 1 2 1 (aPr y pq1 pq2 pq3 pq4).1) k D y) S sv N T) := by
  have NE := NO_eq
  obtain ⟨⟨sp, ou, g1, hmx⟩, hx, ⟨yt, hxt⟩, ⟨gd, hgd, hdia⟩, ⟨gk, hgk, hkp⟩, ⟨gi, hgi, hik⟩, ⟨gf, hgf⟩⟩ := id hS
  obtain ⟨hNn, hm, hg1, hch⟩ := id hmx
  obtain ⟨hIy, hk14, hID, hIS, hN, hT⟩ := id hI
  obtain ⟨⟨i0, i1, i2, i3, i4⟩, iR, iU, iM, iS⟩ := id hIy
  refine Ct_of mX10_proof.1 (Nat.le_of_ble_eq_true rfl) ?_
  intro p₀ e₀ s₀ m₀ as₀ bl₀ me₀ c₀ C hin
  refine V_Le (L' := [(0, .ref m), (1, .int pq1), (2, .int pq2), (3, .int pq3), (4, .int pq4)]) rfl ?_
  refine V_aload_n 1 C dX10_proof_0 rfl rfl ?_
  refine V_aload_n 2 C dX10_proof_1 rfl rfl ?_
  have J58 : ∀ (w9 : Nat) (hw9 : w9 ≤ 3) (hq : (¬ w9 = 0 ∧ (kA 1 2 1 (aPr y pq1 pq2 pq3 pq4).1) = w9 ∧ cnt (aPr y pq1 pq2 pq3 pq4) = y) ∨ (w9 = 0 ∧ (ix pq1 (y 4) ∧ ix pq2 (y 4) ∧ ix pq3 (y 4)) ∧ ((¬ z pq1 = z pq2 ∧ ¬ z pq1 = z pq3 ∧ ¬ z pq2 = z pq3 ∧ y (58 + 6 * z pq1) = y (58 + 6 * z pq2) ∧ y (58 + 6 * z pq1) = y (58 + 6 * z pq3)) ∧ ix pq4 10))), V p₀ l e₀ (rmD 8 0 0) s₀ m₀ as₀ bl₀ me₀ c₀ (MQ bl₀ (Po G (PoM m n h (kA 1 2 1 (aPr y pq1 pq2 pq3 pq4).1) ((aPr y pq1 pq2 pq3 pq4).1) (cnt (aPr y pq1 pq2 pq3 pq4)) (aK (kA 1 2 1 (aPr y pq1 pq2 pq3 pq4).1) k) (aD (kA 1 2 1 (aPr y pq1 pq2 pq3 pq4).1) k D y) S sv N T)) as₀ s₀ 0 0 (rg G)) G 5 0 0 n h 58 [(0, .ref m), (1, .int pq1), (2, .int pq2), (3, .int pq3), (4, .int pq4)] [.int (nI w9), .ref m] := by
    intro w9 hw9 hq
    refine V_callV 61 C dX10_proof_58 rfl mX10_refused tw985 fcX10 hm (c_X10_refused l G _ _ m rf (nI N) (nI k) sp ou hm w9 hw9) rfl rfl (by decide) ⟨by omega, by omega⟩ (Nat.le_of_ble_eq_true rfl) ?_
    rintro _ _ h1 ⟨rfl, rfl, eh1⟩
    have hm1 : h1 m = some (obM m (nI w9) (nI N) (nI k) sp ou) := by rw [eh1]; exact up_s _ _ _
    have hF1 : ∀ a, ¬ a = m → h1 a = h a := fun a ha => by rw [eh1]; exact up_n _ ha
    have hS1 : SysM m (nI w9) y k D S sv N T h1 := hS.ob hm1 hF1
    have hX1 : FM m h h1 := fun a ha => hF1 a (by omega)
    have hx1 : Row (m + 2) y h1 := (hF1 _ (by omega)).trans hx
    refine V_if_eqB 66 64 C dX10_proof_61 (by decide) rfl  (fun cq61 => ?_) (fun cq61 => ?_)
    · obtain ⟨rfl, hFF⟩ := hq.resolve_left (fun e => by omega)
      obtain ⟨f1, f2⟩ := hFF
      obtain ⟨j1, hj1, rfl⟩ := ix_of f1.1 (by omega)
      have z1 := zn (show j1 < 2 ^ 31 by omega)
      obtain ⟨j2, hj2, rfl⟩ := ix_of f1.2.1 (by omega)
      have z2 := zn (show j2 < 2 ^ 31 by omega)
      obtain ⟨j3, hj3, rfl⟩ := ix_of f1.2.2 (by omega)
      have z3 := zn (show j3 < 2 ^ 31 by omega)
      obtain ⟨j4, hj4, rfl⟩ := ix_of f2.2 (by omega)
      have z4 := zn (show j4 < 2 ^ 31 by omega)
      rw [z1, z2, z3] at f2
      have hcb := prs_le y j1 j2 j3
      have e9 : aPr y (nI j1) (nI j2) (nI j3) (nI j4) = (nI (prs y j1 j2 j3), prC y j1 j2 j3 j4) := by unfold aPr; rw [if_pos f1, z1, z2, z3, if_pos f2, z4]
      refine V_aload_n 67 C dX10_proof_66 rfl rfl ?_
      refine V_callV 70 C dX10_proof_67 rfl mX10_remember tw1196 fcX10 hm1 (c_X10_remember l G _ _ m (nI 0) (nI N) sp ou k hm1 D y gd hk14 hx1 ((hF1 _ (by omega)).trans hgd) hdia) rfl rfl (by decide) ⟨by omega, by omega⟩ (Nat.le_of_ble_eq_true rfl) ?_
      rintro _ _ h2 ⟨rfl, rfl, g7, eh2, hd7⟩
      have hm2 : h2 m = some (obM m (nI 0) (nI N) (nI (psC k)) sp ou) := by rw [eh2]; exact up_s _ _ _
      have hF2 : ∀ a, (¬ a = m ∧ ¬ a = m + 4) → h2 a = h1 a := fun a ha => by rw [eh2, up_n _ ha.1, up_n _ ha.2]
      have hS2 := hS1.rem (k' := psC k) (D' := psD k D y) hm2 (by rw [eh2, up_n _ (by omega)]; exact up_s _ _ _) hd7 (fun a ha => hF2 a (by omega))
      have hx2 : Row (m + 2) y h2 := (hF2 _ (by omega)).trans hx1
      refine V_aload_n 71 C dX10_proof_70 rfl rfl ?_
      refine V_get (k := 3) 74 C dX10_proof_71 rfl fcX10 tw939 (by decide) rfl hm2 rfl ?_
      refine V_iload_n 75 C dX10_proof_74 rfl rfl ?_
      refine V_iload_n 76 C dX10_proof_75 rfl rfl ?_
      refine V_iload_n 77 C dX10_proof_76 rfl rfl ?_
      refine V_iload 79 C dX10_proof_77 rfl rfl ?_
      refine V_callS 82 C dX10_proof_79 rfl mX10_proofOn tw1237 (c_X10_proofOn l G _ _ (m + 2) y hx2 hIy j1 j2 j3 j4 hj1 hj2 hj3) rfl rfl (by decide) ⟨by omega, by omega⟩ (Nat.le_of_ble_eq_true rfl) ?_
      rintro _ _ h3 ⟨rfl, rfl, eh3⟩
      have hS3 := hS2.now (h' := h3) (y' := prOn y j1 j2 j3 j4) (by rw [eh3]; exact HR_row _ _ _) (fun a ha => by rw [eh3]; exact HR_n ha)
      have hX3 : FM m h h3 := fun a ha => by rw [eh3, HR_n (by omega), hF2 a (by omega)]; exact hX1 a ha
      refine V_ireturn C dX10_proof_82 rfl rfl (by omega) (by omega) ?_
      exact (by rw [e9]; exact PoM_B (nIc (by omega)) (rfl) (cnt_pr.symm) hS3 hX3)
    · have hqn := (hq.resolve_right (fun e => by omega))
      refine V_iconst 65 C dX10_proof_64 rfl ic0 ?_
      refine V_ireturn C dX10_proof_65 rfl rfl (by omega) (by omega) ?_
      exact (PoM_A hqn.1 hqn.2 hS1 hX1)
  refine V_get (k := 3) 5 C dX10_proof_2 rfl fcX10 tw939 (by decide) rfl hm rfl ?_
  refine V_iload_n 6 C dX10_proof_5 rfl rfl ?_
  refine V_callS 9 C dX10_proof_6 rfl mX10_isSheet tw1067 (c_X10_isSheet l G _ _ (m + 2) y hx hIy pq1) rfl rfl (by decide) ⟨by omega, by omega⟩ (Nat.le_of_ble_eq_true rfl) ?_
  rintro _ _ _ ⟨rfl, rfl, rfl⟩
  refine V_if_eqB 34 12 C dX10_proof_9 (by decide) rfl  (fun c9 => ?_) (fun c9 => ?_)
  · have e9 : (aPr y pq1 pq2 pq3 pq4) = (cN, y) := by unfold aPr; rw [if_neg (fun e => c9 e.1)]
    refine V_iconst 35 C dX10_proof_34 rfl ic1 ?_
    refine V_goto 58 C dX10_proof_35 (by decide) ?_
    refine V_L [0, 1, 2, 3, 4] rfl ?_
    exact J58 1 (by omega) (Or.inl ⟨by decide, rC_1 e9⟩)
  · refine V_aload_n 13 C dX10_proof_12 rfl rfl ?_
    refine V_get (k := 3) 16 C dX10_proof_13 rfl fcX10 tw939 (by decide) rfl hm rfl ?_
    refine V_iload_n 17 C dX10_proof_16 rfl rfl ?_
    refine V_callS 20 C dX10_proof_17 rfl mX10_isSheet tw1067 (c_X10_isSheet l G _ _ (m + 2) y hx hIy pq2) rfl rfl (by decide) ⟨by omega, by omega⟩ (Nat.le_of_ble_eq_true rfl) ?_
    rintro _ _ _ ⟨rfl, rfl, rfl⟩
    refine V_if_eqB 34 23 C dX10_proof_20 (by decide) rfl  (fun cq20 => ?_) (fun cq20 => ?_)
    · have e9 : (aPr y pq1 pq2 pq3 pq4) = (cN, y) := by unfold aPr; rw [if_neg (fun e => cq20 e.2.1)]
      refine V_iconst 35 C dX10_proof_34 rfl ic1 ?_
      refine V_goto 58 C dX10_proof_35 (by decide) ?_
      refine V_L [0, 1, 2, 3, 4] rfl ?_
      exact J58 1 (by omega) (Or.inl ⟨by decide, rC_1 e9⟩)
    · refine V_aload_n 24 C dX10_proof_23 rfl rfl ?_
      refine V_get (k := 3) 27 C dX10_proof_24 rfl fcX10 tw939 (by decide) rfl hm rfl ?_
      refine V_iload_n 28 C dX10_proof_27 rfl rfl ?_
      refine V_callS 31 C dX10_proof_28 rfl mX10_isSheet tw1067 (c_X10_isSheet l G _ _ (m + 2) y hx hIy pq3) rfl rfl (by decide) ⟨by omega, by omega⟩ (Nat.le_of_ble_eq_true rfl) ?_
      rintro _ _ _ ⟨rfl, rfl, rfl⟩
      refine V_if_neB 38 34 C dX10_proof_31 (by decide) rfl  (fun cq31 => ?_) (fun cq31 => ?_)
      · have cc : ix pq1 (y 4) ∧ ix pq2 (y 4) ∧ ix pq3 (y 4) := ⟨c9, cq20, cq31⟩
        obtain ⟨j1, hj1, rfl⟩ := ix_of c9 (by omega)
        have z1 := zn (show j1 < 2 ^ 31 by omega)
        obtain ⟨j2, hj2, rfl⟩ := ix_of cq20 (by omega)
        have z2 := zn (show j2 < 2 ^ 31 by omega)
        obtain ⟨j3, hj3, rfl⟩ := ix_of cq31 (by omega)
        have z3 := zn (show j3 < 2 ^ 31 by omega)
        
        refine V_aload_n 39 C dX10_proof_38 rfl rfl ?_
        refine V_get (k := 3) 42 C dX10_proof_39 rfl fcX10 tw939 (by decide) rfl hm rfl ?_
        refine V_iload_n 43 C dX10_proof_42 rfl rfl ?_
        refine V_iload_n 44 C dX10_proof_43 rfl rfl ?_
        refine V_iload_n 45 C dX10_proof_44 rfl rfl ?_
        refine V_iload 47 C dX10_proof_45 rfl rfl ?_
        refine V_callS 50 C dX10_proof_47 rfl mX10_areProof tw1234 (c_X10_areProof l G _ _ (m + 2) y hx hIy j1 j2 j3 pq4 hj1 hj2 hj3) rfl rfl (by decide) ⟨by omega, by omega⟩ (Nat.le_of_ble_eq_true rfl) ?_
        rintro _ _ _ ⟨rfl, rfl, rfl⟩
        refine V_if_eqB 57 53 C dX10_proof_50 (by decide) rfl  (fun cq50 => ?_) (fun cq50 => ?_)
        · have e9 : (aPr y (nI j1) (nI j2) (nI j3) pq4) = (cR, y) := by unfold aPr; rw [if_pos cc, z1, z2, z3, if_neg cq50]
          refine V_iconst 58 C dX10_proof_57 rfl ic2 ?_
          refine V_L [0, 1, 2, 3, 4] rfl ?_
          exact J58 2 (by omega) (Or.inl ⟨by decide, rC_2 e9⟩)
        · refine V_iconst 54 C dX10_proof_53 rfl ic0 ?_
          refine V_goto 58 C dX10_proof_54 (by decide) ?_
          refine V_L [0, 1, 2, 3, 4] rfl ?_
          exact J58 0 (by omega) (Or.inr ⟨rfl, cc, by rw [z1, z2, z3]; exact cq50⟩)
      · have e9 : (aPr y pq1 pq2 pq3 pq4) = (cN, y) := by unfold aPr; rw [if_neg (fun e => cq31 e.2.2)]
        refine V_iconst 35 C dX10_proof_34 rfl ic1 ?_
        refine V_goto 58 C dX10_proof_35 (by decide) ?_
        refine V_L [0, 1, 2, 3, 4] rfl ?_
        exact J58 1 (by omega) (Or.inl ⟨by decide, rC_1 e9⟩)

theorem dX10_hours_0 : decode cX10_hours 0 = .ok (.aload_n 0, 1) := by decide +kernel
theorem dX10_hours_1 : decode cX10_hours 1 = .ok (.iload_n 1, 1) := by decide +kernel
theorem dX10_hours_2 : decode cX10_hours 2 = .ok (.i2l, 1) := by decide +kernel
theorem dX10_hours_3 : decode cX10_hours 3 = .ok (.lconst 1, 1) := by decide +kernel
theorem dX10_hours_4 : decode cX10_hours 4 = .ok (.ldc2_w 263, 3) := by decide +kernel
theorem dX10_hours_7 : decode cX10_hours 7 = .ok (.invokestatic 40, 3) := by decide +kernel
theorem dX10_hours_10 : decode cX10_hours 10 = .ok (.ifCond .eq 7, 3) := by decide +kernel
theorem dX10_hours_13 : decode cX10_hours 13 = .ok (.iconst 0, 1) := by decide +kernel
theorem dX10_hours_14 : decode cX10_hours 14 = .ok (.goto 4, 3) := by decide +kernel
theorem dX10_hours_17 : decode cX10_hours 17 = .ok (.iconst 1, 1) := by decide +kernel
theorem dX10_hours_18 : decode cX10_hours 18 = .ok (.invokevirtual 124, 3) := by decide +kernel
theorem dX10_hours_21 : decode cX10_hours 21 = .ok (.ifCond .eq 5, 3) := by decide +kernel
theorem dX10_hours_24 : decode cX10_hours 24 = .ok (.iconst 0, 1) := by decide +kernel
theorem dX10_hours_25 : decode cX10_hours 25 = .ok (.ireturn, 1) := by decide +kernel
theorem dX10_hours_26 : decode cX10_hours 26 = .ok (.aload_n 0, 1) := by decide +kernel
theorem dX10_hours_27 : decode cX10_hours 27 = .ok (.invokevirtual 248, 3) := by decide +kernel
theorem dX10_hours_30 : decode cX10_hours 30 = .ok (.aload_n 0, 1) := by decide +kernel
theorem dX10_hours_31 : decode cX10_hours 31 = .ok (.getfield 13, 3) := by decide +kernel
theorem dX10_hours_34 : decode cX10_hours 34 = .ok (.iload_n 1, 1) := by decide +kernel
theorem dX10_hours_35 : decode cX10_hours 35 = .ok (.invokestatic 217, 3) := by decide +kernel
theorem dX10_hours_38 : decode cX10_hours 38 = .ok (.ireturn, 1) := by decide +kernel
set_option maxRecDepth 100000 in
set_option maxHeartbeats 4000000 in
theorem c_X10_hours (l : Launch) (G : GT) (n : Nat) (h : AH) (m : Nat) (rf : Int32) (y : Nat → Nat) (k : Nat) (D S : Nat → Nat → Nat) (sv : Nat → Bool) (N : Nat) (T : Nat → Nat) (hS : SysM m rf y k D S sv N T h) (hI : SI y k D S sv N T) (pq1 : Int32) : Ct l yX10_hours cX10_hours 2 (some .int) 8 0 0 G n h [.ref m, .int pq1] (PoM m n h (kA 1 1 1 (aHr y pq1).1) ((aHr y pq1).1) ((aHr y pq1).2) (aK (kA 1 1 1 (aHr y pq1).1) k) (aD (kA 1 1 1 (aHr y pq1).1) k D y) S sv N T) := by
  have NE := NO_eq
  obtain ⟨⟨sp, ou, g1, hmx⟩, hx, ⟨yt, hxt⟩, ⟨gd, hgd, hdia⟩, ⟨gk, hgk, hkp⟩, ⟨gi, hgi, hik⟩, ⟨gf, hgf⟩⟩ := id hS
  obtain ⟨hNn, hm, hg1, hch⟩ := id hmx
  obtain ⟨hIy, hk14, hID, hIS, hN, hT⟩ := id hI
  obtain ⟨⟨i0, i1, i2, i3, i4⟩, iR, iU, iM, iS⟩ := id hIy
  refine Ct_of mX10_hours.1 (Nat.le_of_ble_eq_true rfl) ?_
  intro p₀ e₀ s₀ m₀ as₀ bl₀ me₀ c₀ C hin
  refine V_Le (L' := [(0, .ref m), (1, .int pq1)]) rfl ?_
  refine V_aload_n 1 C dX10_hours_0 rfl rfl ?_
  have J18 : ∀ (w9 : Nat) (hw9 : w9 ≤ 3) (hq : (¬ w9 = 0 ∧ (kA 1 1 1 (aHr y pq1).1) = w9 ∧ (aHr y pq1).2 = y) ∨ (w9 = 0 ∧ (1 ≤ pq1.toInt ∧ pq1.toInt ≤ 60))), V p₀ l e₀ (rmD 8 0 0) s₀ m₀ as₀ bl₀ me₀ c₀ (MQ bl₀ (Po G (PoM m n h (kA 1 1 1 (aHr y pq1).1) ((aHr y pq1).1) ((aHr y pq1).2) (aK (kA 1 1 1 (aHr y pq1).1) k) (aD (kA 1 1 1 (aHr y pq1).1) k D y) S sv N T)) as₀ s₀ 0 0 (rg G)) G 2 0 0 n h 18 [(0, .ref m), (1, .int pq1)] [.int (nI w9), .ref m] := by
    intro w9 hw9 hq
    refine V_callV 21 C dX10_hours_18 rfl mX10_refused tw985 fcX10 hm (c_X10_refused l G _ _ m rf (nI N) (nI k) sp ou hm w9 hw9) rfl rfl (by decide) ⟨by omega, by omega⟩ (Nat.le_of_ble_eq_true rfl) ?_
    rintro _ _ h1 ⟨rfl, rfl, eh1⟩
    have hm1 : h1 m = some (obM m (nI w9) (nI N) (nI k) sp ou) := by rw [eh1]; exact up_s _ _ _
    have hF1 : ∀ a, ¬ a = m → h1 a = h a := fun a ha => by rw [eh1]; exact up_n _ ha
    have hS1 : SysM m (nI w9) y k D S sv N T h1 := hS.ob hm1 hF1
    have hX1 : FM m h h1 := fun a ha => hF1 a (by omega)
    have hx1 : Row (m + 2) y h1 := (hF1 _ (by omega)).trans hx
    refine V_if_eqB 26 24 C dX10_hours_21 (by decide) rfl  (fun cq21 => ?_) (fun cq21 => ?_)
    · obtain ⟨rfl, hFF⟩ := hq.resolve_left (fun e => by omega)
      have f6 : ix pq1 61 := ⟨by omega, by omega⟩
      obtain ⟨j1, hj1, rfl⟩ := ix_of f6 (by omega)
      have z1 := zn (show j1 < 2 ^ 31 by omega)
      have hcb := coms_le hIy j1
      have e9 : aHr y (nI j1) = (nI (coms y j1), hrs y j1) := by unfold aHr; rw [if_pos hFF, z1]
      refine V_aload_n 27 C dX10_hours_26 rfl rfl ?_
      refine V_callV 30 C dX10_hours_27 rfl mX10_remember tw1196 fcX10 hm1 (c_X10_remember l G _ _ m (nI 0) (nI N) sp ou k hm1 D y gd hk14 hx1 ((hF1 _ (by omega)).trans hgd) hdia) rfl rfl (by decide) ⟨by omega, by omega⟩ (Nat.le_of_ble_eq_true rfl) ?_
      rintro _ _ h2 ⟨rfl, rfl, g7, eh2, hd7⟩
      have hm2 : h2 m = some (obM m (nI 0) (nI N) (nI (psC k)) sp ou) := by rw [eh2]; exact up_s _ _ _
      have hF2 : ∀ a, (¬ a = m ∧ ¬ a = m + 4) → h2 a = h1 a := fun a ha => by rw [eh2, up_n _ ha.1, up_n _ ha.2]
      have hS2 := hS1.rem (k' := psC k) (D' := psD k D y) hm2 (by rw [eh2, up_n _ (by omega)]; exact up_s _ _ _) hd7 (fun a ha => hF2 a (by omega))
      have hx2 : Row (m + 2) y h2 := (hF2 _ (by omega)).trans hx1
      refine V_aload_n 31 C dX10_hours_30 rfl rfl ?_
      refine V_get (k := 3) 34 C dX10_hours_31 rfl fcX10 tw939 (by decide) rfl hm2 rfl ?_
      refine V_iload_n 35 C dX10_hours_34 rfl rfl ?_
      refine V_callS 38 C dX10_hours_35 rfl mX10_hoursOn tw1141 (c_X10_hoursOn l G _ _ (m + 2) y hx2 hIy j1 (by omega)) rfl rfl (by decide) ⟨by omega, by omega⟩ (Nat.le_of_ble_eq_true rfl) ?_
      rintro _ _ h3 ⟨rfl, rfl, eh3⟩
      have hS3 := hS2.now (h' := h3) (y' := hrs y j1) (by rw [eh3]; exact HR_row _ _ _) (fun a ha => by rw [eh3]; exact HR_n ha)
      have hX3 : FM m h h3 := fun a ha => by rw [eh3, HR_n (by omega), hF2 a (by omega)]; exact hX1 a ha
      refine V_ireturn C dX10_hours_38 rfl rfl (by omega) (by omega) ?_
      exact (by rw [e9]; exact PoM_B (nIc (by omega)) (rfl) (rfl) hS3 hX3)
    · have hqn := (hq.resolve_right (fun e => by omega))
      refine V_iconst 25 C dX10_hours_24 rfl ic0 ?_
      refine V_ireturn C dX10_hours_25 rfl rfl (by omega) (by omega) ?_
      exact (PoM_A hqn.1 hqn.2 hS1 hX1)
  refine V_iload_n 2 C dX10_hours_1 rfl rfl ?_
  refine V_i2l 3 C dX10_hours_2 rfl  ?_
  refine V_lconst 4 C dX10_hours_3 rfl rfl ?_
  refine V_ldc2 7 C dX10_hours_4 rfl tw1250 ?_
  refine V_callS 10 C dX10_hours_7 rfl mX10_in tw982 (c_X10_in l G _ _ _ _ _) rfl rfl (by decide) ⟨by omega, by omega⟩ (Nat.le_of_ble_eq_true rfl) ?_
  rintro _ _ _ ⟨rfl, rfl, rfl⟩
  rw [inI (v := pq1) (lo := 1) (hi := 60) (by decide +kernel) (by decide +kernel)]
  refine V_if_eqB 17 13 C dX10_hours_10 (by decide) rfl  (fun cq10 => ?_) (fun cq10 => ?_)
  · have e9 : (aHr y pq1) = (cR, y) := by unfold aHr; rw [if_neg (fun e => cq10 ⟨by have := e.1; omega, by have := e.2; omega⟩)]
    refine V_iconst 18 C dX10_hours_17 rfl ic1 ?_
    refine V_L [0, 1] rfl ?_
    exact J18 1 (by omega) (Or.inl ⟨by decide, rA_2 e9⟩)
  · refine V_iconst 14 C dX10_hours_13 rfl ic0 ?_
    refine V_goto 18 C dX10_hours_14 (by decide) ?_
    refine V_L [0, 1] rfl ?_
    exact J18 0 (by omega) (Or.inr ⟨rfl, ⟨by have := cq10.1; omega, by have := cq10.2; omega⟩⟩)

theorem dX10_undo_0 : decode cX10_undo 0 = .ok (.aload_n 0, 1) := by decide +kernel
theorem dX10_undo_1 : decode cX10_undo 1 = .ok (.aload_n 0, 1) := by decide +kernel
theorem dX10_undo_2 : decode cX10_undo 2 = .ok (.getfield 230, 3) := by decide +kernel
theorem dX10_undo_5 : decode cX10_undo 5 = .ok (.ifCond .ne 7, 3) := by decide +kernel
theorem dX10_undo_8 : decode cX10_undo 8 = .ok (.iconst 1, 1) := by decide +kernel
theorem dX10_undo_9 : decode cX10_undo 9 = .ok (.goto 4, 3) := by decide +kernel
theorem dX10_undo_12 : decode cX10_undo 12 = .ok (.iconst 0, 1) := by decide +kernel
theorem dX10_undo_13 : decode cX10_undo 13 = .ok (.invokevirtual 124, 3) := by decide +kernel
theorem dX10_undo_16 : decode cX10_undo 16 = .ok (.ifCond .eq 5, 3) := by decide +kernel
theorem dX10_undo_19 : decode cX10_undo 19 = .ok (.iconst 0, 1) := by decide +kernel
theorem dX10_undo_20 : decode cX10_undo 20 = .ok (.ireturn, 1) := by decide +kernel
theorem dX10_undo_21 : decode cX10_undo 21 = .ok (.aload_n 0, 1) := by decide +kernel
theorem dX10_undo_22 : decode cX10_undo 22 = .ok (.dup, 1) := by decide +kernel
theorem dX10_undo_23 : decode cX10_undo 23 = .ok (.getfield 230, 3) := by decide +kernel
theorem dX10_undo_26 : decode cX10_undo 26 = .ok (.iconst 1, 1) := by decide +kernel
theorem dX10_undo_27 : decode cX10_undo 27 = .ok (.isub, 1) := by decide +kernel
theorem dX10_undo_28 : decode cX10_undo 28 = .ok (.putfield 230, 3) := by decide +kernel
theorem dX10_undo_31 : decode cX10_undo 31 = .ok (.aload_n 0, 1) := by decide +kernel
theorem dX10_undo_32 : decode cX10_undo 32 = .ok (.getfield 19, 3) := by decide +kernel
theorem dX10_undo_35 : decode cX10_undo 35 = .ok (.sipush 130, 3) := by decide +kernel
theorem dX10_undo_38 : decode cX10_undo 38 = .ok (.aload_n 0, 1) := by decide +kernel
theorem dX10_undo_39 : decode cX10_undo 39 = .ok (.getfield 230, 3) := by decide +kernel
theorem dX10_undo_42 : decode cX10_undo 42 = .ok (.imul, 1) := by decide +kernel
theorem dX10_undo_43 : decode cX10_undo 43 = .ok (.aload_n 0, 1) := by decide +kernel
theorem dX10_undo_44 : decode cX10_undo 44 = .ok (.getfield 13, 3) := by decide +kernel
theorem dX10_undo_47 : decode cX10_undo 47 = .ok (.iconst 0, 1) := by decide +kernel
theorem dX10_undo_48 : decode cX10_undo 48 = .ok (.invokestatic 226, 3) := by decide +kernel
theorem dX10_undo_51 : decode cX10_undo 51 = .ok (.aload_n 0, 1) := by decide +kernel
theorem dX10_undo_52 : decode cX10_undo 52 = .ok (.getfield 230, 3) := by decide +kernel
theorem dX10_undo_55 : decode cX10_undo 55 = .ok (.ireturn, 1) := by decide +kernel
set_option maxRecDepth 100000 in
set_option maxHeartbeats 4000000 in
theorem c_X10_undo (l : Launch) (G : GT) (n : Nat) (h : AH) (m : Nat) (rf : Int32) (y : Nat → Nat) (k : Nat) (D S : Nat → Nat → Nat) (sv : Nat → Bool) (N : Nat) (T : Nat → Nat) (hS : SysM m rf y k D S sv N T h) (hI : SI y k D S sv N T) : Ct l yX10_undo cX10_undo 1 (some .int) 8 0 0 G n h [.ref m] (PoM m n h (if k = 0 then 1 else 0) (nI (k - 1)) (if k = 0 then y else D (k - 1)) (k - 1) D S sv N T) := by
  have NE := NO_eq
  obtain ⟨⟨sp, ou, g1, hmx⟩, hx, ⟨yt, hxt⟩, ⟨gd, hgd, hdia⟩, ⟨gk, hgk, hkp⟩, ⟨gi, hgi, hik⟩, ⟨gf, hgf⟩⟩ := id hS
  obtain ⟨hNn, hm, hg1, hch⟩ := id hmx
  obtain ⟨hIy, hk14, hID, hIS, hN, hT⟩ := id hI
  obtain ⟨⟨i0, i1, i2, i3, i4⟩, iR, iU, iM, iS⟩ := id hIy
  refine Ct_of mX10_undo.1 (Nat.le_of_ble_eq_true rfl) ?_
  intro p₀ e₀ s₀ m₀ as₀ bl₀ me₀ c₀ C hin
  refine V_Le (L' := [(0, .ref m)]) rfl ?_
  refine V_aload_n 1 C dX10_undo_0 rfl rfl ?_
  refine V_aload_n 2 C dX10_undo_1 rfl rfl ?_
  have J13 : ∀ (w9 : Nat) (hw9 : w9 ≤ 3) (hq : (w9 = 1 ∧ k = 0) ∨ (w9 = 0 ∧ ¬ k = 0)), V p₀ l e₀ (rmD 8 0 0) s₀ m₀ as₀ bl₀ me₀ c₀ (MQ bl₀ (Po G (PoM m n h (if k = 0 then 1 else 0) (nI (k - 1)) (if k = 0 then y else D (k - 1)) (k - 1) D S sv N T)) as₀ s₀ 0 0 (rg G)) G 1 0 0 n h 13 [(0, .ref m)] [.int (nI w9), .ref m] := by
    intro w9 hw9 hq
    refine V_callV 16 C dX10_undo_13 rfl mX10_refused tw985 fcX10 hm (c_X10_refused l G _ _ m rf (nI N) (nI k) sp ou hm w9 hw9) rfl rfl (by decide) ⟨by omega, by omega⟩ (Nat.le_of_ble_eq_true rfl) ?_
    rintro _ _ h1 ⟨rfl, rfl, eh1⟩
    have hm1 : h1 m = some (obM m (nI w9) (nI N) (nI k) sp ou) := by rw [eh1]; exact up_s _ _ _
    have hF1 : ∀ a, ¬ a = m → h1 a = h a := fun a ha => by rw [eh1]; exact up_n _ ha
    have hS1 : SysM m (nI w9) y k D S sv N T h1 := hS.ob hm1 hF1
    have hX1 : FM m h h1 := fun a ha => hF1 a (by omega)
    have hx1 : Row (m + 2) y h1 := (hF1 _ (by omega)).trans hx
    refine V_if_eqB 21 19 C dX10_undo_16 (by decide) rfl  (fun cq16 => ?_) (fun cq16 => ?_)
    · have hk0 : ¬ k = 0 := (hq.resolve_left (fun e => by omega)).2
      obtain rfl := (hq.resolve_left (fun e => by omega)).1
      refine V_aload_n 22 C dX10_undo_21 rfl rfl ?_
      refine V_dup 23 C dX10_undo_22 rfl rfl ?_
      refine V_get (k := 6) 26 C dX10_undo_23 rfl fcX10 tw942 (by decide) rfl hm1 rfl ?_
      refine V_iconst 27 C dX10_undo_26 rfl ic1 ?_
      refine V_isubN 28 C dX10_undo_27 rfl (by omega) ?_
      refine V_put (fs' := [_, _, _, _, _, _, _, _, _, _, _, _]) (k := 6) 31 C dX10_undo_28 rfl fcX10 tw942 (by decide) rfl rfl hm1 rfl rfl (Nat.le_of_ble_eq_true rfl) rfl ?_
      have hS2 := hS1.act (h' := up h1 m (obM m (nI 0) (nI N) (nI (k - 1)) sp ou)) (k' := k - 1) (up_s _ _ _) (by omega) (fun a ha => up_n _ ha)
      have hx2 : Row (m + 2) y (up h1 m (obM m (nI 0) (nI N) (nI (k - 1)) sp ou)) := (up_n _ (by omega)).trans hx1
      have hgd2 : (up h1 m (obM m (nI 0) (nI N) (nI (k - 1)) sp ou)) (m + 4) = _ := (up_n _ (by omega)).trans ((hF1 _ (by omega)).trans hgd)
      refine V_aload_n 32 C dX10_undo_31 rfl rfl ?_
      refine V_get (k := 5) 35 C dX10_undo_32 rfl fcX10 tw941 (by decide) rfl (up_s _ _ _) rfl ?_
      refine V_sipush 38 C dX10_undo_35 rfl sip130 ?_
      refine V_aload_n 39 C dX10_undo_38 rfl rfl ?_
      refine V_get (k := 6) 42 C dX10_undo_39 rfl fcX10 tw942 (by decide) rfl (up_s _ _ _) rfl ?_
      refine V_imulN 43 C dX10_undo_42 rfl  ?_
      refine V_aload_n 44 C dX10_undo_43 rfl rfl ?_
      refine V_get (k := 3) 47 C dX10_undo_44 rfl fcX10 tw939 (by decide) rfl (up_s _ _ _) rfl ?_
      refine V_iconst 48 C dX10_undo_47 rfl ic0 ?_
      refine V_callS 51 C dX10_undo_48 rfl mX10_copyState tw1154 (c_X10_copyState l G _ _ (m + 4) (m + 2) (130 * (k - 1)) 0 1820 130 gd (fun j => nI (y j)) (fun j => nI (D (k - 1) j)) hgd2 hx2 (by omega) (by omega) (by omega) (by omega) (by omega) (fun t ht => by rw [Nat.zero_add]; exact (hdia (k - 1) (by omega) t ht).symm) (fun t ht hc => by omega)) rfl rfl (by decide) ⟨by omega, by omega⟩ (Nat.le_of_ble_eq_true rfl) ?_
      rintro _ _ h3 ⟨rfl, rfl, eh3⟩
      have hm3 : h3 m = some (obM m (nI 0) (nI N) (nI (k - 1)) sp ou) := by rw [eh3, up_n _ (by omega)]; exact up_s _ _ _
      have hS3 := hS2.now (h' := h3) (y' := D (k - 1)) (by rw [eh3]; exact up_s _ _ _) (fun a ha => by rw [eh3]; exact up_n _ ha)
      have hX3 : FM m h h3 := fun a ha => by rw [eh3, up_n _ (by omega), up_n _ (by omega)]; exact hX1 a ha
      refine V_aload_n 52 C dX10_undo_51 rfl rfl ?_
      refine V_get (k := 6) 55 C dX10_undo_52 rfl fcX10 tw942 (by decide) rfl hm3 rfl ?_
      refine V_ireturn C dX10_undo_55 rfl rfl (by omega) (by omega) ?_
      exact (PoM_0 (if_neg hk0) rfl rfl (by rw [if_neg hk0]; exact hS3) hX3)
    · obtain ⟨rfl, hk0⟩ := hq.resolve_right (fun e => by omega)
      refine V_iconst 20 C dX10_undo_19 rfl ic0 ?_
      refine V_ireturn C dX10_undo_20 rfl rfl (by omega) (by omega) ?_
      exact (PoM_k 1 (if_pos hk0) (by decide) rfl (by rw [if_pos hk0, show k - 1 = k from by omega]; exact hS1) hX1)
  refine V_get (k := 6) 5 C dX10_undo_2 rfl fcX10 tw942 (by decide) rfl hm rfl ?_
  refine V_if_neN 12 8 C dX10_undo_5 (by decide) rfl (by omega) (fun c5 => ?_) (fun c5 => ?_)
  · refine V_iconst 13 C dX10_undo_12 rfl ic0 ?_
    refine V_L [0] rfl ?_
    exact J13 0 (by omega) (Or.inr ⟨rfl, by omega⟩)
  · refine V_iconst 9 C dX10_undo_8 rfl ic1 ?_
    refine V_goto 13 C dX10_undo_9 (by decide) ?_
    refine V_L [0] rfl ?_
    exact J13 1 (by omega) (Or.inl ⟨rfl, by omega⟩)

