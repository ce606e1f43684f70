/-! THE TEXT: the reference's commands -/
theorem ch3 {T : Nat → Nat} {N p l1 h1 w1 l2 h2 w2 l3 h3 w3 : Nat} {r1 r2 r3 : Option Nat × Nat} (e1 : r1 = fg T N l1 h1 w1 0 p) (e2 : r2 = fg T N l2 h2 w2 (ona r1.1) r1.2) (e3 : r3 = fg T N l3 h3 w3 (ona r2.1) r2.2) (k1 : 1 ≤ w1) (k2 : 1 ≤ w2) (k3 : 1 ≤ w3) (b1 : h1 < NO) (b2 : h2 < NO) :
    (ona r3.1 = NO ∧ bd (rn T N l1 h1 w1 0 p) (fun a q => bd (rn T N l2 h2 w2 0 q) fun b q => bd (rn T N l3 h3 w3 0 q) fun c q => (some (a, b, c), q)) = (none, r3.2)) ∨ ∃ a b c, ((l1 ≤ a ∧ a ≤ h1) ∧ (l2 ≤ b ∧ b ≤ h2) ∧ (l3 ≤ c ∧ c ≤ h3)) ∧ (ona r1.1 = a ∧ ona r2.1 = b ∧ ona r3.1 = c) ∧ bd (rn T N l1 h1 w1 0 p) (fun a q => bd (rn T N l2 h2 w2 0 q) fun b q => bd (rn T N l3 h3 w3 0 q) fun c q => (some (a, b, c), q)) = (some (a, b, c), r3.2) := by
  subst e1
  rcases ch1 (T := T) (N := N) (p := p) k1 b1 (lo1 := l1) with ⟨g1, g2⟩ | ⟨a, ga, g1, -, g2⟩
  · rw [g1, fg_NO] at e2
    subst e2
    have e3' : r3 = (none, (fg T N l1 h1 w1 0 p).2) := e3.trans fg_NO
    subst e3'
    exact Or.inl ⟨rfl, g2⟩
  · rw [g1] at e2
    subst e2
    rcases ch2 (T := T) (N := N) (a := a) (p := (fg T N l1 h1 w1 0 p).2) k2 (by omega) (lo1 := l2) (hi1 := h2) with ⟨g3, g4⟩ | ⟨b, gb, g3, g4⟩
    · rw [g3, fg_NO] at e3
      subst e3
      exact Or.inl ⟨rfl, g2.trans g4⟩
    · rw [g3] at e3
      subst e3
      rcases ch2 (T := T) (N := N) (a := b) (p := (fg T N l2 h2 w2 a (fg T N l1 h1 w1 0 p).2).2) k3 (by omega) (lo1 := l3) (hi1 := h3) with ⟨g5, g6⟩ | ⟨c, gc, g5, g6⟩
      · exact Or.inl ⟨g5, g2.trans (g4.trans g6)⟩
      · exact Or.inr ⟨a, b, c, ⟨ga, gb, gc⟩, ⟨g1, g3, g5⟩, g2.trans (g4.trans g6)⟩
theorem ch2' {T : Nat → Nat} {N p l1 h1 w1 l2 h2 w2 : Nat} {r1 r2 : Option Nat × Nat} (e1 : r1 = fg T N l1 h1 w1 0 p) (e2 : r2 = fg T N l2 h2 w2 (ona r1.1) r1.2) (k1 : 1 ≤ w1) (k2 : 1 ≤ w2) (b1 : h1 < NO) :
    (ona r2.1 = NO ∧ bd (rn T N l1 h1 w1 0 p) (fun a q => bd (rn T N l2 h2 w2 0 q) fun b q => (some (a, b, 0), q)) = (none, r2.2)) ∨ ∃ a b, ((l1 ≤ a ∧ a ≤ h1) ∧ (l2 ≤ b ∧ b ≤ h2)) ∧ (ona r1.1 = a ∧ ona r2.1 = b) ∧ bd (rn T N l1 h1 w1 0 p) (fun a q => bd (rn T N l2 h2 w2 0 q) fun b q => (some (a, b, 0), q)) = (some (a, b, 0), r2.2) := by
  subst e1
  rcases ch1 (T := T) (N := N) (p := p) k1 b1 (lo1 := l1) with ⟨g1, g2⟩ | ⟨a, ga, g1, -, g2⟩
  · rw [g1, fg_NO] at e2
    subst e2
    exact Or.inl ⟨rfl, g2⟩
  · rw [g1] at e2
    subst e2
    rcases ch2 (T := T) (N := N) (a := a) (p := (fg T N l1 h1 w1 0 p).2) k2 (by omega) (lo1 := l2) (hi1 := h2) with ⟨g3, g4⟩ | ⟨b, gb, g3, g4⟩
    · exact Or.inl ⟨g3, g2.trans g4⟩
    · exact Or.inr ⟨a, b, ⟨ga, gb⟩, ⟨g1, g3⟩, g2.trans g4⟩
theorem ch1' {T : Nat → Nat} {N p l1 h1 w1 : Nat} {r1 : Option Nat × Nat} (e1 : r1 = fg T N l1 h1 w1 0 p) (k1 : 1 ≤ w1) (b1 : h1 < NO) :
    (ona r1.1 = NO ∧ bd (rn T N l1 h1 w1 0 p) (fun a q => (some (a, 0, 0), q)) = (none, r1.2)) ∨ ∃ a, (l1 ≤ a ∧ a ≤ h1) ∧ ona r1.1 = a ∧ bd (rn T N l1 h1 w1 0 p) (fun a q => (some (a, 0, 0), q)) = (some (a, 0, 0), r1.2) := by
  subst e1
  rcases ch1 (T := T) (N := N) (p := p) k1 b1 (lo1 := l1) with ⟨g1, g2⟩ | ⟨a, ga, g1, -, g2⟩
  · exact Or.inl ⟨g1, g2⟩
  · exact Or.inr ⟨a, ga, g1, g2⟩
theorem nIne {a b : Nat} (ha : a < 2 ^ 32) (hb : b < 2 ^ 32) (h : ¬ a = b) : ¬ nI a = nI b := fun e => h (by rw [nI32 ha hb] at e; exact e)
theorem okC_n {v : Nat} {y : Nat → Nat} (h : v < 2 ^ 31) (h0 : ¬ v = 0) : okC (nI v, y) = false := okC_f (show ¬ nI v = 0 from by rw [← nI_0]; exact nIne (by omega) (by omega) h0)
theorem okC_0 {y : Nat → Nat} : okC (nI 0, y) = true := okC_t rfl
theorem okC_N {y : Nat → Nat} : okC (cN, y) = false := okC_f (show ¬ cN = 0 from by decide +kernel)
theorem okC_R {y : Nat → Nat} : okC (cR, y) = false := okC_f (show ¬ cR = 0 from by decide +kernel)
theorem cark_n {y : Nat → Nat} {r s v : Nat} : ∀ {k : Nat}, k ≤ s → cark (ys y (58 + 6 * s + 4) v) r k = cark y r k
  | 0, _ => rfl
  | k + 1, h => by
    simp only [cark]
    rw [cark_n (by omega), ys_n _ (by omega)]
theorem cark_tk {y : Nat → Nat} {r s : Nat} (h : ¬ y (58 + 6 * s + 4) = r) : ∀ {k : Nat}, s < k → cark (tkOn y r s) r k = cark y r k + 1
  | k + 1, hk => by
    simp only [cark]
    by_cases e : s = k
    · subst e
      rw [show cark (tkOn y r s) r s = cark y r s from cark_n (Nat.le_refl _), show tkOn y r s (58 + 6 * s + 4) = r from ys_s _ _ _, bp_t rfl, bp_f h]
    · rw [cark_tk h (by omega), show tkOn y r s (58 + 6 * k + 4) = y (58 + 6 * k + 4) from ys_n _ (by omega)]
      omega
theorem car_tk {y : Nat → Nat} {r s : Nat} (hs : s < y 4) (h : ¬ y (58 + 6 * s + 4) = r) : car (tkOn y r s) r = car y r + 1 := by
  unfold car
  rw [show tkOn y r s 4 = y 4 from ys_n _ (by omega)]
  exact cark_tk h hs
theorem dX10_readRoad_0 : decode cX10_readRoad 0 = .ok (.aload_n 0, 1) := by decide +kernel
theorem dX10_readRoad_1 : decode cX10_readRoad 1 = .ok (.iconst 0, 1) := by decide +kernel
theorem dX10_readRoad_2 : decode cX10_readRoad 2 = .ok (.invokevirtual 138, 3) := by decide +kernel
theorem dX10_readRoad_5 : decode cX10_readRoad 5 = .ok (.istore_n 2, 1) := by decide +kernel
theorem dX10_readRoad_6 : decode cX10_readRoad 6 = .ok (.aload_n 0, 1) := by decide +kernel
theorem dX10_readRoad_7 : decode cX10_readRoad 7 = .ok (.iload_n 2, 1) := by decide +kernel
theorem dX10_readRoad_8 : decode cX10_readRoad 8 = .ok (.invokevirtual 138, 3) := by decide +kernel
theorem dX10_readRoad_11 : decode cX10_readRoad 11 = .ok (.istore_n 3, 1) := by decide +kernel
theorem dX10_readRoad_12 : decode cX10_readRoad 12 = .ok (.aload_n 0, 1) := by decide +kernel
theorem dX10_readRoad_13 : decode cX10_readRoad 13 = .ok (.iload_n 3, 1) := by decide +kernel
theorem dX10_readRoad_14 : decode cX10_readRoad 14 = .ok (.bipush 10, 2) := by decide +kernel
theorem dX10_readRoad_16 : decode cX10_readRoad 16 = .ok (.iconst 1, 1) := by decide +kernel
theorem dX10_readRoad_17 : decode cX10_readRoad 17 = .ok (.bipush 20, 2) := by decide +kernel
theorem dX10_readRoad_19 : decode cX10_readRoad 19 = .ok (.invokevirtual 134, 3) := by decide +kernel
theorem dX10_readRoad_22 : decode cX10_readRoad 22 = .ok (.istore 4, 2) := by decide +kernel
theorem dX10_readRoad_24 : decode cX10_readRoad 24 = .ok (.iload 4, 2) := by decide +kernel
theorem dX10_readRoad_26 : decode cX10_readRoad 26 = .ok (.iconst (-1), 1) := by decide +kernel
theorem dX10_readRoad_27 : decode cX10_readRoad 27 = .ok (.if_icmp .eq 52, 3) := by decide +kernel
theorem dX10_readRoad_30 : decode cX10_readRoad 30 = .ok (.aload_n 0, 1) := by decide +kernel
theorem dX10_readRoad_31 : decode cX10_readRoad 31 = .ok (.aload_n 1, 1) := by decide +kernel
theorem dX10_readRoad_32 : decode cX10_readRoad 32 = .ok (.iload_n 2, 1) := by decide +kernel
theorem dX10_readRoad_33 : decode cX10_readRoad 33 = .ok (.iload_n 3, 1) := by decide +kernel
theorem dX10_readRoad_34 : decode cX10_readRoad 34 = .ok (.invokestatic 141, 3) := by decide +kernel
theorem dX10_readRoad_37 : decode cX10_readRoad 37 = .ok (.ifCond .eq 31, 3) := by decide +kernel
theorem dX10_readRoad_40 : decode cX10_readRoad 40 = .ok (.iload_n 2, 1) := by decide +kernel
theorem dX10_readRoad_41 : decode cX10_readRoad 41 = .ok (.iload_n 3, 1) := by decide +kernel
theorem dX10_readRoad_42 : decode cX10_readRoad 42 = .ok (.if_icmp .eq 26, 3) := by decide +kernel
theorem dX10_readRoad_45 : decode cX10_readRoad 45 = .ok (.aload_n 1, 1) := by decide +kernel
theorem dX10_readRoad_46 : decode cX10_readRoad 46 = .ok (.iconst 1, 1) := by decide +kernel
theorem dX10_readRoad_47 : decode cX10_readRoad 47 = .ok (.iaload, 1) := by decide +kernel
theorem dX10_readRoad_48 : decode cX10_readRoad 48 = .ok (.bipush 10, 2) := by decide +kernel
theorem dX10_readRoad_50 : decode cX10_readRoad 50 = .ok (.if_icmp .ge 18, 3) := by decide +kernel
theorem dX10_readRoad_53 : decode cX10_readRoad 53 = .ok (.aload_n 1, 1) := by decide +kernel
theorem dX10_readRoad_54 : decode cX10_readRoad 54 = .ok (.iload_n 2, 1) := by decide +kernel
theorem dX10_readRoad_55 : decode cX10_readRoad 55 = .ok (.iload_n 3, 1) := by decide +kernel
theorem dX10_readRoad_56 : decode cX10_readRoad 56 = .ok (.iload 4, 2) := by decide +kernel
theorem dX10_readRoad_58 : decode cX10_readRoad 58 = .ok (.invokestatic 144, 3) := by decide +kernel
theorem dX10_readRoad_61 : decode cX10_readRoad 61 = .ok (.ifCond .lt 7, 3) := by decide +kernel
theorem dX10_readRoad_64 : decode cX10_readRoad 64 = .ok (.iconst 1, 1) := by decide +kernel
theorem dX10_readRoad_65 : decode cX10_readRoad 65 = .ok (.goto 4, 3) := by decide +kernel
theorem dX10_readRoad_68 : decode cX10_readRoad 68 = .ok (.iconst 0, 1) := by decide +kernel
theorem dX10_readRoad_69 : decode cX10_readRoad 69 = .ok (.invokevirtual 147, 3) := by decide +kernel
theorem dX10_readRoad_72 : decode cX10_readRoad 72 = .ok (.ifCond .eq 7, 3) := by decide +kernel
theorem dX10_readRoad_75 : decode cX10_readRoad 75 = .ok (.iconst 1, 1) := by decide +kernel
theorem dX10_readRoad_76 : decode cX10_readRoad 76 = .ok (.goto 4, 3) := by decide +kernel
theorem dX10_readRoad_79 : decode cX10_readRoad 79 = .ok (.iconst 0, 1) := by decide +kernel
theorem dX10_readRoad_80 : decode cX10_readRoad 80 = .ok (.ireturn, 1) := by decide +kernel
set_option maxRecDepth 100000 in
set_option maxHeartbeats 4000000 in
theorem c_X10_readRoad (l : Launch) (G : GT) (n : Nat) (h : AH) (m N p0 o : Nat) (rf sc : Int32) (T : Nat → Nat) (g : Nat → Int32) (hT : mx m N (p0 + 1) o rf sc T g h) (a : Nat) (y : Nat → Nat) (hx : Row a y h) (hI : Iv y) (hne : ¬ a = m) (hne1 : ¬ a = m + 1) (hL : T p0 = 114) : Ct l yX10_readRoad cX10_readRoad 5 (some .boolean) 4 0 0 G n h [.ref m, .ref a] (rdP m a N p0 o n rf sc T y h) := by
  obtain ⟨⟨hN, hpN⟩, hm, hg, hch⟩ := id hT
  have NE := NO_eq
  obtain ⟨⟨i0, i1, i2, i3, i4⟩, iR, iU, iM, iS⟩ := id hI
  refine Ct_of mX10_readRoad.1 (Nat.le_of_ble_eq_true rfl) ?_
  intro p₀ e₀ s₀ m₀ as₀ bl₀ me₀ c₀ C hin
  refine V_Le (L' := [(0, .ref m), (1, .ref a)]) rfl ?_
  refine V_aload_n 1 C dX10_readRoad_0 rfl rfl ?_
  refine V_iconst 2 C dX10_readRoad_1 rfl ic0 ?_
  refine V_callV 5 C dX10_readRoad_2 rfl mX10_townSign tw1016 fcX10 hT.2.1 (c_X10_townSign l G _ _ m N (p0 + 1) o rf sc T g hT 0 (Or.inr (by decide))) rfl rfl (by decide) ⟨by omega, by omega⟩ (Nat.le_of_ble_eq_true rfl) ?_
  rintro _ _ _ ⟨rfl, rfl, rfl⟩
  obtain ⟨r1, er1⟩ : ∃ r, r = fg T N 0 5 1 0 (p0 + 1) := ⟨_, rfl⟩
  rw [← er1]
  have hq1 : r1.2 ≤ N := by rw [er1]; exact (fg_q (by omega)).2
  have ho1 : ona r1.1 = NO ∨ ona r1.1 < 2 ^ 31 := by rw [er1]; exact fg_o (by omega) (by omega)
  have hT1 : mx m N r1.2 o rf sc T g (mH h m rf N sc r1.2 o) := mH_mx hT hq1
  have hx1 : Row a y (mH h m rf N sc r1.2 o) := mH_row hx hne
  refine V_istore_n 6 C dX10_readRoad_5 rfl (by decide) (L' := [(0, _), (1, _), (2, _)]) rfl ?_
  refine V_aload_n 7 C dX10_readRoad_6 rfl rfl ?_
  refine V_iload_n 8 C dX10_readRoad_7 rfl rfl ?_
  refine V_callV 11 C dX10_readRoad_8 rfl mX10_townSign tw1016 fcX10 hT1.2.1 (c_X10_townSign l G _ _ m N r1.2 o rf sc T g hT1 (ona r1.1) ho1) rfl rfl (by decide) ⟨by omega, by omega⟩ (Nat.le_of_ble_eq_true rfl) ?_
  rintro _ _ _ ⟨rfl, rfl, rfl⟩
  rw [mH_mH]
  obtain ⟨r2, er2⟩ : ∃ r, r = fg T N 0 5 1 (ona r1.1) r1.2 := ⟨_, rfl⟩
  rw [← er2]
  have hq2 : r2.2 ≤ N := by rw [er2]; exact (fg_q (by omega)).2
  have ho2 : ona r2.1 = NO ∨ ona r2.1 < 2 ^ 31 := by rw [er2]; exact fg_o (by omega) (by omega)
  have hT2 : mx m N r2.2 o rf sc T g (mH h m rf N sc r2.2 o) := mH_mx hT hq2
  have hx2 : Row a y (mH h m rf N sc r2.2 o) := mH_row hx hne
  refine V_istore_n 12 C dX10_readRoad_11 rfl (by decide) (L' := [(0, _), (1, _), (2, _), (3, _)]) rfl ?_
  refine V_aload_n 13 C dX10_readRoad_12 rfl rfl ?_
  refine V_iload_n 14 C dX10_readRoad_13 rfl rfl ?_
  refine V_bipush 16 C dX10_readRoad_14 rfl bip10 ?_
  refine V_iconst 17 C dX10_readRoad_16 rfl ic1 ?_
  refine V_bipush 19 C dX10_readRoad_17 rfl bip20 ?_
  refine V_callV 22 C dX10_readRoad_19 rfl mX10_figures tw1020 fcX10 hT2.2.1 (c_X10_figures l G _ _ m N r2.2 o rf sc T g hT2 (ona r2.1) 2 1 20 ho2 (by omega) (by omega) (by omega) (by omega)) rfl rfl (by decide) ⟨by omega, by omega⟩ (Nat.le_of_ble_eq_true rfl) ?_
  rintro _ _ _ ⟨rfl, rfl, rfl⟩
  rw [mH_mH]
  obtain ⟨r3, er3⟩ : ∃ r, r = fg T N 1 20 2 (ona r2.1) r2.2 := ⟨_, rfl⟩
  rw [← er3]
  have hq3 : r3.2 ≤ N := by rw [er3]; exact (fg_q (by omega)).2
  have ho3 : ona r3.1 = NO ∨ ona r3.1 < 2 ^ 31 := by rw [er3]; exact fg_o (by omega) (by omega)
  have hT3 : mx m N r3.2 o rf sc T g (mH h m rf N sc r3.2 o) := mH_mx hT hq3
  have hx3 : Row a y (mH h m rf N sc r3.2 o) := mH_row hx hne
  refine V_istore 24 C dX10_readRoad_22 rfl (by decide) (L' := [(0, _), (1, _), (2, _), (3, _), (4, _)]) rfl ?_
  refine V_iload 26 C dX10_readRoad_24 rfl rfl ?_
  refine V_iconst 27 C dX10_readRoad_26 rfl icm1 ?_
  refine V_icmp_eqN 79 30 C dX10_readRoad_27 (by decide) rfl (by omega) (by omega) (fun c27 => ?_) (fun c27 => ?_)
  · have hR : rcm T N p0 = (none, r3.2) := by
      rw [rcm_r hL]
      rcases ch3 er1 er2 er3 (by omega) (by omega) (by omega) (by omega) (by omega) with ⟨-, g2⟩ | ⟨a1, b1, c1, gb, ⟨-, -, g1⟩, -⟩
      · exact g2
      · exfalso; omega
    refine V_iconst 80 C dX10_readRoad_79 rfl ic0 ?_
    refine V_ireturn C dX10_readRoad_80 rfl (by decide) (by omega) (by omega) ?_
    first | exact rdP_n hR | exact rdP_f hx hne hR hg | exact rdP_t hR hg
  · obtain ⟨a1, b1, c1, ⟨ba, bb, bc⟩, ⟨ga, gb, gc⟩, hR⟩ : ∃ a b c, ((0 ≤ a ∧ a ≤ 5) ∧ (0 ≤ b ∧ b ≤ 5) ∧ (1 ≤ c ∧ c ≤ 20)) ∧ (ona r1.1 = a ∧ ona r2.1 = b ∧ ona r3.1 = c) ∧ rcm T N p0 = (some (a, b, c), r3.2) := by
      rw [rcm_r hL]
      rcases ch3 er1 er2 er3 (by omega) (by omega) (by omega) (by omega) (by omega) with ⟨g1, -⟩ | g
      · exact absurd g1 c27
      · exact g
    rw [ga, gb, gc]
    have za := zn (show a1 < 2 ^ 31 by omega)
    have zb := zn (show b1 < 2 ^ 31 by omega)
    have zc := zn (show c1 < 2 ^ 31 by omega)
    have tc := nI_toInt (show c1 < 2 ^ 31 by omega)
    refine V_aload_n 31 C dX10_readRoad_30 rfl rfl ?_
    refine V_aload_n 32 C dX10_readRoad_31 rfl rfl ?_
    refine V_iload_n 33 C dX10_readRoad_32 rfl rfl ?_
    refine V_iload_n 34 C dX10_readRoad_33 rfl rfl ?_
    refine V_callS 37 C dX10_readRoad_34 rfl mX10_areEnds tw1025 (c_X10_areEnds l G _ _ a y hx3 hI (nI a1) (nI b1)) rfl rfl (by decide) ⟨by omega, by omega⟩ (Nat.le_of_ble_eq_true rfl) ?_
    rintro _ _ _ ⟨rfl, rfl, rfl⟩
    refine V_if_eqB 68 40 C dX10_readRoad_37 (by decide) rfl  (fun c37 => ?_) (fun c37 => ?_)
    · have hg : gv (T p0) a1 b1 c1 y = (false, y) := by rw [gv_r hL]; unfold aRd; rw [if_neg c37, okN]
      have hTd := hT3
      refine V_iconst 69 C dX10_readRoad_68 rfl ic0 ?_
      refine V_callV 72 C dX10_readRoad_69 rfl mX10_done tw1008 fcX10 hTd.2.1 (c_X10_done l G _ _ m N _ o rf sc T g hTd _ (by omega)) rfl rfl (by decide) ⟨by omega, by omega⟩ (Nat.le_of_ble_eq_true rfl) ?_
      rintro _ _ _ ⟨rfl, rfl, rfl⟩
      first | rw [mH_mH] | rw [mH_HR hne]
      refine V_if_eqN 79 75 C dX10_readRoad_72 (by decide) rfl (by omega) (fun c72 => ?_) (fun c72 => ?_)
      · exact absurd c72 (by decide)
      · refine V_iconst 76 C dX10_readRoad_75 rfl ic1 ?_
        refine V_goto 80 C dX10_readRoad_76 (by decide) ?_
        refine V_ireturn C dX10_readRoad_80 rfl (by decide) (by omega) (by omega) ?_
        first | exact rdP_n hR | exact rdP_f hx hne hR hg | exact rdP_t hR hg
    · refine V_iload_n 41 C dX10_readRoad_40 rfl rfl ?_
      refine V_iload_n 42 C dX10_readRoad_41 rfl rfl ?_
      refine V_icmp_eqN 68 45 C dX10_readRoad_42 (by decide) rfl (by omega) (by omega) (fun c42 => ?_) (fun c42 => ?_)
      · have hg : gv (T p0) a1 b1 c1 y = (false, y) := by rw [gv_r hL]; unfold aRd; rw [if_pos c37, if_pos (Or.inl (by rw [c42])), okR]
        have hTd := hT3
        refine V_iconst 69 C dX10_readRoad_68 rfl ic0 ?_
        refine V_callV 72 C dX10_readRoad_69 rfl mX10_done tw1008 fcX10 hTd.2.1 (c_X10_done l G _ _ m N _ o rf sc T g hTd _ (by omega)) rfl rfl (by decide) ⟨by omega, by omega⟩ (Nat.le_of_ble_eq_true rfl) ?_
        rintro _ _ _ ⟨rfl, rfl, rfl⟩
        first | rw [mH_mH] | rw [mH_HR hne]
        refine V_if_eqN 79 75 C dX10_readRoad_72 (by decide) rfl (by omega) (fun c72 => ?_) (fun c72 => ?_)
        · exact absurd c72 (by decide)
        · refine V_iconst 76 C dX10_readRoad_75 rfl ic1 ?_
          refine V_goto 80 C dX10_readRoad_76 (by decide) ?_
          refine V_ireturn C dX10_readRoad_80 rfl (by decide) (by omega) (by omega) ?_
          first | exact rdP_n hR | exact rdP_f hx hne hR hg | exact rdP_t hR hg
      · have hnn : ¬ (nI a1 = nI b1 ∨ ¬ (1 ≤ (nI c1).toInt ∧ (nI c1).toInt ≤ 20)) := fun e => e.elim (nIne (by omega) (by omega) c42) (fun e2 => e2 (by rw [tc]; omega))
        refine V_aload_n 46 C dX10_readRoad_45 rfl rfl ?_
        refine V_iconst 47 C dX10_readRoad_46 rfl ic1 ?_
        refine V_iald (j := 1) 48 C dX10_readRoad_47 rfl hx3 rfl (by omega) (by omega) ?_
        refine V_bipush 50 C dX10_readRoad_48 rfl bip10 ?_
        refine V_icmp_geN 68 53 C dX10_readRoad_50 (by decide) rfl (by omega) (by omega) (fun c50 => ?_) (fun c50 => ?_)
        · have hg : gv (T p0) a1 b1 c1 y = (false, y) := by rw [gv_r hL]; unfold aRd; rw [if_pos c37, if_neg hnn, if_neg (by omega), okW]
          have hTd := hT3
          refine V_iconst 69 C dX10_readRoad_68 rfl ic0 ?_
          refine V_callV 72 C dX10_readRoad_69 rfl mX10_done tw1008 fcX10 hTd.2.1 (c_X10_done l G _ _ m N _ o rf sc T g hTd _ (by omega)) rfl rfl (by decide) ⟨by omega, by omega⟩ (Nat.le_of_ble_eq_true rfl) ?_
          rintro _ _ _ ⟨rfl, rfl, rfl⟩
          first | rw [mH_mH] | rw [mH_HR hne]
          refine V_if_eqN 79 75 C dX10_readRoad_72 (by decide) rfl (by omega) (fun c72 => ?_) (fun c72 => ?_)
          · exact absurd c72 (by decide)
          · refine V_iconst 76 C dX10_readRoad_75 rfl ic1 ?_
            refine V_goto 80 C dX10_readRoad_76 (by decide) ?_
            refine V_ireturn C dX10_readRoad_80 rfl (by decide) (by omega) (by omega) ?_
            first | exact rdP_n hR | exact rdP_f hx hne hR hg | exact rdP_t hR hg
        · refine V_aload_n 54 C dX10_readRoad_53 rfl rfl ?_
          refine V_iload_n 55 C dX10_readRoad_54 rfl rfl ?_
          refine V_iload_n 56 C dX10_readRoad_55 rfl rfl ?_
          refine V_iload 58 C dX10_readRoad_56 rfl rfl ?_
          refine V_callS 61 C dX10_readRoad_58 rfl mX10_roadOn tw1031 (c_X10_roadOn l G _ _ a y hx3 (by omega) a1 b1 c1) rfl rfl (by decide) ⟨by omega, by omega⟩ (Nat.le_of_ble_eq_true rfl) ?_
          rintro _ _ _ ⟨rfl, rfl, rfl⟩
          refine V_if_ltN 68 64 C dX10_readRoad_61 (by decide) rfl (by omega) (fun c61 => ?_) (fun c61 => ?_)
          · exact c61.elim
          · have hg : gv (T p0) a1 b1 c1 y = (true, rdOn y a1 b1 c1) := by rw [gv_r hL]; unfold aRd; rw [if_pos c37, if_neg hnn, if_pos (by omega), za, zb, zc, okn (by omega)]
            have hTd := mx_HR (y := rdOn y a1 b1 c1) hT3 hne hne1
            refine V_iconst 65 C dX10_readRoad_64 rfl ic1 ?_
            refine V_goto 69 C dX10_readRoad_65 (by decide) ?_
            refine V_callV 72 C dX10_readRoad_69 rfl mX10_done tw1008 fcX10 hTd.2.1 (c_X10_done l G _ _ m N _ o rf sc T g hTd _ (by omega)) rfl rfl (by decide) ⟨by omega, by omega⟩ (Nat.le_of_ble_eq_true rfl) ?_
            rintro _ _ _ ⟨rfl, rfl, rfl⟩
            first | rw [mH_mH] | rw [mH_HR hne]
            refine V_if_eqN 79 75 C dX10_readRoad_72 (by decide) rfl (by omega) (fun c72 => ?_) (fun c72 => ?_)
            · exact absurd c72 (by decide)
            · refine V_iconst 76 C dX10_readRoad_75 rfl ic1 ?_
              refine V_goto 80 C dX10_readRoad_76 (by decide) ?_
              refine V_ireturn C dX10_readRoad_80 rfl (by decide) (by omega) (by omega) ?_
              first | exact rdP_n hR | exact rdP_f hx hne hR hg | exact rdP_t hR hg

theorem dX10_readWrite_0 : decode cX10_readWrite 0 = .ok (.aload_n 0, 1) := by decide +kernel
theorem dX10_readWrite_1 : decode cX10_readWrite 1 = .ok (.iconst 0, 1) := by decide +kernel
theorem dX10_readWrite_2 : decode cX10_readWrite 2 = .ok (.invokevirtual 138, 3) := by decide +kernel
theorem dX10_readWrite_5 : decode cX10_readWrite 5 = .ok (.istore_n 2, 1) := by decide +kernel
theorem dX10_readWrite_6 : decode cX10_readWrite 6 = .ok (.aload_n 0, 1) := by decide +kernel
theorem dX10_readWrite_7 : decode cX10_readWrite 7 = .ok (.iload_n 2, 1) := by decide +kernel
theorem dX10_readWrite_8 : decode cX10_readWrite 8 = .ok (.ldc 151, 2) := by decide +kernel
theorem dX10_readWrite_10 : decode cX10_readWrite 10 = .ok (.iconst 0, 1) := by decide +kernel
theorem dX10_readWrite_11 : decode cX10_readWrite 11 = .ok (.ldc 152, 2) := by decide +kernel
theorem dX10_readWrite_13 : decode cX10_readWrite 13 = .ok (.invokevirtual 134, 3) := by decide +kernel
theorem dX10_readWrite_16 : decode cX10_readWrite 16 = .ok (.istore_n 3, 1) := by decide +kernel
theorem dX10_readWrite_17 : decode cX10_readWrite 17 = .ok (.aload_n 0, 1) := by decide +kernel
theorem dX10_readWrite_18 : decode cX10_readWrite 18 = .ok (.iload_n 3, 1) := by decide +kernel
theorem dX10_readWrite_19 : decode cX10_readWrite 19 = .ok (.iconst 1, 1) := by decide +kernel
theorem dX10_readWrite_20 : decode cX10_readWrite 20 = .ok (.iconst 0, 1) := by decide +kernel
theorem dX10_readWrite_21 : decode cX10_readWrite 21 = .ok (.bipush 9, 2) := by decide +kernel
theorem dX10_readWrite_23 : decode cX10_readWrite 23 = .ok (.invokevirtual 134, 3) := by decide +kernel
theorem dX10_readWrite_26 : decode cX10_readWrite 26 = .ok (.istore 4, 2) := by decide +kernel
theorem dX10_readWrite_28 : decode cX10_readWrite 28 = .ok (.iload 4, 2) := by decide +kernel
theorem dX10_readWrite_30 : decode cX10_readWrite 30 = .ok (.iconst (-1), 1) := by decide +kernel
theorem dX10_readWrite_31 : decode cX10_readWrite 31 = .ok (.if_icmp .eq 45, 3) := by decide +kernel
theorem dX10_readWrite_34 : decode cX10_readWrite 34 = .ok (.aload_n 0, 1) := by decide +kernel
theorem dX10_readWrite_35 : decode cX10_readWrite 35 = .ok (.aload_n 1, 1) := by decide +kernel
theorem dX10_readWrite_36 : decode cX10_readWrite 36 = .ok (.iload_n 2, 1) := by decide +kernel
theorem dX10_readWrite_37 : decode cX10_readWrite 37 = .ok (.invokestatic 94, 3) := by decide +kernel
theorem dX10_readWrite_40 : decode cX10_readWrite 40 = .ok (.ifCond .eq 25, 3) := by decide +kernel
theorem dX10_readWrite_43 : decode cX10_readWrite 43 = .ok (.aload_n 1, 1) := by decide +kernel
theorem dX10_readWrite_44 : decode cX10_readWrite 44 = .ok (.invokestatic 153, 3) := by decide +kernel
theorem dX10_readWrite_47 : decode cX10_readWrite 47 = .ok (.ifCond .eq 18, 3) := by decide +kernel
theorem dX10_readWrite_50 : decode cX10_readWrite 50 = .ok (.aload_n 1, 1) := by decide +kernel
theorem dX10_readWrite_51 : decode cX10_readWrite 51 = .ok (.iload_n 2, 1) := by decide +kernel
theorem dX10_readWrite_52 : decode cX10_readWrite 52 = .ok (.iload_n 3, 1) := by decide +kernel
theorem dX10_readWrite_53 : decode cX10_readWrite 53 = .ok (.iload 4, 2) := by decide +kernel
theorem dX10_readWrite_55 : decode cX10_readWrite 55 = .ok (.invokestatic 157, 3) := by decide +kernel
theorem dX10_readWrite_58 : decode cX10_readWrite 58 = .ok (.ifCond .lt 7, 3) := by decide +kernel
theorem dX10_readWrite_61 : decode cX10_readWrite 61 = .ok (.iconst 1, 1) := by decide +kernel
theorem dX10_readWrite_62 : decode cX10_readWrite 62 = .ok (.goto 4, 3) := by decide +kernel
theorem dX10_readWrite_65 : decode cX10_readWrite 65 = .ok (.iconst 0, 1) := by decide +kernel
theorem dX10_readWrite_66 : decode cX10_readWrite 66 = .ok (.invokevirtual 147, 3) := by decide +kernel
theorem dX10_readWrite_69 : decode cX10_readWrite 69 = .ok (.ifCond .eq 7, 3) := by decide +kernel
theorem dX10_readWrite_72 : decode cX10_readWrite 72 = .ok (.iconst 1, 1) := by decide +kernel
theorem dX10_readWrite_73 : decode cX10_readWrite 73 = .ok (.goto 4, 3) := by decide +kernel
theorem dX10_readWrite_76 : decode cX10_readWrite 76 = .ok (.iconst 0, 1) := by decide +kernel
theorem dX10_readWrite_77 : decode cX10_readWrite 77 = .ok (.ireturn, 1) := by decide +kernel
set_option maxRecDepth 100000 in
set_option maxHeartbeats 4000000 in
theorem c_X10_readWrite (l : Launch) (G : GT) (n : Nat) (h : AH) (m N p0 o : Nat) (rf sc : Int32) (T : Nat → Nat) (g : Nat → Int32) (hT : mx m N (p0 + 1) o rf sc T g h) (a : Nat) (y : Nat → Nat) (hx : Row a y h) (hI : Iv y) (hne : ¬ a = m) (hne1 : ¬ a = m + 1) (hL : T p0 = 119) : Ct l yX10_readWrite cX10_readWrite 5 (some .boolean) 4 0 0 G n h [.ref m, .ref a] (rdP m a N p0 o n rf sc T y h) := by
  obtain ⟨⟨hN, hpN⟩, hm, hg, hch⟩ := id hT
  have NE := NO_eq
  obtain ⟨⟨i0, i1, i2, i3, i4⟩, iR, iU, iM, iS⟩ := id hI
  refine Ct_of mX10_readWrite.1 (Nat.le_of_ble_eq_true rfl) ?_
  intro p₀ e₀ s₀ m₀ as₀ bl₀ me₀ c₀ C hin
  refine V_Le (L' := [(0, .ref m), (1, .ref a)]) rfl ?_
  refine V_aload_n 1 C dX10_readWrite_0 rfl rfl ?_
  refine V_iconst 2 C dX10_readWrite_1 rfl ic0 ?_
  refine V_callV 5 C dX10_readWrite_2 rfl mX10_townSign tw1016 fcX10 hT.2.1 (c_X10_townSign l G _ _ m N (p0 + 1) o rf sc T g hT 0 (Or.inr (by decide))) rfl rfl (by decide) ⟨by omega, by omega⟩ (Nat.le_of_ble_eq_true rfl) ?_
  rintro _ _ _ ⟨rfl, rfl, rfl⟩
  obtain ⟨r1, er1⟩ : ∃ r, r = fg T N 0 5 1 0 (p0 + 1) := ⟨_, rfl⟩
  rw [← er1]
  have hq1 : r1.2 ≤ N := by rw [er1]; exact (fg_q (by omega)).2
  have ho1 : ona r1.1 = NO ∨ ona r1.1 < 2 ^ 31 := by rw [er1]; exact fg_o (by omega) (by omega)
  have hT1 : mx m N r1.2 o rf sc T g (mH h m rf N sc r1.2 o) := mH_mx hT hq1
  have hx1 : Row a y (mH h m rf N sc r1.2 o) := mH_row hx hne
  refine V_istore_n 6 C dX10_readWrite_5 rfl (by decide) (L' := [(0, _), (1, _), (2, _)]) rfl ?_
  refine V_aload_n 7 C dX10_readWrite_6 rfl rfl ?_
  refine V_iload_n 8 C dX10_readWrite_7 rfl rfl ?_
  refine V_ldc 10 C dX10_readWrite_8 rfl tw1041 ?_
  rw [show (100000 : Int32) = nI (uw 6) from by decide]
  refine V_iconst 11 C dX10_readWrite_10 rfl ic0 ?_
  refine V_ldc 13 C dX10_readWrite_11 rfl tw1042 ?_
  rw [show (999999 : Int32) = nI 999999 from by decide]
  refine V_callV 16 C dX10_readWrite_13 rfl mX10_figures tw1020 fcX10 hT1.2.1 (c_X10_figures l G _ _ m N r1.2 o rf sc T g hT1 (ona r1.1) 6 0 999999 ho1 (by omega) (by omega) (by omega) (by omega)) rfl rfl (by decide) ⟨by omega, by omega⟩ (Nat.le_of_ble_eq_true rfl) ?_
  rintro _ _ _ ⟨rfl, rfl, rfl⟩
  rw [mH_mH]
  obtain ⟨r2, er2⟩ : ∃ r, r = fg T N 0 999999 6 (ona r1.1) r1.2 := ⟨_, rfl⟩
  rw [← er2]
  have hq2 : r2.2 ≤ N := by rw [er2]; exact (fg_q (by omega)).2
  have ho2 : ona r2.1 = NO ∨ ona r2.1 < 2 ^ 31 := by rw [er2]; exact fg_o (by omega) (by omega)
  have hT2 : mx m N r2.2 o rf sc T g (mH h m rf N sc r2.2 o) := mH_mx hT hq2
  have hx2 : Row a y (mH h m rf N sc r2.2 o) := mH_row hx hne
  refine V_istore_n 17 C dX10_readWrite_16 rfl (by decide) (L' := [(0, _), (1, _), (2, _), (3, _)]) rfl ?_
  refine V_aload_n 18 C dX10_readWrite_17 rfl rfl ?_
  refine V_iload_n 19 C dX10_readWrite_18 rfl rfl ?_
  refine V_iconst 20 C dX10_readWrite_19 rfl ic1 ?_
  refine V_iconst 21 C dX10_readWrite_20 rfl ic0 ?_
  refine V_bipush 23 C dX10_readWrite_21 rfl bip9 ?_
  refine V_callV 26 C dX10_readWrite_23 rfl mX10_figures tw1020 fcX10 hT2.2.1 (c_X10_figures l G _ _ m N r2.2 o rf sc T g hT2 (ona r2.1) 1 0 9 ho2 (by omega) (by omega) (by omega) (by omega)) rfl rfl (by decide) ⟨by omega, by omega⟩ (Nat.le_of_ble_eq_true rfl) ?_
  rintro _ _ _ ⟨rfl, rfl, rfl⟩
  rw [mH_mH]
  obtain ⟨r3, er3⟩ : ∃ r, r = fg T N 0 9 1 (ona r2.1) r2.2 := ⟨_, rfl⟩
  rw [← er3]
  have hq3 : r3.2 ≤ N := by rw [er3]; exact (fg_q (by omega)).2
  have ho3 : ona r3.1 = NO ∨ ona r3.1 < 2 ^ 31 := by rw [er3]; exact fg_o (by omega) (by omega)
  have hT3 : mx m N r3.2 o rf sc T g (mH h m rf N sc r3.2 o) := mH_mx hT hq3
  have hx3 : Row a y (mH h m rf N sc r3.2 o) := mH_row hx hne
  refine V_istore 28 C dX10_readWrite_26 rfl (by decide) (L' := [(0, _), (1, _), (2, _), (3, _), (4, _)]) rfl ?_
  refine V_iload 30 C dX10_readWrite_28 rfl rfl ?_
  refine V_iconst 31 C dX10_readWrite_30 rfl icm1 ?_
  refine V_icmp_eqN 76 34 C dX10_readWrite_31 (by decide) rfl (by omega) (by omega) (fun c31 => ?_) (fun c31 => ?_)
  · have hR : rcm T N p0 = (none, r3.2) := by
      rw [rcm_w hL]
      rcases ch3 er1 er2 er3 (by omega) (by omega) (by omega) (by omega) (by omega) with ⟨-, g2⟩ | ⟨a1, b1, c1, gb, ⟨-, -, g1⟩, -⟩
      · exact g2
      · exfalso; omega
    refine V_iconst 77 C dX10_readWrite_76 rfl ic0 ?_
    refine V_ireturn C dX10_readWrite_77 rfl (by decide) (by omega) (by omega) ?_
    first | exact rdP_n hR | exact rdP_f hx hne hR hg | exact rdP_t hR hg
  · obtain ⟨a1, b1, c1, ⟨ba, bb, bc⟩, ⟨ga, gb, gc⟩, hR⟩ : ∃ a b c, ((0 ≤ a ∧ a ≤ 5) ∧ (0 ≤ b ∧ b ≤ 999999) ∧ (0 ≤ c ∧ c ≤ 9)) ∧ (ona r1.1 = a ∧ ona r2.1 = b ∧ ona r3.1 = c) ∧ rcm T N p0 = (some (a, b, c), r3.2) := by
      rw [rcm_w hL]
      rcases ch3 er1 er2 er3 (by omega) (by omega) (by omega) (by omega) (by omega) with ⟨g1, -⟩ | g
      · exact absurd g1 c31
      · exact g
    rw [ga, gb, gc]
    have za := zn (show a1 < 2 ^ 31 by omega)
    have zb := zn (show b1 < 2 ^ 31 by omega)
    have zc := zn (show c1 < 2 ^ 31 by omega)
    have hnn : ix (nI b1) 1000000 ∧ ix (nI c1) 10 := ⟨(ix_nI (by omega)).mpr (by omega), (ix_nI (by omega)).mpr (by omega)⟩
    refine V_aload_n 35 C dX10_readWrite_34 rfl rfl ?_
    refine V_aload_n 36 C dX10_readWrite_35 rfl rfl ?_
    refine V_iload_n 37 C dX10_readWrite_36 rfl rfl ?_
    refine V_callS 40 C dX10_readWrite_37 rfl mX10_isTown tw1028 (c_X10_isTown l G _ _ a y hx3 hI (nI a1)) rfl rfl (by decide) ⟨by omega, by omega⟩ (Nat.le_of_ble_eq_true rfl) ?_
    rintro _ _ _ ⟨rfl, rfl, rfl⟩
    refine V_if_eqB 65 43 C dX10_readWrite_40 (by decide) rfl  (fun c40 => ?_) (fun c40 => ?_)
    · have hg : gv (T p0) a1 b1 c1 y = (false, y) := by rw [gv_w hL]; unfold aWr; rw [if_neg c40, okN]
      have hTd := hT3
      refine V_iconst 66 C dX10_readWrite_65 rfl ic0 ?_
      refine V_callV 69 C dX10_readWrite_66 rfl mX10_done tw1008 fcX10 hTd.2.1 (c_X10_done l G _ _ m N _ o rf sc T g hTd _ (by omega)) rfl rfl (by decide) ⟨by omega, by omega⟩ (Nat.le_of_ble_eq_true rfl) ?_
      rintro _ _ _ ⟨rfl, rfl, rfl⟩
      first | rw [mH_mH] | rw [mH_HR hne]
      refine V_if_eqN 76 72 C dX10_readWrite_69 (by decide) rfl (by omega) (fun c69 => ?_) (fun c69 => ?_)
      · exact absurd c69 (by decide)
      · refine V_iconst 73 C dX10_readWrite_72 rfl ic1 ?_
        refine V_goto 77 C dX10_readWrite_73 (by decide) ?_
        refine V_ireturn C dX10_readWrite_77 rfl (by decide) (by omega) (by omega) ?_
        first | exact rdP_n hR | exact rdP_f hx hne hR hg | exact rdP_t hR hg
    · refine V_aload_n 44 C dX10_readWrite_43 rfl rfl ?_
      refine V_callS 47 C dX10_readWrite_44 rfl mX10_canWrite tw1043 (c_X10_canWrite l G _ _ a y hx3 hI) rfl rfl (by decide) ⟨by omega, by omega⟩ (Nat.le_of_ble_eq_true rfl) ?_
      rintro _ _ _ ⟨rfl, rfl, rfl⟩
      refine V_if_eqB 65 50 C dX10_readWrite_47 (by decide) rfl  (fun c47 => ?_) (fun c47 => ?_)
      · have hg : gv (T p0) a1 b1 c1 y = (false, y) := by rw [gv_w hL]; unfold aWr; rw [if_pos c40, if_pos hnn, if_neg c47, okW]
        have hTd := hT3
        refine V_iconst 66 C dX10_readWrite_65 rfl ic0 ?_
        refine V_callV 69 C dX10_readWrite_66 rfl mX10_done tw1008 fcX10 hTd.2.1 (c_X10_done l G _ _ m N _ o rf sc T g hTd _ (by omega)) rfl rfl (by decide) ⟨by omega, by omega⟩ (Nat.le_of_ble_eq_true rfl) ?_
        rintro _ _ _ ⟨rfl, rfl, rfl⟩
        first | rw [mH_mH] | rw [mH_HR hne]
        refine V_if_eqN 76 72 C dX10_readWrite_69 (by decide) rfl (by omega) (fun c69 => ?_) (fun c69 => ?_)
        · exact absurd c69 (by decide)
        · refine V_iconst 73 C dX10_readWrite_72 rfl ic1 ?_
          refine V_goto 77 C dX10_readWrite_73 (by decide) ?_
          refine V_ireturn C dX10_readWrite_77 rfl (by decide) (by omega) (by omega) ?_
          first | exact rdP_n hR | exact rdP_f hx hne hR hg | exact rdP_t hR hg
      · refine V_aload_n 51 C dX10_readWrite_50 rfl rfl ?_
        refine V_iload_n 52 C dX10_readWrite_51 rfl rfl ?_
        refine V_iload_n 53 C dX10_readWrite_52 rfl rfl ?_
        refine V_iload 55 C dX10_readWrite_53 rfl rfl ?_
        refine V_callS 58 C dX10_readWrite_55 rfl mX10_writeOn tw1046 (c_X10_writeOn l G _ _ a y hx3 c47.1 c47.2 a1 b1 c1) rfl rfl (by decide) ⟨by omega, by omega⟩ (Nat.le_of_ble_eq_true rfl) ?_
        rintro _ _ _ ⟨rfl, rfl, rfl⟩
        refine V_if_ltN 65 61 C dX10_readWrite_58 (by decide) rfl (by omega) (fun c58 => ?_) (fun c58 => ?_)
        · exact c58.elim
        · have hg : gv (T p0) a1 b1 c1 y = (true, wrOn y a1 b1 c1) := by rw [gv_w hL]; unfold aWr; rw [if_pos c40, if_pos hnn, if_pos c47, za, zb, zc, okn (by omega)]
          have hTd := mx_HR (y := wrOn y a1 b1 c1) hT3 hne hne1
          refine V_iconst 62 C dX10_readWrite_61 rfl ic1 ?_
          refine V_goto 66 C dX10_readWrite_62 (by decide) ?_
          refine V_callV 69 C dX10_readWrite_66 rfl mX10_done tw1008 fcX10 hTd.2.1 (c_X10_done l G _ _ m N _ o rf sc T g hTd _ (by omega)) rfl rfl (by decide) ⟨by omega, by omega⟩ (Nat.le_of_ble_eq_true rfl) ?_
          rintro _ _ _ ⟨rfl, rfl, rfl⟩
          first | rw [mH_mH] | rw [mH_HR hne]
          refine V_if_eqN 76 72 C dX10_readWrite_69 (by decide) rfl (by omega) (fun c69 => ?_) (fun c69 => ?_)
          · exact absurd c69 (by decide)
          · refine V_iconst 73 C dX10_readWrite_72 rfl ic1 ?_
            refine V_goto 77 C dX10_readWrite_73 (by decide) ?_
            refine V_ireturn C dX10_readWrite_77 rfl (by decide) (by omega) (by omega) ?_
            first | exact rdP_n hR | exact rdP_f hx hne hR hg | exact rdP_t hR hg

theorem dX10_readTake_0 : decode cX10_readTake 0 = .ok (.aload_n 0, 1) := by decide +kernel
theorem dX10_readTake_1 : decode cX10_readTake 1 = .ok (.iconst 0, 1) := by decide +kernel
theorem dX10_readTake_2 : decode cX10_readTake 2 = .ok (.invokevirtual 160, 3) := by decide +kernel
theorem dX10_readTake_5 : decode cX10_readTake 5 = .ok (.istore_n 2, 1) := by decide +kernel
theorem dX10_readTake_6 : decode cX10_readTake 6 = .ok (.aload_n 0, 1) := by decide +kernel
theorem dX10_readTake_7 : decode cX10_readTake 7 = .ok (.iload_n 2, 1) := by decide +kernel
theorem dX10_readTake_8 : decode cX10_readTake 8 = .ok (.invokevirtual 163, 3) := by decide +kernel
theorem dX10_readTake_11 : decode cX10_readTake 11 = .ok (.istore_n 3, 1) := by decide +kernel
theorem dX10_readTake_12 : decode cX10_readTake 12 = .ok (.iload_n 3, 1) := by decide +kernel
theorem dX10_readTake_13 : decode cX10_readTake 13 = .ok (.iconst (-1), 1) := by decide +kernel
theorem dX10_readTake_14 : decode cX10_readTake 14 = .ok (.if_icmp .eq 53, 3) := by decide +kernel
theorem dX10_readTake_17 : decode cX10_readTake 17 = .ok (.aload_n 0, 1) := by decide +kernel
theorem dX10_readTake_18 : decode cX10_readTake 18 = .ok (.aload_n 1, 1) := by decide +kernel
theorem dX10_readTake_19 : decode cX10_readTake 19 = .ok (.iload_n 2, 1) := by decide +kernel
theorem dX10_readTake_20 : decode cX10_readTake 20 = .ok (.invokestatic 166, 3) := by decide +kernel
theorem dX10_readTake_23 : decode cX10_readTake 23 = .ok (.ifCond .eq 33, 3) := by decide +kernel
theorem dX10_readTake_26 : decode cX10_readTake 26 = .ok (.aload_n 1, 1) := by decide +kernel
theorem dX10_readTake_27 : decode cX10_readTake 27 = .ok (.iload_n 3, 1) := by decide +kernel
theorem dX10_readTake_28 : decode cX10_readTake 28 = .ok (.invokestatic 169, 3) := by decide +kernel
theorem dX10_readTake_31 : decode cX10_readTake 31 = .ok (.ifCond .eq 25, 3) := by decide +kernel
theorem dX10_readTake_34 : decode cX10_readTake 34 = .ok (.aload_n 1, 1) := by decide +kernel
theorem dX10_readTake_35 : decode cX10_readTake 35 = .ok (.iload_n 2, 1) := by decide +kernel
theorem dX10_readTake_36 : decode cX10_readTake 36 = .ok (.iload_n 3, 1) := by decide +kernel
theorem dX10_readTake_37 : decode cX10_readTake 37 = .ok (.invokestatic 172, 3) := by decide +kernel
theorem dX10_readTake_40 : decode cX10_readTake 40 = .ok (.ifCond .eq 16, 3) := by decide +kernel
theorem dX10_readTake_43 : decode cX10_readTake 43 = .ok (.aload_n 1, 1) := by decide +kernel
theorem dX10_readTake_44 : decode cX10_readTake 44 = .ok (.iload_n 2, 1) := by decide +kernel
theorem dX10_readTake_45 : decode cX10_readTake 45 = .ok (.iload_n 3, 1) := by decide +kernel
theorem dX10_readTake_46 : decode cX10_readTake 46 = .ok (.invokestatic 175, 3) := by decide +kernel
theorem dX10_readTake_49 : decode cX10_readTake 49 = .ok (.ifCond .le 7, 3) := by decide +kernel
theorem dX10_readTake_52 : decode cX10_readTake 52 = .ok (.iconst 1, 1) := by decide +kernel
theorem dX10_readTake_53 : decode cX10_readTake 53 = .ok (.goto 4, 3) := by decide +kernel
theorem dX10_readTake_56 : decode cX10_readTake 56 = .ok (.iconst 0, 1) := by decide +kernel
theorem dX10_readTake_57 : decode cX10_readTake 57 = .ok (.invokevirtual 147, 3) := by decide +kernel
theorem dX10_readTake_60 : decode cX10_readTake 60 = .ok (.ifCond .eq 7, 3) := by decide +kernel
theorem dX10_readTake_63 : decode cX10_readTake 63 = .ok (.iconst 1, 1) := by decide +kernel
theorem dX10_readTake_64 : decode cX10_readTake 64 = .ok (.goto 4, 3) := by decide +kernel
theorem dX10_readTake_67 : decode cX10_readTake 67 = .ok (.iconst 0, 1) := by decide +kernel
theorem dX10_readTake_68 : decode cX10_readTake 68 = .ok (.ireturn, 1) := by decide +kernel
set_option maxRecDepth 100000 in
set_option maxHeartbeats 4000000 in
theorem c_X10_readTake (l : Launch) (G : GT) (n : Nat) (h : AH) (m N p0 o : Nat) (rf sc : Int32) (T : Nat → Nat) (g : Nat → Int32) (hT : mx m N (p0 + 1) o rf sc T g h) (a : Nat) (y : Nat → Nat) (hx : Row a y h) (hI : Iv y) (hne : ¬ a = m) (hne1 : ¬ a = m + 1) (hL : T p0 = 107) : Ct l yX10_readTake cX10_readTake 4 (some .boolean) 5 0 0 G n h [.ref m, .ref a] (rdP m a N p0 o n rf sc T y h) := by
  obtain ⟨⟨hN, hpN⟩, hm, hg, hch⟩ := id hT
  have NE := NO_eq
  obtain ⟨⟨i0, i1, i2, i3, i4⟩, iR, iU, iM, iS⟩ := id hI
  refine Ct_of mX10_readTake.1 (Nat.le_of_ble_eq_true rfl) ?_
  intro p₀ e₀ s₀ m₀ as₀ bl₀ me₀ c₀ C hin
  refine V_Le (L' := [(0, .ref m), (1, .ref a)]) rfl ?_
  refine V_aload_n 1 C dX10_readTake_0 rfl rfl ?_
  refine V_iconst 2 C dX10_readTake_1 rfl ic0 ?_
  refine V_callV 5 C dX10_readTake_2 rfl mX10_runnerSign tw1056 fcX10 hT.2.1 (c_X10_runnerSign l G _ _ m N (p0 + 1) o rf sc T g hT 0 (Or.inr (by decide))) rfl rfl (by decide) ⟨by omega, by omega⟩ (Nat.le_of_ble_eq_true rfl) ?_
  rintro _ _ _ ⟨rfl, rfl, rfl⟩
  obtain ⟨r1, er1⟩ : ∃ r, r = fg T N 0 4 1 0 (p0 + 1) := ⟨_, rfl⟩
  rw [← er1]
  have hq1 : r1.2 ≤ N := by rw [er1]; exact (fg_q (by omega)).2
  have ho1 : ona r1.1 = NO ∨ ona r1.1 < 2 ^ 31 := by rw [er1]; exact fg_o (by omega) (by omega)
  have hT1 : mx m N r1.2 o rf sc T g (mH h m rf N sc r1.2 o) := mH_mx hT hq1
  have hx1 : Row a y (mH h m rf N sc r1.2 o) := mH_row hx hne
  refine V_istore_n 6 C dX10_readTake_5 rfl (by decide) (L' := [(0, _), (1, _), (2, _)]) rfl ?_
  refine V_aload_n 7 C dX10_readTake_6 rfl rfl ?_
  refine V_iload_n 8 C dX10_readTake_7 rfl rfl ?_
  refine V_callV 11 C dX10_readTake_8 rfl mX10_sheetSign tw1060 fcX10 hT1.2.1 (c_X10_sheetSign l G _ _ m N r1.2 o rf sc T g hT1 (ona r1.1) ho1) rfl rfl (by decide) ⟨by omega, by omega⟩ (Nat.le_of_ble_eq_true rfl) ?_
  rintro _ _ _ ⟨rfl, rfl, rfl⟩
  rw [mH_mH]
  obtain ⟨r2, er2⟩ : ∃ r, r = fg T N 0 11 2 (ona r1.1) r1.2 := ⟨_, rfl⟩
  rw [← er2]
  have hq2 : r2.2 ≤ N := by rw [er2]; exact (fg_q (by omega)).2
  have ho2 : ona r2.1 = NO ∨ ona r2.1 < 2 ^ 31 := by rw [er2]; exact fg_o (by omega) (by omega)
  have hT2 : mx m N r2.2 o rf sc T g (mH h m rf N sc r2.2 o) := mH_mx hT hq2
  have hx2 : Row a y (mH h m rf N sc r2.2 o) := mH_row hx hne
  refine V_istore_n 12 C dX10_readTake_11 rfl (by decide) (L' := [(0, _), (1, _), (2, _), (3, _)]) rfl ?_
  refine V_iload_n 13 C dX10_readTake_12 rfl rfl ?_
  refine V_iconst 14 C dX10_readTake_13 rfl icm1 ?_
  refine V_icmp_eqN 67 17 C dX10_readTake_14 (by decide) rfl (by omega) (by omega) (fun c14 => ?_) (fun c14 => ?_)
  · have hR : rcm T N p0 = (none, r2.2) := by
      rw [rcm_k hL]
      rcases ch2' er1 er2 (by omega) (by omega) (by omega) with ⟨-, g2⟩ | ⟨a1, b1, gb, ⟨-, g1⟩, -⟩
      · exact g2
      · exfalso; omega
    refine V_iconst 68 C dX10_readTake_67 rfl ic0 ?_
    refine V_ireturn C dX10_readTake_68 rfl (by decide) (by omega) (by omega) ?_
    first | exact rdP_n hR | exact rdP_f hx hne hR hg | exact rdP_t hR hg
  · obtain ⟨a1, b1, ⟨ba, bb⟩, ⟨ga, gb⟩, hR⟩ : ∃ a b, ((0 ≤ a ∧ a ≤ 4) ∧ (0 ≤ b ∧ b ≤ 11)) ∧ (ona r1.1 = a ∧ ona r2.1 = b) ∧ rcm T N p0 = (some (a, b, 0), r2.2) := by
      rw [rcm_k hL]
      rcases ch2' er1 er2 (by omega) (by omega) (by omega) with ⟨g1, -⟩ | g
      · exact absurd g1 c14
      · exact g
    rw [ga, gb]
    have za := zn (show a1 < 2 ^ 31 by omega)
    have zb := zn (show b1 < 2 ^ 31 by omega)
    refine V_aload_n 18 C dX10_readTake_17 rfl rfl ?_
    refine V_aload_n 19 C dX10_readTake_18 rfl rfl ?_
    refine V_iload_n 20 C dX10_readTake_19 rfl rfl ?_
    refine V_callS 23 C dX10_readTake_20 rfl mX10_isRunner tw1064 (c_X10_isRunner l G _ _ a y hx2 hI (nI a1)) rfl rfl (by decide) ⟨by omega, by omega⟩ (Nat.le_of_ble_eq_true rfl) ?_
    rintro _ _ _ ⟨rfl, rfl, rfl⟩
    refine V_if_eqB 56 26 C dX10_readTake_23 (by decide) rfl  (fun c23 => ?_) (fun c23 => ?_)
    · have hg : gv (T p0) a1 b1 0 y = (false, y) := by rw [gv_k hL]; unfold aTk; rw [if_neg (fun e => c23 e.1), okN]
      have hTd := hT2
      refine V_iconst 57 C dX10_readTake_56 rfl ic0 ?_
      refine V_callV 60 C dX10_readTake_57 rfl mX10_done tw1008 fcX10 hTd.2.1 (c_X10_done l G _ _ m N _ o rf sc T g hTd _ (by omega)) rfl rfl (by decide) ⟨by omega, by omega⟩ (Nat.le_of_ble_eq_true rfl) ?_
      rintro _ _ _ ⟨rfl, rfl, rfl⟩
      first | rw [mH_mH] | rw [mH_HR hne]
      refine V_if_eqN 67 63 C dX10_readTake_60 (by decide) rfl (by omega) (fun c60 => ?_) (fun c60 => ?_)
      · exact absurd c60 (by decide)
      · refine V_iconst 64 C dX10_readTake_63 rfl ic1 ?_
        refine V_goto 68 C dX10_readTake_64 (by decide) ?_
        refine V_ireturn C dX10_readTake_68 rfl (by decide) (by omega) (by omega) ?_
        first | exact rdP_n hR | exact rdP_f hx hne hR hg | exact rdP_t hR hg
    · have ia : a1 < y 2 := (ix_nI (by omega)).mp c23
      refine V_aload_n 27 C dX10_readTake_26 rfl rfl ?_
      refine V_iload_n 28 C dX10_readTake_27 rfl rfl ?_
      refine V_callS 31 C dX10_readTake_28 rfl mX10_isSheet tw1067 (c_X10_isSheet l G _ _ a y hx2 hI (nI b1)) rfl rfl (by decide) ⟨by omega, by omega⟩ (Nat.le_of_ble_eq_true rfl) ?_
      rintro _ _ _ ⟨rfl, rfl, rfl⟩
      refine V_if_eqB 56 34 C dX10_readTake_31 (by decide) rfl  (fun c31 => ?_) (fun c31 => ?_)
      · have hg : gv (T p0) a1 b1 0 y = (false, y) := by rw [gv_k hL]; unfold aTk; rw [if_neg (fun e => c31 e.2), okN]
        have hTd := hT2
        refine V_iconst 57 C dX10_readTake_56 rfl ic0 ?_
        refine V_callV 60 C dX10_readTake_57 rfl mX10_done tw1008 fcX10 hTd.2.1 (c_X10_done l G _ _ m N _ o rf sc T g hTd _ (by omega)) rfl rfl (by decide) ⟨by omega, by omega⟩ (Nat.le_of_ble_eq_true rfl) ?_
        rintro _ _ _ ⟨rfl, rfl, rfl⟩
        first | rw [mH_mH] | rw [mH_HR hne]
        refine V_if_eqN 67 63 C dX10_readTake_60 (by decide) rfl (by omega) (fun c60 => ?_) (fun c60 => ?_)
        · exact absurd c60 (by decide)
        · refine V_iconst 64 C dX10_readTake_63 rfl ic1 ?_
          refine V_goto 68 C dX10_readTake_64 (by decide) ?_
          refine V_ireturn C dX10_readTake_68 rfl (by decide) (by omega) (by omega) ?_
          first | exact rdP_n hR | exact rdP_f hx hne hR hg | exact rdP_t hR hg
      · have ib : b1 < y 4 := (ix_nI (by omega)).mp c31
        refine V_aload_n 35 C dX10_readTake_34 rfl rfl ?_
        refine V_iload_n 36 C dX10_readTake_35 rfl rfl ?_
        refine V_iload_n 37 C dX10_readTake_36 rfl rfl ?_
        refine V_callS 40 C dX10_readTake_37 rfl mX10_canTake tw1070 (c_X10_canTake l G _ _ a y hx2 hI a1 b1 ia ib) rfl rfl (by decide) ⟨by omega, by omega⟩ (Nat.le_of_ble_eq_true rfl) ?_
        rintro _ _ _ ⟨rfl, rfl, rfl⟩
        refine V_if_eqB 56 43 C dX10_readTake_40 (by decide) rfl  (fun c40 => ?_) (fun c40 => ?_)
        · have hg : gv (T p0) a1 b1 0 y = (false, y) := by rw [gv_k hL]; unfold aTk; rw [if_pos ⟨c23, c31⟩, za, zb, if_neg c40, okW]
          have hTd := hT2
          refine V_iconst 57 C dX10_readTake_56 rfl ic0 ?_
          refine V_callV 60 C dX10_readTake_57 rfl mX10_done tw1008 fcX10 hTd.2.1 (c_X10_done l G _ _ m N _ o rf sc T g hTd _ (by omega)) rfl rfl (by decide) ⟨by omega, by omega⟩ (Nat.le_of_ble_eq_true rfl) ?_
          rintro _ _ _ ⟨rfl, rfl, rfl⟩
          first | rw [mH_mH] | rw [mH_HR hne]
          refine V_if_eqN 67 63 C dX10_readTake_60 (by decide) rfl (by omega) (fun c60 => ?_) (fun c60 => ?_)
          · exact absurd c60 (by decide)
          · refine V_iconst 64 C dX10_readTake_63 rfl ic1 ?_
            refine V_goto 68 C dX10_readTake_64 (by decide) ?_
            refine V_ireturn C dX10_readTake_68 rfl (by decide) (by omega) (by omega) ?_
            first | exact rdP_n hR | exact rdP_f hx hne hR hg | exact rdP_t hR hg
        · have hcar := cark_le y a1 (y 4)
          refine V_aload_n 44 C dX10_readTake_43 rfl rfl ?_
          refine V_iload_n 45 C dX10_readTake_44 rfl rfl ?_
          refine V_iload_n 46 C dX10_readTake_45 rfl rfl ?_
          refine V_callS 49 C dX10_readTake_46 rfl mX10_takeOn tw1088 (c_X10_takeOn l G _ _ a y hx2 hI a1 b1 ia ib) rfl rfl (by decide) ⟨by omega, by omega⟩ (Nat.le_of_ble_eq_true rfl) ?_
          rintro _ _ _ ⟨rfl, rfl, rfl⟩
          have hct := car_tk ib c40.2.2.1
          rw [hct]
          refine V_if_leN 56 52 C dX10_readTake_49 (by decide) rfl (by have := c40.2.2.2; omega) (fun c49 => ?_) (fun c49 => ?_)
          · omega
          · have hg : gv (T p0) a1 b1 0 y = (true, tkOn y a1 b1) := by rw [gv_k hL]; unfold aTk; rw [if_pos ⟨c23, c31⟩, za, zb, if_pos c40, okn (by have := c40.2.2.2; omega)]
            have hTd := mx_HR (y := tkOn y a1 b1) hT2 hne hne1
            refine V_iconst 53 C dX10_readTake_52 rfl ic1 ?_
            refine V_goto 57 C dX10_readTake_53 (by decide) ?_
            refine V_callV 60 C dX10_readTake_57 rfl mX10_done tw1008 fcX10 hTd.2.1 (c_X10_done l G _ _ m N _ o rf sc T g hTd _ (by omega)) rfl rfl (by decide) ⟨by omega, by omega⟩ (Nat.le_of_ble_eq_true rfl) ?_
            rintro _ _ _ ⟨rfl, rfl, rfl⟩
            first | rw [mH_mH] | rw [mH_HR hne]
            refine V_if_eqN 67 63 C dX10_readTake_60 (by decide) rfl (by omega) (fun c60 => ?_) (fun c60 => ?_)
            · exact absurd c60 (by decide)
            · refine V_iconst 64 C dX10_readTake_63 rfl ic1 ?_
              refine V_goto 68 C dX10_readTake_64 (by decide) ?_
              refine V_ireturn C dX10_readTake_68 rfl (by decide) (by omega) (by omega) ?_
              first | exact rdP_n hR | exact rdP_f hx hne hR hg | exact rdP_t hR hg

theorem dX10_readGo_0 : decode cX10_readGo 0 = .ok (.aload_n 0, 1) := by decide +kernel
theorem dX10_readGo_1 : decode cX10_readGo 1 = .ok (.iconst 0, 1) := by decide +kernel
theorem dX10_readGo_2 : decode cX10_readGo 2 = .ok (.invokevirtual 160, 3) := by decide +kernel
theorem dX10_readGo_5 : decode cX10_readGo 5 = .ok (.istore_n 2, 1) := by decide +kernel
theorem dX10_readGo_6 : decode cX10_readGo 6 = .ok (.aload_n 0, 1) := by decide +kernel
theorem dX10_readGo_7 : decode cX10_readGo 7 = .ok (.iload_n 2, 1) := by decide +kernel
theorem dX10_readGo_8 : decode cX10_readGo 8 = .ok (.iconst 1, 1) := by decide +kernel
theorem dX10_readGo_9 : decode cX10_readGo 9 = .ok (.iconst 0, 1) := by decide +kernel
theorem dX10_readGo_10 : decode cX10_readGo 10 = .ok (.bipush 9, 2) := by decide +kernel
theorem dX10_readGo_12 : decode cX10_readGo 12 = .ok (.invokevirtual 134, 3) := by decide +kernel
theorem dX10_readGo_15 : decode cX10_readGo 15 = .ok (.istore_n 3, 1) := by decide +kernel
theorem dX10_readGo_16 : decode cX10_readGo 16 = .ok (.iload_n 3, 1) := by decide +kernel
theorem dX10_readGo_17 : decode cX10_readGo 17 = .ok (.iconst (-1), 1) := by decide +kernel
theorem dX10_readGo_18 : decode cX10_readGo 18 = .ok (.if_icmp .eq 53, 3) := by decide +kernel
theorem dX10_readGo_21 : decode cX10_readGo 21 = .ok (.aload_n 0, 1) := by decide +kernel
theorem dX10_readGo_22 : decode cX10_readGo 22 = .ok (.aload_n 1, 1) := by decide +kernel
theorem dX10_readGo_23 : decode cX10_readGo 23 = .ok (.iload_n 2, 1) := by decide +kernel
theorem dX10_readGo_24 : decode cX10_readGo 24 = .ok (.invokestatic 166, 3) := by decide +kernel
theorem dX10_readGo_27 : decode cX10_readGo 27 = .ok (.ifCond .eq 33, 3) := by decide +kernel
theorem dX10_readGo_30 : decode cX10_readGo 30 = .ok (.aload_n 1, 1) := by decide +kernel
theorem dX10_readGo_31 : decode cX10_readGo 31 = .ok (.iload_n 3, 1) := by decide +kernel
theorem dX10_readGo_32 : decode cX10_readGo 32 = .ok (.invokestatic 178, 3) := by decide +kernel
theorem dX10_readGo_35 : decode cX10_readGo 35 = .ok (.ifCond .eq 25, 3) := by decide +kernel
theorem dX10_readGo_38 : decode cX10_readGo 38 = .ok (.aload_n 1, 1) := by decide +kernel
theorem dX10_readGo_39 : decode cX10_readGo 39 = .ok (.iload_n 2, 1) := by decide +kernel
theorem dX10_readGo_40 : decode cX10_readGo 40 = .ok (.iload_n 3, 1) := by decide +kernel
theorem dX10_readGo_41 : decode cX10_readGo 41 = .ok (.invokestatic 181, 3) := by decide +kernel
theorem dX10_readGo_44 : decode cX10_readGo 44 = .ok (.ifCond .eq 16, 3) := by decide +kernel
theorem dX10_readGo_47 : decode cX10_readGo 47 = .ok (.aload_n 1, 1) := by decide +kernel
theorem dX10_readGo_48 : decode cX10_readGo 48 = .ok (.iload_n 2, 1) := by decide +kernel
theorem dX10_readGo_49 : decode cX10_readGo 49 = .ok (.iload_n 3, 1) := by decide +kernel
theorem dX10_readGo_50 : decode cX10_readGo 50 = .ok (.invokestatic 184, 3) := by decide +kernel
theorem dX10_readGo_53 : decode cX10_readGo 53 = .ok (.ifCond .lt 7, 3) := by decide +kernel
theorem dX10_readGo_56 : decode cX10_readGo 56 = .ok (.iconst 1, 1) := by decide +kernel
theorem dX10_readGo_57 : decode cX10_readGo 57 = .ok (.goto 4, 3) := by decide +kernel
theorem dX10_readGo_60 : decode cX10_readGo 60 = .ok (.iconst 0, 1) := by decide +kernel
theorem dX10_readGo_61 : decode cX10_readGo 61 = .ok (.invokevirtual 147, 3) := by decide +kernel
theorem dX10_readGo_64 : decode cX10_readGo 64 = .ok (.ifCond .eq 7, 3) := by decide +kernel
theorem dX10_readGo_67 : decode cX10_readGo 67 = .ok (.iconst 1, 1) := by decide +kernel
theorem dX10_readGo_68 : decode cX10_readGo 68 = .ok (.goto 4, 3) := by decide +kernel
theorem dX10_readGo_71 : decode cX10_readGo 71 = .ok (.iconst 0, 1) := by decide +kernel
theorem dX10_readGo_72 : decode cX10_readGo 72 = .ok (.ireturn, 1) := by decide +kernel
set_option maxRecDepth 100000 in
set_option maxHeartbeats 4000000 in
theorem c_X10_readGo (l : Launch) (G : GT) (n : Nat) (h : AH) (m N p0 o : Nat) (rf sc : Int32) (T : Nat → Nat) (g : Nat → Int32) (hT : mx m N (p0 + 1) o rf sc T g h) (a : Nat) (y : Nat → Nat) (hx : Row a y h) (hI : Iv y) (hne : ¬ a = m) (hne1 : ¬ a = m + 1) (hL : T p0 = 103) : Ct l yX10_readGo cX10_readGo 4 (some .boolean) 5 0 0 G n h [.ref m, .ref a] (rdP m a N p0 o n rf sc T y h) := by
  obtain ⟨⟨hN, hpN⟩, hm, hg, hch⟩ := id hT
  have NE := NO_eq
  obtain ⟨⟨i0, i1, i2, i3, i4⟩, iR, iU, iM, iS⟩ := id hI
  refine Ct_of mX10_readGo.1 (Nat.le_of_ble_eq_true rfl) ?_
  intro p₀ e₀ s₀ m₀ as₀ bl₀ me₀ c₀ C hin
  refine V_Le (L' := [(0, .ref m), (1, .ref a)]) rfl ?_
  refine V_aload_n 1 C dX10_readGo_0 rfl rfl ?_
  refine V_iconst 2 C dX10_readGo_1 rfl ic0 ?_
  refine V_callV 5 C dX10_readGo_2 rfl mX10_runnerSign tw1056 fcX10 hT.2.1 (c_X10_runnerSign l G _ _ m N (p0 + 1) o rf sc T g hT 0 (Or.inr (by decide))) rfl rfl (by decide) ⟨by omega, by omega⟩ (Nat.le_of_ble_eq_true rfl) ?_
  rintro _ _ _ ⟨rfl, rfl, rfl⟩
  obtain ⟨r1, er1⟩ : ∃ r, r = fg T N 0 4 1 0 (p0 + 1) := ⟨_, rfl⟩
  rw [← er1]
  have hq1 : r1.2 ≤ N := by rw [er1]; exact (fg_q (by omega)).2
  have ho1 : ona r1.1 = NO ∨ ona r1.1 < 2 ^ 31 := by rw [er1]; exact fg_o (by omega) (by omega)
  have hT1 : mx m N r1.2 o rf sc T g (mH h m rf N sc r1.2 o) := mH_mx hT hq1
  have hx1 : Row a y (mH h m rf N sc r1.2 o) := mH_row hx hne
  refine V_istore_n 6 C dX10_readGo_5 rfl (by decide) (L' := [(0, _), (1, _), (2, _)]) rfl ?_
  refine V_aload_n 7 C dX10_readGo_6 rfl rfl ?_
  refine V_iload_n 8 C dX10_readGo_7 rfl rfl ?_
  refine V_iconst 9 C dX10_readGo_8 rfl ic1 ?_
  refine V_iconst 10 C dX10_readGo_9 rfl ic0 ?_
  refine V_bipush 12 C dX10_readGo_10 rfl bip9 ?_
  refine V_callV 15 C dX10_readGo_12 rfl mX10_figures tw1020 fcX10 hT1.2.1 (c_X10_figures l G _ _ m N r1.2 o rf sc T g hT1 (ona r1.1) 1 0 9 ho1 (by omega) (by omega) (by omega) (by omega)) rfl rfl (by decide) ⟨by omega, by omega⟩ (Nat.le_of_ble_eq_true rfl) ?_
  rintro _ _ _ ⟨rfl, rfl, rfl⟩
  rw [mH_mH]
  obtain ⟨r2, er2⟩ : ∃ r, r = fg T N 0 9 1 (ona r1.1) r1.2 := ⟨_, rfl⟩
  rw [← er2]
  have hq2 : r2.2 ≤ N := by rw [er2]; exact (fg_q (by omega)).2
  have ho2 : ona r2.1 = NO ∨ ona r2.1 < 2 ^ 31 := by rw [er2]; exact fg_o (by omega) (by omega)
  have hT2 : mx m N r2.2 o rf sc T g (mH h m rf N sc r2.2 o) := mH_mx hT hq2
  have hx2 : Row a y (mH h m rf N sc r2.2 o) := mH_row hx hne
  refine V_istore_n 16 C dX10_readGo_15 rfl (by decide) (L' := [(0, _), (1, _), (2, _), (3, _)]) rfl ?_
  refine V_iload_n 17 C dX10_readGo_16 rfl rfl ?_
  refine V_iconst 18 C dX10_readGo_17 rfl icm1 ?_
  refine V_icmp_eqN 71 21 C dX10_readGo_18 (by decide) rfl (by omega) (by omega) (fun c18 => ?_) (fun c18 => ?_)
  · have hR : rcm T N p0 = (none, r2.2) := by
      rw [rcm_g hL]
      rcases ch2' er1 er2 (by omega) (by omega) (by omega) with ⟨-, g2⟩ | ⟨a1, b1, gb, ⟨-, g1⟩, -⟩
      · exact g2
      · exfalso; omega
    refine V_iconst 72 C dX10_readGo_71 rfl ic0 ?_
    refine V_ireturn C dX10_readGo_72 rfl (by decide) (by omega) (by omega) ?_
    first | exact rdP_n hR | exact rdP_f hx hne hR hg | exact rdP_t hR hg
  · obtain ⟨a1, b1, ⟨ba, bb⟩, ⟨ga, gb⟩, hR⟩ : ∃ a b, ((0 ≤ a ∧ a ≤ 4) ∧ (0 ≤ b ∧ b ≤ 9)) ∧ (ona r1.1 = a ∧ ona r2.1 = b) ∧ rcm T N p0 = (some (a, b, 0), r2.2) := by
      rw [rcm_g hL]
      rcases ch2' er1 er2 (by omega) (by omega) (by omega) with ⟨g1, -⟩ | g
      · exact absurd g1 c18
      · exact g
    rw [ga, gb]
    have za := zn (show a1 < 2 ^ 31 by omega)
    have zb := zn (show b1 < 2 ^ 31 by omega)
    refine V_aload_n 22 C dX10_readGo_21 rfl rfl ?_
    refine V_aload_n 23 C dX10_readGo_22 rfl rfl ?_
    refine V_iload_n 24 C dX10_readGo_23 rfl rfl ?_
    refine V_callS 27 C dX10_readGo_24 rfl mX10_isRunner tw1064 (c_X10_isRunner l G _ _ a y hx2 hI (nI a1)) rfl rfl (by decide) ⟨by omega, by omega⟩ (Nat.le_of_ble_eq_true rfl) ?_
    rintro _ _ _ ⟨rfl, rfl, rfl⟩
    refine V_if_eqB 60 30 C dX10_readGo_27 (by decide) rfl  (fun c27 => ?_) (fun c27 => ?_)
    · have hg : gv (T p0) a1 b1 0 y = (false, y) := by rw [gv_g hL]; unfold aGo; rw [if_neg (fun e => c27 e.1), okN]
      have hTd := hT2
      refine V_iconst 61 C dX10_readGo_60 rfl ic0 ?_
      refine V_callV 64 C dX10_readGo_61 rfl mX10_done tw1008 fcX10 hTd.2.1 (c_X10_done l G _ _ m N _ o rf sc T g hTd _ (by omega)) rfl rfl (by decide) ⟨by omega, by omega⟩ (Nat.le_of_ble_eq_true rfl) ?_
      rintro _ _ _ ⟨rfl, rfl, rfl⟩
      first | rw [mH_mH] | rw [mH_HR hne]
      refine V_if_eqN 71 67 C dX10_readGo_64 (by decide) rfl (by omega) (fun c64 => ?_) (fun c64 => ?_)
      · exact absurd c64 (by decide)
      · refine V_iconst 68 C dX10_readGo_67 rfl ic1 ?_
        refine V_goto 72 C dX10_readGo_68 (by decide) ?_
        refine V_ireturn C dX10_readGo_72 rfl (by decide) (by omega) (by omega) ?_
        first | exact rdP_n hR | exact rdP_f hx hne hR hg | exact rdP_t hR hg
    · have ia : a1 < y 2 := (ix_nI (by omega)).mp c27
      refine V_aload_n 31 C dX10_readGo_30 rfl rfl ?_
      refine V_iload_n 32 C dX10_readGo_31 rfl rfl ?_
      refine V_callS 35 C dX10_readGo_32 rfl mX10_isRoad tw1101 (c_X10_isRoad l G _ _ a y hx2 hI (nI b1)) rfl rfl (by decide) ⟨by omega, by omega⟩ (Nat.le_of_ble_eq_true rfl) ?_
      rintro _ _ _ ⟨rfl, rfl, rfl⟩
      refine V_if_eqB 60 38 C dX10_readGo_35 (by decide) rfl  (fun c35 => ?_) (fun c35 => ?_)
      · have hg : gv (T p0) a1 b1 0 y = (false, y) := by rw [gv_g hL]; unfold aGo; rw [if_neg (fun e => c35 e.2), okN]
        have hTd := hT2
        refine V_iconst 61 C dX10_readGo_60 rfl ic0 ?_
        refine V_callV 64 C dX10_readGo_61 rfl mX10_done tw1008 fcX10 hTd.2.1 (c_X10_done l G _ _ m N _ o rf sc T g hTd _ (by omega)) rfl rfl (by decide) ⟨by omega, by omega⟩ (Nat.le_of_ble_eq_true rfl) ?_
        rintro _ _ _ ⟨rfl, rfl, rfl⟩
        first | rw [mH_mH] | rw [mH_HR hne]
        refine V_if_eqN 71 67 C dX10_readGo_64 (by decide) rfl (by omega) (fun c64 => ?_) (fun c64 => ?_)
        · exact absurd c64 (by decide)
        · refine V_iconst 68 C dX10_readGo_67 rfl ic1 ?_
          refine V_goto 72 C dX10_readGo_68 (by decide) ?_
          refine V_ireturn C dX10_readGo_72 rfl (by decide) (by omega) (by omega) ?_
          first | exact rdP_n hR | exact rdP_f hx hne hR hg | exact rdP_t hR hg
      · have ib : b1 < y 1 := (ix_nI (by omega)).mp c35
        refine V_aload_n 39 C dX10_readGo_38 rfl rfl ?_
        refine V_iload_n 40 C dX10_readGo_39 rfl rfl ?_
        refine V_iload_n 41 C dX10_readGo_40 rfl rfl ?_
        refine V_callS 44 C dX10_readGo_41 rfl mX10_canGo tw1104 (c_X10_canGo l G _ _ a y hx2 hI a1 b1 ia ib) rfl rfl (by decide) ⟨by omega, by omega⟩ (Nat.le_of_ble_eq_true rfl) ?_
        rintro _ _ _ ⟨rfl, rfl, rfl⟩
        refine V_if_eqB 60 47 C dX10_readGo_44 (by decide) rfl  (fun c44 => ?_) (fun c44 => ?_)
        · have hg : gv (T p0) a1 b1 0 y = (false, y) := by rw [gv_g hL]; unfold aGo; rw [if_pos ⟨c27, c35⟩, za, zb, if_neg c44, okW]
          have hTd := hT2
          refine V_iconst 61 C dX10_readGo_60 rfl ic0 ?_
          refine V_callV 64 C dX10_readGo_61 rfl mX10_done tw1008 fcX10 hTd.2.1 (c_X10_done l G _ _ m N _ o rf sc T g hTd _ (by omega)) rfl rfl (by decide) ⟨by omega, by omega⟩ (Nat.le_of_ble_eq_true rfl) ?_
          rintro _ _ _ ⟨rfl, rfl, rfl⟩
          first | rw [mH_mH] | rw [mH_HR hne]
          refine V_if_eqN 71 67 C dX10_readGo_64 (by decide) rfl (by omega) (fun c64 => ?_) (fun c64 => ?_)
          · exact absurd c64 (by decide)
          · refine V_iconst 68 C dX10_readGo_67 rfl ic1 ?_
            refine V_goto 72 C dX10_readGo_68 (by decide) ?_
            refine V_ireturn C dX10_readGo_72 rfl (by decide) (by omega) (by omega) ?_
            first | exact rdP_n hR | exact rdP_f hx hne hR hg | exact rdP_t hR hg
        · have hgt := goT_b hI a1 ib
          refine V_aload_n 48 C dX10_readGo_47 rfl rfl ?_
          refine V_iload_n 49 C dX10_readGo_48 rfl rfl ?_
          refine V_iload_n 50 C dX10_readGo_49 rfl rfl ?_
          refine V_callS 53 C dX10_readGo_50 rfl mX10_goOn tw1110 (c_X10_goOn l G _ _ a y hx2 hI a1 b1 ia ib) rfl rfl (by decide) ⟨by omega, by omega⟩ (Nat.le_of_ble_eq_true rfl) ?_
          rintro _ _ _ ⟨rfl, rfl, rfl⟩
          refine V_if_ltN 60 56 C dX10_readGo_53 (by decide) rfl (by omega) (fun c53 => ?_) (fun c53 => ?_)
          · exact c53.elim
          · have hg : gv (T p0) a1 b1 0 y = (true, gOn y a1 b1) := by rw [gv_g hL]; unfold aGo; rw [if_pos ⟨c27, c35⟩, za, zb, if_pos c44, okn (by omega)]
            have hTd := mx_HR (y := gOn y a1 b1) hT2 hne hne1
            refine V_iconst 57 C dX10_readGo_56 rfl ic1 ?_
            refine V_goto 61 C dX10_readGo_57 (by decide) ?_
            refine V_callV 64 C dX10_readGo_61 rfl mX10_done tw1008 fcX10 hTd.2.1 (c_X10_done l G _ _ m N _ o rf sc T g hTd _ (by omega)) rfl rfl (by decide) ⟨by omega, by omega⟩ (Nat.le_of_ble_eq_true rfl) ?_
            rintro _ _ _ ⟨rfl, rfl, rfl⟩
            first | rw [mH_mH] | rw [mH_HR hne]
            refine V_if_eqN 71 67 C dX10_readGo_64 (by decide) rfl (by omega) (fun c64 => ?_) (fun c64 => ?_)
            · exact absurd c64 (by decide)
            · refine V_iconst 68 C dX10_readGo_67 rfl ic1 ?_
              refine V_goto 72 C dX10_readGo_68 (by decide) ?_
              refine V_ireturn C dX10_readGo_72 rfl (by decide) (by omega) (by omega) ?_
              first | exact rdP_n hR | exact rdP_f hx hne hR hg | exact rdP_t hR hg

theorem dX10_readCopy_0 : decode cX10_readCopy 0 = .ok (.aload_n 0, 1) := by decide +kernel
theorem dX10_readCopy_1 : decode cX10_readCopy 1 = .ok (.iconst 0, 1) := by decide +kernel
theorem dX10_readCopy_2 : decode cX10_readCopy 2 = .ok (.invokevirtual 163, 3) := by decide +kernel
theorem dX10_readCopy_5 : decode cX10_readCopy 5 = .ok (.istore_n 2, 1) := by decide +kernel
theorem dX10_readCopy_6 : decode cX10_readCopy 6 = .ok (.aload_n 0, 1) := by decide +kernel
theorem dX10_readCopy_7 : decode cX10_readCopy 7 = .ok (.iload_n 2, 1) := by decide +kernel
theorem dX10_readCopy_8 : decode cX10_readCopy 8 = .ok (.iconst 1, 1) := by decide +kernel
theorem dX10_readCopy_9 : decode cX10_readCopy 9 = .ok (.iconst 0, 1) := by decide +kernel
theorem dX10_readCopy_10 : decode cX10_readCopy 10 = .ok (.bipush 9, 2) := by decide +kernel
theorem dX10_readCopy_12 : decode cX10_readCopy 12 = .ok (.invokevirtual 134, 3) := by decide +kernel
theorem dX10_readCopy_15 : decode cX10_readCopy 15 = .ok (.istore_n 3, 1) := by decide +kernel
theorem dX10_readCopy_16 : decode cX10_readCopy 16 = .ok (.iload_n 3, 1) := by decide +kernel
theorem dX10_readCopy_17 : decode cX10_readCopy 17 = .ok (.iconst (-1), 1) := by decide +kernel
theorem dX10_readCopy_18 : decode cX10_readCopy 18 = .ok (.if_icmp .eq 44, 3) := by decide +kernel
theorem dX10_readCopy_21 : decode cX10_readCopy 21 = .ok (.aload_n 0, 1) := by decide +kernel
theorem dX10_readCopy_22 : decode cX10_readCopy 22 = .ok (.aload_n 1, 1) := by decide +kernel
theorem dX10_readCopy_23 : decode cX10_readCopy 23 = .ok (.iload_n 2, 1) := by decide +kernel
theorem dX10_readCopy_24 : decode cX10_readCopy 24 = .ok (.invokestatic 169, 3) := by decide +kernel
theorem dX10_readCopy_27 : decode cX10_readCopy 27 = .ok (.ifCond .eq 24, 3) := by decide +kernel
theorem dX10_readCopy_30 : decode cX10_readCopy 30 = .ok (.aload_n 1, 1) := by decide +kernel
theorem dX10_readCopy_31 : decode cX10_readCopy 31 = .ok (.iload_n 2, 1) := by decide +kernel
theorem dX10_readCopy_32 : decode cX10_readCopy 32 = .ok (.invokestatic 105, 3) := by decide +kernel
theorem dX10_readCopy_35 : decode cX10_readCopy 35 = .ok (.ifCond .ne 16, 3) := by decide +kernel
theorem dX10_readCopy_38 : decode cX10_readCopy 38 = .ok (.aload_n 1, 1) := by decide +kernel
theorem dX10_readCopy_39 : decode cX10_readCopy 39 = .ok (.iload_n 2, 1) := by decide +kernel
theorem dX10_readCopy_40 : decode cX10_readCopy 40 = .ok (.iload_n 3, 1) := by decide +kernel
theorem dX10_readCopy_41 : decode cX10_readCopy 41 = .ok (.invokestatic 187, 3) := by decide +kernel
theorem dX10_readCopy_44 : decode cX10_readCopy 44 = .ok (.ifCond .ne 7, 3) := by decide +kernel
theorem dX10_readCopy_47 : decode cX10_readCopy 47 = .ok (.iconst 1, 1) := by decide +kernel
theorem dX10_readCopy_48 : decode cX10_readCopy 48 = .ok (.goto 4, 3) := by decide +kernel
theorem dX10_readCopy_51 : decode cX10_readCopy 51 = .ok (.iconst 0, 1) := by decide +kernel
theorem dX10_readCopy_52 : decode cX10_readCopy 52 = .ok (.invokevirtual 147, 3) := by decide +kernel
theorem dX10_readCopy_55 : decode cX10_readCopy 55 = .ok (.ifCond .eq 7, 3) := by decide +kernel
theorem dX10_readCopy_58 : decode cX10_readCopy 58 = .ok (.iconst 1, 1) := by decide +kernel
theorem dX10_readCopy_59 : decode cX10_readCopy 59 = .ok (.goto 4, 3) := by decide +kernel
theorem dX10_readCopy_62 : decode cX10_readCopy 62 = .ok (.iconst 0, 1) := by decide +kernel
theorem dX10_readCopy_63 : decode cX10_readCopy 63 = .ok (.ireturn, 1) := by decide +kernel
set_option maxRecDepth 100000 in
set_option maxHeartbeats 4000000 in
theorem c_X10_readCopy (l : Launch) (G : GT) (n : Nat) (h : AH) (m N p0 o : Nat) (rf sc : Int32) (T : Nat → Nat) (g : Nat → Int32) (hT : mx m N (p0 + 1) o rf sc T g h) (a : Nat) (y : Nat → Nat) (hx : Row a y h) (hI : Iv y) (hne : ¬ a = m) (hne1 : ¬ a = m + 1) (hL : T p0 = 99) : Ct l yX10_readCopy cX10_readCopy 4 (some .boolean) 7 0 0 G n h [.ref m, .ref a] (rdP m a N p0 o n rf sc T y h) := by
  obtain ⟨⟨hN, hpN⟩, hm, hg, hch⟩ := id hT
  have NE := NO_eq
  obtain ⟨⟨i0, i1, i2, i3, i4⟩, iR, iU, iM, iS⟩ := id hI
  refine Ct_of mX10_readCopy.1 (Nat.le_of_ble_eq_true rfl) ?_
  intro p₀ e₀ s₀ m₀ as₀ bl₀ me₀ c₀ C hin
  refine V_Le (L' := [(0, .ref m), (1, .ref a)]) rfl ?_
  refine V_aload_n 1 C dX10_readCopy_0 rfl rfl ?_
  refine V_iconst 2 C dX10_readCopy_1 rfl ic0 ?_
  refine V_callV 5 C dX10_readCopy_2 rfl mX10_sheetSign tw1060 fcX10 hT.2.1 (c_X10_sheetSign l G _ _ m N (p0 + 1) o rf sc T g hT 0 (Or.inr (by decide))) rfl rfl (by decide) ⟨by omega, by omega⟩ (Nat.le_of_ble_eq_true rfl) ?_
  rintro _ _ _ ⟨rfl, rfl, rfl⟩
  obtain ⟨r1, er1⟩ : ∃ r, r = fg T N 0 11 2 0 (p0 + 1) := ⟨_, rfl⟩
  rw [← er1]
  have hq1 : r1.2 ≤ N := by rw [er1]; exact (fg_q (by omega)).2
  have ho1 : ona r1.1 = NO ∨ ona r1.1 < 2 ^ 31 := by rw [er1]; exact fg_o (by omega) (by omega)
  have hT1 : mx m N r1.2 o rf sc T g (mH h m rf N sc r1.2 o) := mH_mx hT hq1
  have hx1 : Row a y (mH h m rf N sc r1.2 o) := mH_row hx hne
  refine V_istore_n 6 C dX10_readCopy_5 rfl (by decide) (L' := [(0, _), (1, _), (2, _)]) rfl ?_
  refine V_aload_n 7 C dX10_readCopy_6 rfl rfl ?_
  refine V_iload_n 8 C dX10_readCopy_7 rfl rfl ?_
  refine V_iconst 9 C dX10_readCopy_8 rfl ic1 ?_
  refine V_iconst 10 C dX10_readCopy_9 rfl ic0 ?_
  refine V_bipush 12 C dX10_readCopy_10 rfl bip9 ?_
  refine V_callV 15 C dX10_readCopy_12 rfl mX10_figures tw1020 fcX10 hT1.2.1 (c_X10_figures l G _ _ m N r1.2 o rf sc T g hT1 (ona r1.1) 1 0 9 ho1 (by omega) (by omega) (by omega) (by omega)) rfl rfl (by decide) ⟨by omega, by omega⟩ (Nat.le_of_ble_eq_true rfl) ?_
  rintro _ _ _ ⟨rfl, rfl, rfl⟩
  rw [mH_mH]
  obtain ⟨r2, er2⟩ : ∃ r, r = fg T N 0 9 1 (ona r1.1) r1.2 := ⟨_, rfl⟩
  rw [← er2]
  have hq2 : r2.2 ≤ N := by rw [er2]; exact (fg_q (by omega)).2
  have ho2 : ona r2.1 = NO ∨ ona r2.1 < 2 ^ 31 := by rw [er2]; exact fg_o (by omega) (by omega)
  have hT2 : mx m N r2.2 o rf sc T g (mH h m rf N sc r2.2 o) := mH_mx hT hq2
  have hx2 : Row a y (mH h m rf N sc r2.2 o) := mH_row hx hne
  refine V_istore_n 16 C dX10_readCopy_15 rfl (by decide) (L' := [(0, _), (1, _), (2, _), (3, _)]) rfl ?_
  refine V_iload_n 17 C dX10_readCopy_16 rfl rfl ?_
  refine V_iconst 18 C dX10_readCopy_17 rfl icm1 ?_
  refine V_icmp_eqN 62 21 C dX10_readCopy_18 (by decide) rfl (by omega) (by omega) (fun c18 => ?_) (fun c18 => ?_)
  · have hR : rcm T N p0 = (none, r2.2) := by
      rw [rcm_c hL]
      rcases ch2' er1 er2 (by omega) (by omega) (by omega) with ⟨-, g2⟩ | ⟨a1, b1, gb, ⟨-, g1⟩, -⟩
      · exact g2
      · exfalso; omega
    refine V_iconst 63 C dX10_readCopy_62 rfl ic0 ?_
    refine V_ireturn C dX10_readCopy_63 rfl (by decide) (by omega) (by omega) ?_
    first | exact rdP_n hR | exact rdP_f hx hne hR hg | exact rdP_t hR hg
  · obtain ⟨a1, b1, ⟨ba, bb⟩, ⟨ga, gb⟩, hR⟩ : ∃ a b, ((0 ≤ a ∧ a ≤ 11) ∧ (0 ≤ b ∧ b ≤ 9)) ∧ (ona r1.1 = a ∧ ona r2.1 = b) ∧ rcm T N p0 = (some (a, b, 0), r2.2) := by
      rw [rcm_c hL]
      rcases ch2' er1 er2 (by omega) (by omega) (by omega) with ⟨g1, -⟩ | g
      · exact absurd g1 c18
      · exact g
    rw [ga, gb]
    have za := zn (show a1 < 2 ^ 31 by omega)
    have zb := zn (show b1 < 2 ^ 31 by omega)
    have hnn : ix (nI b1) 10 := (ix_nI (by omega)).mpr (by omega)
    have hcr := crs_le y a1
    refine V_aload_n 22 C dX10_readCopy_21 rfl rfl ?_
    refine V_aload_n 23 C dX10_readCopy_22 rfl rfl ?_
    refine V_iload_n 24 C dX10_readCopy_23 rfl rfl ?_
    refine V_callS 27 C dX10_readCopy_24 rfl mX10_isSheet tw1067 (c_X10_isSheet l G _ _ a y hx2 hI (nI a1)) rfl rfl (by decide) ⟨by omega, by omega⟩ (Nat.le_of_ble_eq_true rfl) ?_
    rintro _ _ _ ⟨rfl, rfl, rfl⟩
    refine V_if_eqB 51 30 C dX10_readCopy_27 (by decide) rfl  (fun c27 => ?_) (fun c27 => ?_)
    · have hg : gv (T p0) a1 b1 0 y = (false, y) := by rw [gv_c hL]; unfold aCp; rw [if_neg c27, okC_N]
      have hTd := hT2
      refine V_iconst 52 C dX10_readCopy_51 rfl ic0 ?_
      refine V_callV 55 C dX10_readCopy_52 rfl mX10_done tw1008 fcX10 hTd.2.1 (c_X10_done l G _ _ m N _ o rf sc T g hTd _ (by omega)) rfl rfl (by decide) ⟨by omega, by omega⟩ (Nat.le_of_ble_eq_true rfl) ?_
      rintro _ _ _ ⟨rfl, rfl, rfl⟩
      first | rw [mH_mH] | rw [mH_HR hne]
      refine V_if_eqN 62 58 C dX10_readCopy_55 (by decide) rfl (by omega) (fun c55 => ?_) (fun c55 => ?_)
      · exact absurd c55 (by decide)
      · refine V_iconst 59 C dX10_readCopy_58 rfl ic1 ?_
        refine V_goto 63 C dX10_readCopy_59 (by decide) ?_
        refine V_ireturn C dX10_readCopy_63 rfl (by decide) (by omega) (by omega) ?_
        first | exact rdP_n hR | exact rdP_f hx hne hR hg | exact rdP_t hR hg
    · have ia : a1 < y 4 := (ix_nI (by omega)).mp c27
      refine V_aload_n 31 C dX10_readCopy_30 rfl rfl ?_
      refine V_iload_n 32 C dX10_readCopy_31 rfl rfl ?_
      refine V_callS 35 C dX10_readCopy_32 rfl mX10_copyReason tw1117 (c_X10_copyReason l G _ _ a y hx2 hI a1 ia) rfl rfl (by decide) ⟨by omega, by omega⟩ (Nat.le_of_ble_eq_true rfl) ?_
      rintro _ _ _ ⟨rfl, rfl, rfl⟩
      refine V_if_neN 51 38 C dX10_readCopy_35 (by decide) rfl (by omega) (fun c35 => ?_) (fun c35 => ?_)
      · have hg : gv (T p0) a1 b1 0 y = (false, y) := by rw [gv_c hL]; unfold aCp; rw [if_pos c27, if_pos hnn, za, zb, okC_n (by omega) c35, show cpC y a1 b1 = y from if_neg c35]
        have hTd := hT2
        refine V_iconst 52 C dX10_readCopy_51 rfl ic0 ?_
        refine V_callV 55 C dX10_readCopy_52 rfl mX10_done tw1008 fcX10 hTd.2.1 (c_X10_done l G _ _ m N _ o rf sc T g hTd _ (by omega)) rfl rfl (by decide) ⟨by omega, by omega⟩ (Nat.le_of_ble_eq_true rfl) ?_
        rintro _ _ _ ⟨rfl, rfl, rfl⟩
        first | rw [mH_mH] | rw [mH_HR hne]
        refine V_if_eqN 62 58 C dX10_readCopy_55 (by decide) rfl (by omega) (fun c55 => ?_) (fun c55 => ?_)
        · exact absurd c55 (by decide)
        · refine V_iconst 59 C dX10_readCopy_58 rfl ic1 ?_
          refine V_goto 63 C dX10_readCopy_59 (by decide) ?_
          refine V_ireturn C dX10_readCopy_63 rfl (by decide) (by omega) (by omega) ?_
          first | exact rdP_n hR | exact rdP_f hx hne hR hg | exact rdP_t hR hg
      · refine V_aload_n 39 C dX10_readCopy_38 rfl rfl ?_
        refine V_iload_n 40 C dX10_readCopy_39 rfl rfl ?_
        refine V_iload_n 41 C dX10_readCopy_40 rfl rfl ?_
        refine V_callS 44 C dX10_readCopy_41 rfl mX10_copyOn tw1123 (c_X10_copyOn l G _ _ a y hx2 hI a1 b1 ia) rfl rfl (by decide) ⟨by omega, by omega⟩ (Nat.le_of_ble_eq_true rfl) ?_
        rintro _ _ _ ⟨rfl, rfl, rfl⟩
        rw [show cpOn y a1 b1 = cpC y a1 b1 from by unfold cpOn cpC; rw [if_pos c35, if_pos c35]]
        refine V_if_neN 51 47 C dX10_readCopy_44 (by decide) rfl (by omega) (fun c44 => ?_) (fun c44 => ?_)
        · exact absurd c35 c44
        · have hg : gv (T p0) a1 b1 0 y = (true, cpC y a1 b1) := by rw [gv_c hL]; unfold aCp; rw [if_pos c27, if_pos hnn, za, zb, c35, okC_0]
          have hTd := mx_HR (y := cpC y a1 b1) hT2 hne hne1
          refine V_iconst 48 C dX10_readCopy_47 rfl ic1 ?_
          refine V_goto 52 C dX10_readCopy_48 (by decide) ?_
          refine V_callV 55 C dX10_readCopy_52 rfl mX10_done tw1008 fcX10 hTd.2.1 (c_X10_done l G _ _ m N _ o rf sc T g hTd _ (by omega)) rfl rfl (by decide) ⟨by omega, by omega⟩ (Nat.le_of_ble_eq_true rfl) ?_
          rintro _ _ _ ⟨rfl, rfl, rfl⟩
          first | rw [mH_mH] | rw [mH_HR hne]
          refine V_if_eqN 62 58 C dX10_readCopy_55 (by decide) rfl (by omega) (fun c55 => ?_) (fun c55 => ?_)
          · exact absurd c55 (by decide)
          · refine V_iconst 59 C dX10_readCopy_58 rfl ic1 ?_
            refine V_goto 63 C dX10_readCopy_59 (by decide) ?_
            refine V_ireturn C dX10_readCopy_63 rfl (by decide) (by omega) (by omega) ?_
            first | exact rdP_n hR | exact rdP_f hx hne hR hg | exact rdP_t hR hg

