/-! THE TEXT: read by the class as a whole -/
theorem rcm_L {T : Nat → Nat} {N p : Nat} {x : Nat × Nat × Nat} (e : (rcm T N p).1 = some x) : T p = 116 ∨ T p = 114 ∨ T p = 117 ∨ T p = 119 ∨ T p = 107 ∨ T p = 108 ∨ T p = 103 ∨ T p = 99 ∨ T p = 104 := by
  by_cases h : ¬ T p = 116 ∧ ¬ T p = 114 ∧ ¬ T p = 117 ∧ ¬ T p = 119 ∧ ¬ T p = 107 ∧ ¬ T p = 108 ∧ ¬ T p = 103 ∧ ¬ T p = 99 ∧ ¬ T p = 104
  · rw [rcm_n h] at e; cases e
  · omega
theorem rdt_k1 {T : Nat → Nat} {N k k' p o : Nat} {y : Nat → Nat} (h : N - p ≤ k) (h' : N - p ≤ k') : (rdt T N k p y o).1 = (rdt T N k' p y o).1 := by rw [rdt_k h h']
theorem tH_fr {X N p : Nat} {T : Nat → Nat} {lt : Int32} {f g : Nat → Int32} {h h' : AH} (ht : tx X T N p lt f g h) (hF : ∀ a, X ≤ a → a < X + 3 → h' a = h a) : tx X T N p lt f g h' := by
  obtain ⟨h0, h1, h2, h3, h4⟩ := ht
  exact ⟨h0, by rw [hF _ (by omega) (by omega)]; exact h1, by rw [hF _ (by omega) (by omega)]; exact h2, by rw [hF _ (by omega) (by omega)]; exact h3, h4⟩
theorem dX0_firstError_0 : decode cX0_firstError 0 = .ok (.aload_n 0, 1) := by decide +kernel
theorem dX0_firstError_1 : decode cX0_firstError 1 = .ok (.getfield 19, 3) := by decide +kernel
theorem dX0_firstError_4 : decode cX0_firstError 4 = .ok (.ifCond .eq 14, 3) := by decide +kernel
theorem dX0_firstError_7 : decode cX0_firstError 7 = .ok (.aload_n 0, 1) := by decide +kernel
theorem dX0_firstError_8 : decode cX0_firstError 8 = .ok (.getfield 9, 3) := by decide +kernel
theorem dX0_firstError_11 : decode cX0_firstError 11 = .ok (.iconst 0, 1) := by decide +kernel
theorem dX0_firstError_12 : decode cX0_firstError 12 = .ok (.caload, 1) := by decide +kernel
theorem dX0_firstError_13 : decode cX0_firstError 13 = .ok (.bipush 70, 2) := by decide +kernel
theorem dX0_firstError_15 : decode cX0_firstError 15 = .ok (.if_icmp .eq 5, 3) := by decide +kernel
theorem dX0_firstError_18 : decode cX0_firstError 18 = .ok (.iconst 0, 1) := by decide +kernel
theorem dX0_firstError_19 : decode cX0_firstError 19 = .ok (.ireturn, 1) := by decide +kernel
theorem dX0_firstError_20 : decode cX0_firstError 20 = .ok (.aload_n 0, 1) := by decide +kernel
theorem dX0_firstError_21 : decode cX0_firstError 21 = .ok (.iconst 1, 1) := by decide +kernel
theorem dX0_firstError_22 : decode cX0_firstError 22 = .ok (.putfield 23, 3) := by decide +kernel
theorem dX0_firstError_25 : decode cX0_firstError 25 = .ok (.iconst 1, 1) := by decide +kernel
theorem dX0_firstError_26 : decode cX0_firstError 26 = .ok (.istore_n 1, 1) := by decide +kernel
theorem dX0_firstError_27 : decode cX0_firstError 27 = .ok (.iload_n 1, 1) := by decide +kernel
theorem dX0_firstError_28 : decode cX0_firstError 28 = .ok (.aload_n 0, 1) := by decide +kernel
theorem dX0_firstError_29 : decode cX0_firstError 29 = .ok (.getfield 19, 3) := by decide +kernel
theorem dX0_firstError_32 : decode cX0_firstError 32 = .ok (.if_icmp .ge 32, 3) := by decide +kernel
theorem dX0_firstError_35 : decode cX0_firstError 35 = .ok (.aload_n 0, 1) := by decide +kernel
theorem dX0_firstError_36 : decode cX0_firstError 36 = .ok (.getfield 23, 3) := by decide +kernel
theorem dX0_firstError_39 : decode cX0_firstError 39 = .ok (.aload_n 0, 1) := by decide +kernel
theorem dX0_firstError_40 : decode cX0_firstError 40 = .ok (.getfield 19, 3) := by decide +kernel
theorem dX0_firstError_43 : decode cX0_firstError 43 = .ok (.if_icmp .ge 21, 3) := by decide +kernel
theorem dX0_firstError_46 : decode cX0_firstError 46 = .ok (.aload_n 0, 1) := by decide +kernel
theorem dX0_firstError_47 : decode cX0_firstError 47 = .ok (.invokevirtual 26, 3) := by decide +kernel
theorem dX0_firstError_50 : decode cX0_firstError 50 = .ok (.ifCond .ne 8, 3) := by decide +kernel
theorem dX0_firstError_53 : decode cX0_firstError 53 = .ok (.aload_n 0, 1) := by decide +kernel
theorem dX0_firstError_54 : decode cX0_firstError 54 = .ok (.getfield 23, 3) := by decide +kernel
theorem dX0_firstError_57 : decode cX0_firstError 57 = .ok (.ireturn, 1) := by decide +kernel
theorem dX0_firstError_58 : decode cX0_firstError 58 = .ok (.iinc 1 1, 3) := by decide +kernel
theorem dX0_firstError_61 : decode cX0_firstError 61 = .ok (.goto (-34), 3) := by decide +kernel
theorem dX0_firstError_64 : decode cX0_firstError 64 = .ok (.iconst (-1), 1) := by decide +kernel
theorem dX0_firstError_65 : decode cX0_firstError 65 = .ok (.ireturn, 1) := by decide +kernel
set_option maxRecDepth 100000 in
set_option maxHeartbeats 4000000 in
theorem c_X0_firstError (l : Launch) (G : GT) (n : Nat) (h : AH) (X N : Nat) (T : Nat → Nat) (a0 lt : Int32) (f g : Nat → Int32) (hT : tx0 X T N a0 lt f g h) : Ct l yX0_firstError cX0_firstError 2 (some .int) 5 0 0 G n h [.ref X] (Ri (nI (fer T N)) n (fun h' => (∃ a' lt' g', tx0 X T N a' lt' f g' h') ∧ ∀ a, (a < X ∨ X + 3 ≤ a) → h' a = h a)) := by
  obtain ⟨hN, hX, hf, hg, hch⟩ := id hT
  refine Ct_of mX0_firstError.1 (Nat.le_of_ble_eq_true rfl) ?_
  intro p₀ e₀ s₀ m₀ as₀ bl₀ me₀ c₀ C hin
  refine V_Le (L' := [(0, .ref X)]) rfl ?_
  refine V_aload_n 1 C dX0_firstError_0 rfl rfl ?_
  refine V_get (k := 2) 4 C dX0_firstError_1 rfl fcX0 tw214 (by decide) rfl hX rfl ?_
  refine V_if_eqN 18 7 C dX0_firstError_4 (by decide) rfl (by omega) (fun c4 => ?_) (fun c4 => ?_)
  · have hz : 0 = fer T N := (if_pos (by omega)).symm
    refine V_iconst 19 C dX0_firstError_18 rfl ic0 ?_
    refine V_ireturn C dX0_firstError_19 rfl rfl (by omega) (by omega) ?_
    exact ⟨by rw [← hz], rfl, ⟨a0, lt, g, hT⟩, fun _ _ => rfl⟩
  · obtain ⟨hf0, hT0⟩ := hch 0 (by omega)
    refine V_aload_n 8 C dX0_firstError_7 rfl rfl ?_
    refine V_get (k := 0) 11 C dX0_firstError_8 rfl fcX0 tw212 (by decide) rfl hX rfl ?_
    refine V_iconst 12 C dX0_firstError_11 rfl ic0 ?_
    refine V_cald (j := 0) 13 C dX0_firstError_12 rfl hf rfl (by omega) (by omega) ?_
    rw [hf0]
    refine V_bipush 15 C dX0_firstError_13 rfl bip70 ?_
    refine V_icmp_eqN 20 18 C dX0_firstError_15 (by decide) rfl (by omega) (by omega) (fun c15 => ?_) (fun c15 => ?_)
    · refine V_aload_n 21 C dX0_firstError_20 rfl rfl ?_
      refine V_iconst 22 C dX0_firstError_21 rfl ic1 ?_
      refine V_put (fs' := [_, _, _, _, _]) (k := 3) 25 C dX0_firstError_22 rfl fcX0 tw215 (by decide) rfl rfl hX rfl rfl (Nat.le_of_ble_eq_true rfl) rfl ?_
      refine V_iconst 26 C dX0_firstError_25 rfl ic1 ?_
      refine V_istore_n 27 C dX0_firstError_26 rfl (by decide) (L' := [(0, _), (1, _)]) rfl ?_
      have J27 : ∀ (fuel : Nat) (i p1 : Nat) (lt1 : Int32) (g1 : Nat → Int32) (hi1 : 1 ≤ i) (hi : i ≤ p1) (hp1 : p1 ≤ N) (hr : (rdt T N (N - p1) p1 (fun _ => 0) 0).1 = fer T N), N - i < fuel → V p₀ l e₀ (rmD 5 0 0) s₀ m₀ as₀ bl₀ me₀ c₀ (MQ bl₀ (Po G (Ri (nI (fer T N)) n (fun h' => (∃ a' lt' g', tx0 X T N a' lt' f g' h') ∧ ∀ a, (a < X ∨ X + 3 ≤ a) → h' a = h a))) as₀ s₀ 0 0 (rg G)) G 2 0 0 n (tH h X N p1 lt1 g1) 27 [(0, .ref X), (1, .int (nI i))] [] := by
        intro fuel
        induction fuel with
        | zero => intro i p1 lt1 g1 hi1 hi hp1 hr hf; omega
        | succ fuel ih27 =>
          intro i p1 lt1 g1 hi1 hi hp1 hr hf
          have hTA : tx X T N p1 lt1 f g1 (tH h X N p1 lt1 g1) := tH_tx0 hT g1 (by omega)
          obtain ⟨⟨hNA, hpNA⟩, hXA, hfA, hgA, hchA⟩ := id hTA
          refine V_iload_n 28 C dX0_firstError_27 rfl rfl ?_
          refine V_aload_n 29 C dX0_firstError_28 rfl rfl ?_
          refine V_get (k := 2) 32 C dX0_firstError_29 rfl fcX0 tw214 (by decide) rfl hXA rfl ?_
          refine V_icmp_geN 64 35 C dX0_firstError_32 (by decide) rfl (by omega) (by omega) (fun c32 => ?_) (fun c32 => ?_)
          · have hz : fer T N = NO := by rw [← hr, rdt_e (by omega)]
            have hpN1 := hp1
            refine V_iconst 65 C dX0_firstError_64 rfl icm1 ?_
            refine V_ireturn C dX0_firstError_65 rfl rfl (by omega) (by omega) ?_
            exact ⟨by rw [hz]; rfl, rfl, ⟨_, _, g1, tx_0 hTA⟩, fun a ha => tH_n (by omega) (by omega)⟩
          · refine V_aload_n 36 C dX0_firstError_35 rfl rfl ?_
            refine V_get (k := 3) 39 C dX0_firstError_36 rfl fcX0 tw215 (by decide) rfl hXA rfl ?_
            refine V_aload_n 40 C dX0_firstError_39 rfl rfl ?_
            refine V_get (k := 2) 43 C dX0_firstError_40 rfl fcX0 tw214 (by decide) rfl hXA rfl ?_
            refine V_icmp_geN 64 46 C dX0_firstError_43 (by decide) rfl (by omega) (by omega) (fun c43 => ?_) (fun c43 => ?_)
            · have hz : fer T N = NO := by rw [← hr, rdt_e (by omega)]
              have hpN1 := hp1
              refine V_iconst 65 C dX0_firstError_64 rfl icm1 ?_
              refine V_ireturn C dX0_firstError_65 rfl rfl (by omega) (by omega) ?_
              exact ⟨by rw [hz]; rfl, rfl, ⟨_, _, g1, tx_0 hTA⟩, fun a ha => tH_n (by omega) (by omega)⟩
            · refine V_aload_n 47 C dX0_firstError_46 rfl rfl ?_
              refine V_callV 50 C dX0_firstError_47 rfl mX0_readCommand tw267 fcX0 hXA (c_X0_readCommand l G _ _ X N p1 T lt1 f g1 hTA (by omega)) rfl rfl (by decide) ⟨by omega, by omega⟩ (Nat.le_of_ble_eq_true rfl) ?_
              rintro _ _ _ ⟨rfl, rfl, g2, rfl, hg2⟩
              rw [tH_tH]
              have hrp := rcm_p (T := T) (N := N) (p := p1) (by omega)
              refine V_if_neB 58 53 C dX0_firstError_50 (by decide) rfl  (fun c50 => ?_) (fun c50 => ?_)
              · obtain ⟨⟨a, b, c⟩, e1⟩ := Option.isSome_iff_exists.mp c50
                have e2 := hrp.2 _ e1
                have e3 : (rdt T N (N - (rcm T N p1).2) (rcm T N p1).2 (fun _ => 0) 0).1 = fer T N := by
                  rw [← hr, rdt_s (by omega) (by omega) e1]
                  rw [rdt_1 (y' := fun _ => 0) (o' := 0) (k := N - p1 - 1)]
                  exact rdt_k1 (by omega) (by omega)
                refine V_iinc 61 C dX0_firstError_58 rfl (by decide) rfl (ii1 _) (L' := [(0, _), (1, _)]) rfl ?_
                refine V_goto 27 C dX0_firstError_61 (by decide) ?_
                refine V_L [0, 1] rfl ?_
                exact ih27 (i + 1) _ _ g2 (by omega) (by omega) (by omega) e3 (by omega)
              · have e1 : (rcm T N p1).1 = none := by cases hc : (rcm T N p1).1 with | none => rfl | some v => exact absurd (by rw [hc]; rfl) c50
                have hz : fer T N = (rcm T N p1).2 := by rw [← hr, rdt_n (by omega) (by omega) e1]
                have hX2 := (tH_tx0 hT g2 hrp.1 (lt' := nI (T p1))).2.1
                refine V_aload_n 54 C dX0_firstError_53 rfl rfl ?_
                refine V_get (k := 3) 57 C dX0_firstError_54 rfl fcX0 tw215 (by decide) rfl hX2 rfl ?_
                refine V_ireturn C dX0_firstError_57 rfl rfl (by omega) (by omega) ?_
                exact ⟨by rw [hz], rfl, ⟨_, _, g2, tx_0 (tH_tx0 hT g2 hrp.1)⟩, fun a ha => tH_n (by omega) (by omega)⟩
      refine V_L [0, 1] rfl ?_
      rw [tH_ob0 hT]
      exact J27 (N + 1) 1 1 lt g (by omega) (by omega) (by omega) (by unfold fer; rw [if_neg (by omega)]; exact rdt_k1 (by omega) (by omega)) (by omega)
    · have hz : 0 = fer T N := (if_pos (by omega)).symm
      refine V_iconst 19 C dX0_firstError_18 rfl ic0 ?_
      refine V_ireturn C dX0_firstError_19 rfl rfl (by omega) (by omega) ?_
      exact ⟨by rw [← hz], rfl, ⟨a0, lt, g, hT⟩, fun _ _ => rfl⟩

theorem dX0_giveTo_0 : decode cX0_giveTo 0 = .ok (.iconst 0, 1) := by decide +kernel
theorem dX0_giveTo_1 : decode cX0_giveTo 1 = .ok (.istore_n 2, 1) := by decide +kernel
theorem dX0_giveTo_2 : decode cX0_giveTo 2 = .ok (.aload_n 0, 1) := by decide +kernel
theorem dX0_giveTo_3 : decode cX0_giveTo 3 = .ok (.iconst 1, 1) := by decide +kernel
theorem dX0_giveTo_4 : decode cX0_giveTo 4 = .ok (.putfield 23, 3) := by decide +kernel
theorem dX0_giveTo_7 : decode cX0_giveTo 7 = .ok (.iconst 1, 1) := by decide +kernel
theorem dX0_giveTo_8 : decode cX0_giveTo 8 = .ok (.istore_n 3, 1) := by decide +kernel
theorem dX0_giveTo_9 : decode cX0_giveTo 9 = .ok (.iload_n 3, 1) := by decide +kernel
theorem dX0_giveTo_10 : decode cX0_giveTo 10 = .ok (.aload_n 0, 1) := by decide +kernel
theorem dX0_giveTo_11 : decode cX0_giveTo 11 = .ok (.getfield 19, 3) := by decide +kernel
theorem dX0_giveTo_14 : decode cX0_giveTo 14 = .ok (.if_icmp .ge 38, 3) := by decide +kernel
theorem dX0_giveTo_17 : decode cX0_giveTo 17 = .ok (.aload_n 0, 1) := by decide +kernel
theorem dX0_giveTo_18 : decode cX0_giveTo 18 = .ok (.getfield 23, 3) := by decide +kernel
theorem dX0_giveTo_21 : decode cX0_giveTo 21 = .ok (.aload_n 0, 1) := by decide +kernel
theorem dX0_giveTo_22 : decode cX0_giveTo 22 = .ok (.getfield 19, 3) := by decide +kernel
theorem dX0_giveTo_25 : decode cX0_giveTo 25 = .ok (.if_icmp .ge 27, 3) := by decide +kernel
theorem dX0_giveTo_28 : decode cX0_giveTo 28 = .ok (.aload_n 0, 1) := by decide +kernel
theorem dX0_giveTo_29 : decode cX0_giveTo 29 = .ok (.invokevirtual 26, 3) := by decide +kernel
theorem dX0_giveTo_32 : decode cX0_giveTo 32 = .ok (.ifCond .eq 11, 3) := by decide +kernel
theorem dX0_giveTo_35 : decode cX0_giveTo 35 = .ok (.aload_n 0, 1) := by decide +kernel
theorem dX0_giveTo_36 : decode cX0_giveTo 36 = .ok (.aload_n 1, 1) := by decide +kernel
theorem dX0_giveTo_37 : decode cX0_giveTo 37 = .ok (.invokevirtual 30, 3) := by decide +kernel
theorem dX0_giveTo_40 : decode cX0_giveTo 40 = .ok (.ifCond .ne 6, 3) := by decide +kernel
theorem dX0_giveTo_43 : decode cX0_giveTo 43 = .ok (.iinc 2 1, 3) := by decide +kernel
theorem dX0_giveTo_46 : decode cX0_giveTo 46 = .ok (.iinc 3 1, 3) := by decide +kernel
theorem dX0_giveTo_49 : decode cX0_giveTo 49 = .ok (.goto (-40), 3) := by decide +kernel
theorem dX0_giveTo_52 : decode cX0_giveTo 52 = .ok (.iload_n 2, 1) := by decide +kernel
theorem dX0_giveTo_53 : decode cX0_giveTo 53 = .ok (.ireturn, 1) := by decide +kernel
set_option maxRecDepth 100000 in
set_option maxHeartbeats 4000000 in
theorem c_X0_giveTo (l : Launch) (G : GT) (n : Nat) (h : AH) (X N : Nat) (T : Nat → Nat) (a0 lt : Int32) (f g : Nat → Int32) (hT : tx0 X T N a0 lt f g h) (q : Nat) (y : Nat → Nat) (hC : cty q y h) (hI : Iv y) (hd : q + 32 ≤ X ∨ X + 3 ≤ q) (h1N : 1 ≤ N) (hfe : (rdt T N N 1 y 0).1 = NO) : Ct l yX0_giveTo cX0_giveTo 4 (some .int) 8 0 0 G n h [.ref X, .ref q] (Ri (nI (rdt T N N 1 y 0).2.2) n (fun h' => cty q (rdt T N N 1 y 0).2.1 h' ∧ Iv (rdt T N N 1 y 0).2.1 ∧ (∃ p' lt' g', tx X T N p' lt' f g' h') ∧ ∀ a, (a < X ∨ X + 3 ≤ a) → (a < q ∨ q + 32 ≤ a) → h' a = h a)) := by
  obtain ⟨hN, hX, hf, hg, hch⟩ := id hT
  have NE := NO_eq
  refine Ct_of mX0_giveTo.1 (Nat.le_of_ble_eq_true rfl) ?_
  intro p₀ e₀ s₀ m₀ as₀ bl₀ me₀ c₀ C hin
  refine V_Le (L' := [(0, .ref X), (1, .ref q)]) rfl ?_
  refine V_iconst 1 C dX0_giveTo_0 rfl ic0 ?_
  refine V_istore_n 2 C dX0_giveTo_1 rfl (by decide) (L' := [(0, _), (1, _), (2, _)]) rfl ?_
  refine V_aload_n 3 C dX0_giveTo_2 rfl rfl ?_
  refine V_iconst 4 C dX0_giveTo_3 rfl ic1 ?_
  refine V_put (fs' := [_, _, _, _, _]) (k := 3) 7 C dX0_giveTo_4 rfl fcX0 tw215 (by decide) rfl rfl hX rfl rfl (Nat.le_of_ble_eq_true rfl) rfl ?_
  refine V_iconst 8 C dX0_giveTo_7 rfl ic1 ?_
  refine V_istore_n 9 C dX0_giveTo_8 rfl (by decide) (L' := [(0, _), (1, _), (2, _), (3, _)]) rfl ?_
  have J9 : ∀ (fuel : Nat) (i p1 o1 : Nat) (lt1 : Int32) (g1 : Nat → Int32) (y1 : Nat → Nat) (h1 : AH) (hi1 : 1 ≤ i) (hi : i ≤ p1) (hT1 : tx X T N p1 lt1 f g1 h1) (hC1 : cty q y1 h1) (hI1 : Iv y1) (hr : rdt T N (N - p1) p1 y1 o1 = rdt T N N 1 y 0) (hF1 : ∀ a, (a < X ∨ X + 3 ≤ a) → (a < q ∨ q + 32 ≤ a) → h1 a = h a), N - i < fuel → V p₀ l e₀ (rmD 8 0 0) s₀ m₀ as₀ bl₀ me₀ c₀ (MQ bl₀ (Po G (Ri (nI (rdt T N N 1 y 0).2.2) n (fun h' => cty q (rdt T N N 1 y 0).2.1 h' ∧ Iv (rdt T N N 1 y 0).2.1 ∧ (∃ p' lt' g', tx X T N p' lt' f g' h') ∧ ∀ a, (a < X ∨ X + 3 ≤ a) → (a < q ∨ q + 32 ≤ a) → h' a = h a))) as₀ s₀ 0 0 (rg G)) G 4 0 0 n h1 9 [(0, .ref X), (1, .ref q), (2, .int (nI o1)), (3, .int (nI i))] [] := by
    intro fuel
    induction fuel with
    | zero => intro i p1 o1 lt1 g1 y1 h1 hi1 hi hT1 hC1 hI1 hr hF1 hf; omega
    | succ fuel ih9 =>
      intro i p1 o1 lt1 g1 y1 h1 hi1 hi hT1 hC1 hI1 hr hF1 hf
      obtain ⟨⟨hNA, hpNA⟩, hXA, hfA, hgA, hchA⟩ := id hT1
      refine V_iload_n 10 C dX0_giveTo_9 rfl rfl ?_
      refine V_aload_n 11 C dX0_giveTo_10 rfl rfl ?_
      refine V_get (k := 2) 14 C dX0_giveTo_11 rfl fcX0 tw214 (by decide) rfl hXA rfl ?_
      refine V_icmp_geN 52 17 C dX0_giveTo_14 (by decide) rfl (by omega) (by omega) (fun c14 => ?_) (fun c14 => ?_)
      · have hz : rdt T N N 1 y 0 = (NO, y1, o1) := by rw [← hr, rdt_e (by omega)]
        refine V_iload_n 53 C dX0_giveTo_52 rfl rfl ?_
        refine V_ireturn C dX0_giveTo_53 rfl rfl (by omega) (by omega) ?_
        exact ⟨by rw [hz], rfl, by rw [hz]; exact hC1, by rw [hz]; exact hI1, ⟨p1, lt1, g1, hT1⟩, hF1⟩
      · refine V_aload_n 18 C dX0_giveTo_17 rfl rfl ?_
        refine V_get (k := 3) 21 C dX0_giveTo_18 rfl fcX0 tw215 (by decide) rfl hXA rfl ?_
        refine V_aload_n 22 C dX0_giveTo_21 rfl rfl ?_
        refine V_get (k := 2) 25 C dX0_giveTo_22 rfl fcX0 tw214 (by decide) rfl hXA rfl ?_
        refine V_icmp_geN 52 28 C dX0_giveTo_25 (by decide) rfl (by omega) (by omega) (fun c25 => ?_) (fun c25 => ?_)
        · have hz : rdt T N N 1 y 0 = (NO, y1, o1) := by rw [← hr, rdt_e (by omega)]
          refine V_iload_n 53 C dX0_giveTo_52 rfl rfl ?_
          refine V_ireturn C dX0_giveTo_53 rfl rfl (by omega) (by omega) ?_
          exact ⟨by rw [hz], rfl, by rw [hz]; exact hC1, by rw [hz]; exact hI1, ⟨p1, lt1, g1, hT1⟩, hF1⟩
        · refine V_aload_n 29 C dX0_giveTo_28 rfl rfl ?_
          refine V_callV 32 C dX0_giveTo_29 rfl mX0_readCommand tw267 fcX0 hXA (c_X0_readCommand l G _ _ X N p1 T lt1 f g1 hT1 (by omega)) rfl rfl (by decide) ⟨by omega, by omega⟩ (Nat.le_of_ble_eq_true rfl) ?_
          rintro _ _ _ ⟨rfl, rfl, g2, rfl, hg2⟩
          have hrp := rcm_p (T := T) (N := N) (p := p1) (by omega)
          have hT2 : tx X T N (rcm T N p1).2 (nI (T p1)) f g2 (tH h1 X N (rcm T N p1).2 (nI (T p1)) g2) := tH_tx hT1 g2 hrp.1
          have hC2 : cty q y1 (tH h1 X N (rcm T N p1).2 (nI (T p1)) g2) := hC1.fr (fun a g1 g2 => tH_n (by omega) (by omega))
          have hF2 : ∀ a, (a < X ∨ X + 3 ≤ a) → (a < q ∨ q + 32 ≤ a) → (tH h1 X N (rcm T N p1).2 (nI (T p1)) g2) a = h a := fun a g1 g2 => (tH_n (by omega) (by omega)).trans (hF1 a g1 g2)
          refine V_if_eqB 43 35 C dX0_giveTo_32 (by decide) rfl  (fun c32 => ?_) (fun c32 => ?_)
          · exfalso
            have e1 : (rcm T N p1).1 = none := by cases hc : (rcm T N p1).1 with | none => rfl | some v => exact absurd (by rw [hc]; rfl) c32
            rw [← hr, rdt_n (by omega) (by omega) e1] at hfe
            have := hrp.1
            have hfe' : (rcm T N p1).2 = NO := hfe
            omega
          · obtain ⟨⟨a, b, c⟩, e1⟩ := Option.isSome_iff_exists.mp c32
            have e2 := hrp.2 _ e1
            have e3 := (rdt_s (y := y1) (o := o1) (k := N - p1) (by omega) (by omega) e1).symm.trans hr
            refine V_aload_n 36 C dX0_giveTo_35 rfl rfl ?_
            refine V_aload_n 37 C dX0_giveTo_36 rfl rfl ?_
            refine V_callV 40 C dX0_giveTo_37 rfl mX0_giveCommandTo tw416 fcX0 hT2.2.1 (c_X0_giveCommandTo l G _ _ X N _ (T p1) T f g2 hT2 q y1 hC2 hI1 hd a b c (hg2 a b c e1) (rcm_L e1)) rfl rfl (by decide) ⟨by omega, by omega⟩ (Nat.le_of_ble_eq_true rfl) ?_
            rintro _ _ h3 ⟨rfl, rfl, hC3, hF3'⟩
            have hT3 := tH_fr hT2 (fun a g1 g2 => hF3' a (by omega))
            have hF3 : ∀ a, (a < X ∨ X + 3 ≤ a) → (a < q ∨ q + 32 ≤ a) → h3 a = h a := fun a g1 g2 => (hF3' a (by omega)).trans (hF2 a g1 g2)
            refine V_if_neB 46 43 C dX0_giveTo_40 (by decide) rfl  (fun c40 => ?_) (fun c40 => ?_)
            · have e4 : rdt T N (N - (rcm T N p1).2) (rcm T N p1).2 (gv (T p1) a b c y1).2 o1 = rdt T N N 1 y 0 := by
                rw [← e3, show bp ((gv (T p1) a b c y1).1 = false) = 0 from bp_f (by rw [c40]; exact fun e => by cases e), Nat.add_zero]
                exact rdt_k (by omega) (by omega)
              refine V_iinc 49 C dX0_giveTo_46 rfl (by decide) rfl (ii1 _) (L' := [(0, _), (1, _), (2, _), (3, _)]) rfl ?_
              refine V_goto 9 C dX0_giveTo_49 (by decide) ?_
              refine V_L [0, 1, 2, 3] rfl ?_
              exact ih9 (i + 1) _ _ _ g2 _ h3 (by omega) (by omega) hT3 hC3 (Iv_gv hI1 _ _ _ _) e4 hF3 (by omega)
            · have e4 : rdt T N (N - (rcm T N p1).2) (rcm T N p1).2 (gv (T p1) a b c y1).2 (o1 + 1) = rdt T N N 1 y 0 := by
                rw [← e3, show bp ((gv (T p1) a b c y1).1 = false) = 1 from bp_t (by cases hc : (gv (T p1) a b c y1).1 with | false => rfl | true => exact absurd hc c40)]
                exact rdt_k (by omega) (by omega)
              refine V_iinc 46 C dX0_giveTo_43 rfl (by decide) rfl (ii1 _) (L' := [(0, _), (1, _), (2, _), (3, _)]) rfl ?_
              refine V_iinc 49 C dX0_giveTo_46 rfl (by decide) rfl (ii1 _) (L' := [(0, _), (1, _), (2, _), (3, _)]) rfl ?_
              refine V_goto 9 C dX0_giveTo_49 (by decide) ?_
              refine V_L [0, 1, 2, 3] rfl ?_
              exact ih9 (i + 1) _ _ _ g2 _ h3 (by omega) (by omega) hT3 hC3 (Iv_gv hI1 _ _ _ _) e4 hF3 (by omega)
  refine V_L [0, 1, 2, 3] rfl ?_
  exact J9 (N + 1) 1 1 0 lt g y _ (by omega) (by omega) (by rw [tH_ob0 hT]; exact tH_tx0 hT g h1N) (hC.fr (fun a g1 g2 => up_n _ (by omega))) hI (rdt_k (by omega) (by omega)) (fun a g1 g2 => up_n _ (by omega)) (by omega)

