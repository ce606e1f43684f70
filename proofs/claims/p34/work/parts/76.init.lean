/-! THE CONSTRUCTORS -/
theorem vup_to {f : Nat → Option Nat} {i b w : Nat} (hf : ∀ j, j < i → f j = some (b + w * j)) : ∀ j, j < i + 1 → va_up f i (some (b + w * i)) j = some (b + w * j) := by
  intro j hj
  by_cases e : j = i
  · rw [e]; exact if_pos rfl
  · exact (if_neg e).trans (hf j (by omega))
theorem vup_1 {f : Nat → Option Nat} {i b : Nat} (hf : ∀ j, j < i → f j = some (b + j)) : ∀ j, j < i + 1 → va_up f i (some (b + i)) j = some (b + j) := by
  intro j hj
  by_cases e : j = i
  · rw [e]; exact if_pos rfl
  · exact (if_neg e).trans (hf j (by omega))
theorem nc_to {h1 : AH} {b i a : Nat} {x y : AE} (hc : ∀ j, j < i → h1 (b + j) = some x) (ha : a < b) : ∀ j, j < i + 1 → up (up h1 (b + i) x) a y (b + j) = some x := by
  intro j hj
  rw [up_n _ (by omega)]
  by_cases e : j = i
  · rw [e]; exact up_s _ _ _
  · rw [up_n _ (by omega)]; exact hc j (by omega)
abbrev rfA (t N : Nat) (f : Nat → Option Nat) : AE := .inl (t, N, .inr (.inr (.inr (.inr f))))
def rdC (q : Nat) (h : AH) : Prop := (∃ f : Nat → Option Nat, h (q + 1) = some (rfA 5 10 f) ∧ ∀ i, i < 10 → f i = some (q + 2 + i)) ∧ ∀ i, i < 10 → h (q + 2 + i) = some (c3 4 0 0 0)
def ruC (q : Nat) (h : AH) : Prop := (∃ f : Nat → Option Nat, h (q + 12) = some (rfA 6 5 f) ∧ ∀ i, i < 5 → f i = some (q + 13 + i)) ∧ ∀ i, i < 5 → h (q + 13 + i) = some (c3 5 0 0 0)
theorem rdC.up {q a : Nat} {h : AH} (hR : rdC q h) (x : AE) (ha : a = q ∨ q + 12 ≤ a) : rdC q (up h a x) := by
  obtain ⟨⟨f, h1, h2⟩, h3⟩ := hR
  exact ⟨⟨f, (up_n _ (by omega)).trans h1, h2⟩, fun i hi => (up_n _ (by omega)).trans (h3 i hi)⟩
theorem ruC.up {q a : Nat} {h : AH} (hR : ruC q h) (x : AE) (ha : a = q ∨ q + 18 ≤ a) : ruC q (up h a x) := by
  obtain ⟨⟨f, h1, h2⟩, h3⟩ := hR
  exact ⟨⟨f, (up_n _ (by omega)).trans h1, h2⟩, fun i hi => (up_n _ (by omega)).trans (h3 i hi)⟩
abbrev obI (a b c d : Value) : AE := .inr (1, [.int (nI 0), .int (nI 0), .int (nI 0), .int (nI 0), .int (nI 0), .int (nI 0), .int (nI 0), a, b, c, d])
theorem cty_new {q : Nat} {h : AH} {f : Nat → Option Nat} (hO : h q = some (obI (.ref (q + 1)) (.ref (q + 12)) (.ref (q + 18)) (.ref (q + 19)))) (hR : rdC q h) (hU : ruC q h) (hM : h (q + 18) = some (.inl (0, 6, .inl (fun _ => nI 0)))) (hA : h (q + 19) = some (rfA 7 12 f)) (hf : ∀ i, i < 12 → f i = some (q + 20 + i)) (hc : ∀ i, i < 12 → h (q + 20 + i) = some (c6 0 0 0 0 0 0)) : cty q (fun _ => 0) h := by
  refine ⟨hO, hR.1, hU.1, ⟨f, hA, hf⟩, ⟨_, hM, fun i hi => absurd hi (Nat.not_lt_zero i)⟩, fun i hi => ⟨nI 0, nI 0, nI 0, hR.2 i hi, fun e => absurd e (Nat.not_lt_zero i)⟩, fun i hi => ⟨nI 0, nI 0, nI 0, hU.2 i hi, fun e => absurd e (Nat.not_lt_zero i)⟩, fun i hi => ⟨nI 0, nI 0, nI 0, nI 0, nI 0, nI 0, hc i hi, fun e => absurd e (Nat.not_lt_zero i)⟩⟩
theorem dX5_init_0 : decode cX5_init 0 = .ok (.aload_n 0, 1) := by decide +kernel
theorem dX5_init_1 : decode cX5_init 1 = .ok (.invokespecial 1, 3) := by decide +kernel
theorem dX5_init_4 : decode cX5_init 4 = .ok (.return_, 1) := by decide +kernel
set_option maxRecDepth 100000 in
set_option maxHeartbeats 4000000 in
theorem c_X5_init (l : Launch) (G : GT) (n : Nat) (h : AH) (a : Nat) : Ct l yX5_init cX5_init 1 none 1 0 0 G n h [.ref a] (Rv n (fun h' => h' = h)) := by
  refine Ct_of mX5_init.1 (Nat.le_of_ble_eq_true rfl) ?_
  intro p₀ e₀ s₀ m₀ as₀ bl₀ me₀ c₀ C hin
  refine V_Le (L' := [(0, .ref a)]) rfl ?_
  refine V_aload_n 1 C dX5_init_0 rfl rfl ?_
  refine V_objInit 4 C dX5_init_1 rfl (tb_in 56 (by decide +kernel) (by decide +kernel)) (by decide) ?_
  refine V_return C dX5_init_4 rfl (by omega) (by omega) ?_
  exact ⟨rfl, rfl, rfl⟩

theorem dX6_init_0 : decode cX6_init 0 = .ok (.aload_n 0, 1) := by decide +kernel
theorem dX6_init_1 : decode cX6_init 1 = .ok (.invokespecial 1, 3) := by decide +kernel
theorem dX6_init_4 : decode cX6_init 4 = .ok (.return_, 1) := by decide +kernel
set_option maxRecDepth 100000 in
set_option maxHeartbeats 4000000 in
theorem c_X6_init (l : Launch) (G : GT) (n : Nat) (h : AH) (a : Nat) : Ct l yX6_init cX6_init 1 none 1 0 0 G n h [.ref a] (Rv n (fun h' => h' = h)) := by
  refine Ct_of mX6_init.1 (Nat.le_of_ble_eq_true rfl) ?_
  intro p₀ e₀ s₀ m₀ as₀ bl₀ me₀ c₀ C hin
  refine V_Le (L' := [(0, .ref a)]) rfl ?_
  refine V_aload_n 1 C dX6_init_0 rfl rfl ?_
  refine V_objInit 4 C dX6_init_1 rfl (tb_in 82 (by decide +kernel) (by decide +kernel)) (by decide) ?_
  refine V_return C dX6_init_4 rfl (by omega) (by omega) ?_
  exact ⟨rfl, rfl, rfl⟩

theorem dX8_init_0 : decode cX8_init 0 = .ok (.aload_n 0, 1) := by decide +kernel
theorem dX8_init_1 : decode cX8_init 1 = .ok (.invokespecial 3, 3) := by decide +kernel
theorem dX8_init_4 : decode cX8_init 4 = .ok (.return_, 1) := by decide +kernel
set_option maxRecDepth 100000 in
set_option maxHeartbeats 4000000 in
theorem c_X8_init (l : Launch) (G : GT) (n : Nat) (h : AH) (a : Nat) : Ct l yX8_init cX8_init 1 none 1 0 0 G n h [.ref a] (Rv n (fun h' => h' = h)) := by
  refine Ct_of mX8_init.1 (Nat.le_of_ble_eq_true rfl) ?_
  intro p₀ e₀ s₀ m₀ as₀ bl₀ me₀ c₀ C hin
  refine V_Le (L' := [(0, .ref a)]) rfl ?_
  refine V_aload_n 1 C dX8_init_0 rfl rfl ?_
  refine V_objInit 4 C dX8_init_1 rfl (tb_in 105 (by decide +kernel) (by decide +kernel)) (by decide) ?_
  refine V_return C dX8_init_4 rfl (by omega) (by omega) ?_
  exact ⟨rfl, rfl, rfl⟩

theorem dX1_init_0 : decode cX1_init 0 = .ok (.aload_n 0, 1) := by decide +kernel
theorem dX1_init_1 : decode cX1_init 1 = .ok (.invokespecial 3, 3) := by decide +kernel
theorem dX1_init_4 : decode cX1_init 4 = .ok (.aload_n 0, 1) := by decide +kernel
theorem dX1_init_5 : decode cX1_init 5 = .ok (.bipush 10, 2) := by decide +kernel
theorem dX1_init_7 : decode cX1_init 7 = .ok (.anewarray 9, 3) := by decide +kernel
theorem dX1_init_10 : decode cX1_init 10 = .ok (.putfield 11, 3) := by decide +kernel
theorem dX1_init_13 : decode cX1_init 13 = .ok (.iconst 0, 1) := by decide +kernel
theorem dX1_init_14 : decode cX1_init 14 = .ok (.istore_n 1, 1) := by decide +kernel
theorem dX1_init_15 : decode cX1_init 15 = .ok (.iload_n 1, 1) := by decide +kernel
theorem dX1_init_16 : decode cX1_init 16 = .ok (.bipush 10, 2) := by decide +kernel
theorem dX1_init_18 : decode cX1_init 18 = .ok (.if_icmp .ge 22, 3) := by decide +kernel
theorem dX1_init_21 : decode cX1_init 21 = .ok (.aload_n 0, 1) := by decide +kernel
theorem dX1_init_22 : decode cX1_init 22 = .ok (.getfield 11, 3) := by decide +kernel
theorem dX1_init_25 : decode cX1_init 25 = .ok (.iload_n 1, 1) := by decide +kernel
theorem dX1_init_26 : decode cX1_init 26 = .ok (.new 9, 3) := by decide +kernel
theorem dX1_init_29 : decode cX1_init 29 = .ok (.dup, 1) := by decide +kernel
theorem dX1_init_30 : decode cX1_init 30 = .ok (.invokespecial 17, 3) := by decide +kernel
theorem dX1_init_33 : decode cX1_init 33 = .ok (.aastore, 1) := by decide +kernel
theorem dX1_init_34 : decode cX1_init 34 = .ok (.iinc 1 1, 3) := by decide +kernel
theorem dX1_init_37 : decode cX1_init 37 = .ok (.goto (-22), 3) := by decide +kernel
theorem dX1_init_40 : decode cX1_init 40 = .ok (.aload_n 0, 1) := by decide +kernel
theorem dX1_init_41 : decode cX1_init 41 = .ok (.iconst 5, 1) := by decide +kernel
theorem dX1_init_42 : decode cX1_init 42 = .ok (.anewarray 18, 3) := by decide +kernel
theorem dX1_init_45 : decode cX1_init 45 = .ok (.putfield 20, 3) := by decide +kernel
theorem dX1_init_48 : decode cX1_init 48 = .ok (.iconst 0, 1) := by decide +kernel
theorem dX1_init_49 : decode cX1_init 49 = .ok (.istore_n 1, 1) := by decide +kernel
theorem dX1_init_50 : decode cX1_init 50 = .ok (.iload_n 1, 1) := by decide +kernel
theorem dX1_init_51 : decode cX1_init 51 = .ok (.iconst 5, 1) := by decide +kernel
theorem dX1_init_52 : decode cX1_init 52 = .ok (.if_icmp .ge 22, 3) := by decide +kernel
theorem dX1_init_55 : decode cX1_init 55 = .ok (.aload_n 0, 1) := by decide +kernel
theorem dX1_init_56 : decode cX1_init 56 = .ok (.getfield 20, 3) := by decide +kernel
theorem dX1_init_59 : decode cX1_init 59 = .ok (.iload_n 1, 1) := by decide +kernel
theorem dX1_init_60 : decode cX1_init 60 = .ok (.new 18, 3) := by decide +kernel
theorem dX1_init_63 : decode cX1_init 63 = .ok (.dup, 1) := by decide +kernel
theorem dX1_init_64 : decode cX1_init 64 = .ok (.invokespecial 24, 3) := by decide +kernel
theorem dX1_init_67 : decode cX1_init 67 = .ok (.aastore, 1) := by decide +kernel
theorem dX1_init_68 : decode cX1_init 68 = .ok (.iinc 1 1, 3) := by decide +kernel
theorem dX1_init_71 : decode cX1_init 71 = .ok (.goto (-21), 3) := by decide +kernel
theorem dX1_init_74 : decode cX1_init 74 = .ok (.aload_n 0, 1) := by decide +kernel
theorem dX1_init_75 : decode cX1_init 75 = .ok (.bipush 6, 2) := by decide +kernel
theorem dX1_init_77 : decode cX1_init 77 = .ok (.newarray .int, 2) := by decide +kernel
theorem dX1_init_79 : decode cX1_init 79 = .ok (.putfield 25, 3) := by decide +kernel
theorem dX1_init_82 : decode cX1_init 82 = .ok (.aload_n 0, 1) := by decide +kernel
theorem dX1_init_83 : decode cX1_init 83 = .ok (.bipush 12, 2) := by decide +kernel
theorem dX1_init_85 : decode cX1_init 85 = .ok (.anewarray 29, 3) := by decide +kernel
theorem dX1_init_88 : decode cX1_init 88 = .ok (.putfield 31, 3) := by decide +kernel
theorem dX1_init_91 : decode cX1_init 91 = .ok (.iconst 0, 1) := by decide +kernel
theorem dX1_init_92 : decode cX1_init 92 = .ok (.istore_n 1, 1) := by decide +kernel
theorem dX1_init_93 : decode cX1_init 93 = .ok (.iload_n 1, 1) := by decide +kernel
theorem dX1_init_94 : decode cX1_init 94 = .ok (.bipush 12, 2) := by decide +kernel
theorem dX1_init_96 : decode cX1_init 96 = .ok (.if_icmp .ge 22, 3) := by decide +kernel
theorem dX1_init_99 : decode cX1_init 99 = .ok (.aload_n 0, 1) := by decide +kernel
theorem dX1_init_100 : decode cX1_init 100 = .ok (.getfield 31, 3) := by decide +kernel
theorem dX1_init_103 : decode cX1_init 103 = .ok (.iload_n 1, 1) := by decide +kernel
theorem dX1_init_104 : decode cX1_init 104 = .ok (.new 29, 3) := by decide +kernel
theorem dX1_init_107 : decode cX1_init 107 = .ok (.dup, 1) := by decide +kernel
theorem dX1_init_108 : decode cX1_init 108 = .ok (.invokespecial 35, 3) := by decide +kernel
theorem dX1_init_111 : decode cX1_init 111 = .ok (.aastore, 1) := by decide +kernel
theorem dX1_init_112 : decode cX1_init 112 = .ok (.iinc 1 1, 3) := by decide +kernel
theorem dX1_init_115 : decode cX1_init 115 = .ok (.goto (-22), 3) := by decide +kernel
theorem dX1_init_118 : decode cX1_init 118 = .ok (.return_, 1) := by decide +kernel
set_option maxRecDepth 100000 in
set_option maxHeartbeats 4000000 in
theorem c_X1_init (l : Launch) (G : GT) (n : Nat) (h : AH) (q : Nat) (hn : n = q + 1) (hob : h q = some (obI .null .null .null .null)) : Ct l yX1_init cX1_init 2 none 2 31 150 G n h [.ref q] (fun v n' h' => v = none ∧ n' = q + 32 ∧ cty q (fun _ => 0) h' ∧ FR q h h') := by
  subst hn
  refine Ct_of mX1_init.1 (Nat.le_of_ble_eq_true rfl) ?_
  intro p₀ e₀ s₀ m₀ as₀ bl₀ me₀ c₀ C hin
  refine V_Le (L' := [(0, .ref q)]) rfl ?_
  refine V_aload_n 1 C dX1_init_0 rfl rfl ?_
  refine V_objInit 4 C dX1_init_1 rfl (tb_in 49 (by decide +kernel) (by decide +kernel)) (by decide) ?_
  refine V_aload_n 5 C dX1_init_4 rfl rfl ?_
  refine V_bipush 7 C dX1_init_5 rfl bip10 ?_
  refine V_anewarr 10 C 5 dX1_init_7 rfl tw33 (by decide) rfl (by decide) ⟨by show _ ≤ 31; omega, by show _ ≤ 150; omega⟩ ?_
  refine V_putF (fs' := [_, _, _, _, _, _, _, _, _, _, _]) (k := 7) 13 C (hin rfl) dX1_init_10 rfl fcX1 tw137 (by decide) rfl rfl rfl ((up_n _ (by omega)).trans hob) rfl rfl (Nat.le_of_ble_eq_true rfl) rfl ?_
  refine V_iconst 14 C dX1_init_13 rfl ic0 ?_
  refine V_istore_n 15 C dX1_init_14 rfl (by decide) (L' := [(0, _), (1, _)]) rfl ?_
  have J15 : ∀ (fuel : Nat) (i9 : Nat) (f9 : Nat → Option Nat) (h1 : AH) (hi9 : i9 ≤ 10) (hO : h1 q = some (obI (.ref (q + 1)) (.null) (.null) (.null))) (hA : h1 (q + 1) = some (rfA 5 10 f9)) (hff : ∀ j, j < i9 → f9 j = some (q + 2 + j)) (hc : ∀ j, j < i9 → h1 (q + 2 + j) = some (c3 4 0 0 0)) (hF : FR q h h1), 10 - i9 < fuel → V p₀ l e₀ (rmD 2 31 150) s₀ m₀ as₀ bl₀ me₀ c₀ (MQ bl₀ (Po G (fun v n' h' => v = none ∧ n' = q + 32 ∧ cty q (fun _ => 0) h' ∧ FR q h h')) as₀ s₀ 31 150 (rg G)) G 2 (1 + i9) (10 + 3 * i9) (q + 2 + i9) h1 15 [(0, .ref q), (1, .int (nI i9))] [] := by
    intro fuel
    induction fuel with
    | zero => intro i9 f9 h1 hi9 hO hA hff hc hF hf; omega
    | succ fuel ih15 =>
      intro i9 f9 h1 hi9 hO hA hff hc hF hf
      refine V_iload_n 16 C dX1_init_15 rfl rfl ?_
      refine V_bipush 18 C dX1_init_16 rfl bip10 ?_
      refine V_icmp_geN 40 21 C dX1_init_18 (by decide) rfl (by omega) (by omega) (fun c18 => ?_) (fun c18 => ?_)
      · have ei : i9 = 10 := by omega
        subst ei
        refine V_aload_n 41 C dX1_init_40 rfl rfl ?_
        refine V_iconst 42 C dX1_init_41 rfl ic5 ?_
        refine V_anewarr 45 C 6 dX1_init_42 rfl tw59 (by decide) rfl (by decide) ⟨by show _ ≤ 31; omega, by show _ ≤ 150; omega⟩ ?_
        refine V_putF (fs' := [_, _, _, _, _, _, _, _, _, _, _]) (k := 8) 48 C (hin rfl) dX1_init_45 rfl fcX1 tw140 (by decide) rfl rfl rfl ((up_n _ (by omega)).trans hO) rfl rfl (Nat.le_of_ble_eq_true rfl) rfl ?_
        refine V_iconst 49 C dX1_init_48 rfl ic0 ?_
        refine V_istore_n 50 C dX1_init_49 rfl (by decide) (L' := [(0, _), (1, _)]) rfl ?_
        have J50 : ∀ (fuel : Nat) (i9 : Nat) (f9 : Nat → Option Nat) (h1 : AH) (hi9 : i9 ≤ 5) (hO : h1 q = some (obI (.ref (q + 1)) (.ref (q + 12)) (.null) (.null))) (hA : h1 (q + 12) = some (rfA 6 5 f9)) (hff : ∀ j, j < i9 → f9 j = some (q + 13 + j)) (hc : ∀ j, j < i9 → h1 (q + 13 + j) = some (c3 5 0 0 0)) (hF : FR q h h1) (hR : rdC q h1), 5 - i9 < fuel → V p₀ l e₀ (rmD 2 31 150) s₀ m₀ as₀ bl₀ me₀ c₀ (MQ bl₀ (Po G (fun v n' h' => v = none ∧ n' = q + 32 ∧ cty q (fun _ => 0) h' ∧ FR q h h')) as₀ s₀ 31 150 (rg G)) G 2 (12 + i9) (45 + 3 * i9) (q + 13 + i9) h1 50 [(0, .ref q), (1, .int (nI i9))] [] := by
          intro fuel
          induction fuel with
          | zero => intro i9 f9 h1 hi9 hO hA hff hc hF hR hf; omega
          | succ fuel ih50 =>
            intro i9 f9 h1 hi9 hO hA hff hc hF hR hf
            refine V_iload_n 51 C dX1_init_50 rfl rfl ?_
            refine V_iconst 52 C dX1_init_51 rfl ic5 ?_
            refine V_icmp_geN 74 55 C dX1_init_52 (by decide) rfl (by omega) (by omega) (fun c52 => ?_) (fun c52 => ?_)
            · have ei : i9 = 5 := by omega
              subst ei
              refine V_aload_n 75 C dX1_init_74 rfl rfl ?_
              refine V_bipush 77 C dX1_init_75 rfl bip6 ?_
              refine V_newarr 79 C 0 (6, .inl (fun _ => nI 0)) dX1_init_77 rfl rfl tw121 rfl (fun _ => rfl) (by decide) ⟨by show _ ≤ 31; omega, by show _ ≤ 150; omega⟩ ?_
              refine V_putF (fs' := [_, _, _, _, _, _, _, _, _, _, _]) (k := 9) 82 C (hin rfl) dX1_init_79 rfl fcX1 tw143 (by decide) rfl rfl rfl ((up_n _ (by omega)).trans hO) rfl rfl (Nat.le_of_ble_eq_true rfl) rfl ?_
              refine V_aload_n 83 C dX1_init_82 rfl rfl ?_
              refine V_bipush 85 C dX1_init_83 rfl bip12 ?_
              refine V_anewarr 88 C 7 dX1_init_85 rfl tw82 (by decide) rfl (by decide) ⟨by show _ ≤ 31; omega, by show _ ≤ 150; omega⟩ ?_
              refine V_putF (fs' := [_, _, _, _, _, _, _, _, _, _, _]) (k := 10) 91 C (hin rfl) dX1_init_88 rfl fcX1 tw145 (by decide) rfl rfl rfl ((up_n _ (by omega)).trans (up_s _ _ _)) rfl rfl (Nat.le_of_ble_eq_true rfl) rfl ?_
              refine V_iconst 92 C dX1_init_91 rfl ic0 ?_
              refine V_istore_n 93 C dX1_init_92 rfl (by decide) (L' := [(0, _), (1, _)]) rfl ?_
              have J93 : ∀ (fuel : Nat) (i9 : Nat) (f9 : Nat → Option Nat) (h1 : AH) (hi9 : i9 ≤ 12) (hO : h1 q = some (obI (.ref (q + 1)) (.ref (q + 12)) (.ref (q + 18)) (.ref (q + 19)))) (hA : h1 (q + 19) = some (rfA 7 12 f9)) (hff : ∀ j, j < i9 → f9 j = some (q + 20 + j)) (hc : ∀ j, j < i9 → h1 (q + 20 + j) = some (c6 0 0 0 0 0 0)) (hF : FR q h h1) (hR : rdC q h1) (hU : ruC q h1) (hM : h1 (q + 18) = some (.inl (0, 6, .inl (fun _ => nI 0)))), 12 - i9 < fuel → V p₀ l e₀ (rmD 2 31 150) s₀ m₀ as₀ bl₀ me₀ c₀ (MQ bl₀ (Po G (fun v n' h' => v = none ∧ n' = q + 32 ∧ cty q (fun _ => 0) h' ∧ FR q h h')) as₀ s₀ 31 150 (rg G)) G 2 (19 + i9) (78 + 6 * i9) (q + 20 + i9) h1 93 [(0, .ref q), (1, .int (nI i9))] [] := by
                intro fuel
                induction fuel with
                | zero => intro i9 f9 h1 hi9 hO hA hff hc hF hR hU hM hf; omega
                | succ fuel ih93 =>
                  intro i9 f9 h1 hi9 hO hA hff hc hF hR hU hM hf
                  refine V_iload_n 94 C dX1_init_93 rfl rfl ?_
                  refine V_bipush 96 C dX1_init_94 rfl bip12 ?_
                  refine V_icmp_geN 118 99 C dX1_init_96 (by decide) rfl (by omega) (by omega) (fun c96 => ?_) (fun c96 => ?_)
                  · have ei : i9 = 12 := by omega
                    subst ei
                    refine V_return C dX1_init_118 rfl (by omega) (by omega) ?_
                    exact ⟨rfl, by omega, cty_new hO hR hU hM hA hff hc, hF⟩
                  · refine V_aload_n 100 C dX1_init_99 rfl rfl ?_
                    refine V_get (k := 10) 103 C dX1_init_100 rfl fcX1 tw145 (by decide) rfl hO rfl ?_
                    refine V_iload_n 104 C dX1_init_103 rfl rfl ?_
                    refine V_new 107 C [.int (nI 0), .int (nI 0), .int (nI 0), .int (nI 0), .int (nI 0), .int (nI 0)] dX1_init_104 rfl fcX8 tw82 tw84 tw5 (by decide +kernel) ⟨by show _ ≤ 31; omega, by show _ ≤ 150; omega⟩ ?_
                    refine V_dup 108 C dX1_init_107 rfl rfl ?_
                    refine V_callIN (host := RX9) 111 C dX1_init_108 rfl rfl mX8_init (by decide +kernel) (c_X8_init l G _ _ (q + 20 + i9)) rfl rfl (by decide) ⟨by omega, by omega⟩ (Nat.le_of_ble_eq_true rfl) ?_
                    rintro _ _ _ ⟨rfl, rfl, rfl⟩
                    refine V_aast (j := i9) 112 C dX1_init_111 rfl ((up_n _ (by omega)).trans hA) rfl (up_s _ _ _) rfl (by omega) (by omega) ?_
                    refine V_iinc 115 C dX1_init_112 rfl (by decide) rfl (ii1 _) (L' := [(0, _), (1, _)]) rfl ?_
                    refine V_goto 93 C dX1_init_115 (by decide) ?_
                    refine V_L [0, 1] rfl ?_
                    exact ih93 (i9 + 1) _ _ (by omega) (by rw [up_n _ (by omega), up_n _ (by omega)]; exact hO) (up_s _ _ _) (vup_1 hff) (nc_to hc (by omega)) ((hF.up _ (by omega)).up _ (by omega)) ((hR.up _ (by omega)).up _ (by omega)) ((hU.up _ (by omega)).up _ (by omega)) (by rw [up_n _ (by omega), up_n _ (by omega)]; exact hM) (by omega)
              refine V_L [0, 1] rfl ?_
              have hU : ruC q h1 := ⟨⟨f9, hA, hff⟩, hc⟩
              exact J93 13 0 _ _ (by omega) (up_s _ _ _) ((up_n _ (by omega)).trans (up_s _ _ _)) (fun j hj => absurd hj (Nat.not_lt_zero j)) (fun j hj => absurd hj (Nat.not_lt_zero j)) ((((hF.up _ (by omega)).up _ (by omega)).up _ (by omega)).up _ (by omega)) ((((hR.up _ (by omega)).up _ (by omega)).up _ (by omega)).up _ (by omega)) ((((hU.up _ (by omega)).up _ (by omega)).up _ (by omega)).up _ (by omega)) (by rw [up_n _ (by omega), up_n _ (by omega), up_n _ (by omega)]; exact up_s _ _ _) (by omega)
            · refine V_aload_n 56 C dX1_init_55 rfl rfl ?_
              refine V_get (k := 8) 59 C dX1_init_56 rfl fcX1 tw140 (by decide) rfl hO rfl ?_
              refine V_iload_n 60 C dX1_init_59 rfl rfl ?_
              refine V_new 63 C [.int (nI 0), .int (nI 0), .int (nI 0)] dX1_init_60 rfl fcX6 tw59 tw61 tw4 (by decide +kernel) ⟨by show _ ≤ 31; omega, by show _ ≤ 150; omega⟩ ?_
              refine V_dup 64 C dX1_init_63 rfl rfl ?_
              refine V_callIN (host := RX9) 67 C dX1_init_64 rfl rfl mX6_init (by decide +kernel) (c_X6_init l G _ _ (q + 13 + i9)) rfl rfl (by decide) ⟨by omega, by omega⟩ (Nat.le_of_ble_eq_true rfl) ?_
              rintro _ _ _ ⟨rfl, rfl, rfl⟩
              refine V_aast (j := i9) 68 C dX1_init_67 rfl ((up_n _ (by omega)).trans hA) rfl (up_s _ _ _) rfl (by omega) (by omega) ?_
              refine V_iinc 71 C dX1_init_68 rfl (by decide) rfl (ii1 _) (L' := [(0, _), (1, _)]) rfl ?_
              refine V_goto 50 C dX1_init_71 (by decide) ?_
              refine V_L [0, 1] rfl ?_
              exact ih50 (i9 + 1) _ _ (by omega) (by rw [up_n _ (by omega), up_n _ (by omega)]; exact hO) (up_s _ _ _) (vup_1 hff) (nc_to hc (by omega)) ((hF.up _ (by omega)).up _ (by omega)) ((hR.up _ (by omega)).up _ (by omega)) (by omega)
        refine V_L [0, 1] rfl ?_
        have hR : rdC q h1 := ⟨⟨f9, hA, hff⟩, hc⟩
        exact J50 6 0 _ _ (by omega) (up_s _ _ _) ((up_n _ (by omega)).trans (up_s _ _ _)) (fun j hj => absurd hj (Nat.not_lt_zero j)) (fun j hj => absurd hj (Nat.not_lt_zero j)) ((hF.up _ (by omega)).up _ (by omega)) ((hR.up _ (by omega)).up _ (by omega)) (by omega)
      · refine V_aload_n 22 C dX1_init_21 rfl rfl ?_
        refine V_get (k := 7) 25 C dX1_init_22 rfl fcX1 tw137 (by decide) rfl hO rfl ?_
        refine V_iload_n 26 C dX1_init_25 rfl rfl ?_
        refine V_new 29 C [.int (nI 0), .int (nI 0), .int (nI 0)] dX1_init_26 rfl fcX5 tw33 tw35 tw3 (by decide +kernel) ⟨by show _ ≤ 31; omega, by show _ ≤ 150; omega⟩ ?_
        refine V_dup 30 C dX1_init_29 rfl rfl ?_
        refine V_callIN (host := RX9) 33 C dX1_init_30 rfl rfl mX5_init (by decide +kernel) (c_X5_init l G _ _ (q + 2 + i9)) rfl rfl (by decide) ⟨by omega, by omega⟩ (Nat.le_of_ble_eq_true rfl) ?_
        rintro _ _ _ ⟨rfl, rfl, rfl⟩
        refine V_aast (j := i9) 34 C dX1_init_33 rfl ((up_n _ (by omega)).trans hA) rfl (up_s _ _ _) rfl (by omega) (by omega) ?_
        refine V_iinc 37 C dX1_init_34 rfl (by decide) rfl (ii1 _) (L' := [(0, _), (1, _)]) rfl ?_
        refine V_goto 15 C dX1_init_37 (by decide) ?_
        refine V_L [0, 1] rfl ?_
        exact ih15 (i9 + 1) _ _ (by omega) (by rw [up_n _ (by omega), up_n _ (by omega)]; exact hO) (up_s _ _ _) (vup_1 hff) (nc_to hc (by omega)) ((hF.up _ (by omega)).up _ (by omega)) (by omega)
  refine V_L [0, 1] rfl ?_
  exact J15 11 0 _ _ (by omega) (up_s _ _ _) ((up_n _ (by omega)).trans (up_s _ _ _)) (fun j hj => absurd hj (Nat.not_lt_zero j)) (fun j hj => absurd hj (Nat.not_lt_zero j)) ((FR.rf.up _ (by omega)).up _ (by omega)) (by omega)

theorem dX3_init_0 : decode cX3_init 0 = .ok (.aload_n 0, 1) := by decide +kernel
theorem dX3_init_1 : decode cX3_init 1 = .ok (.invokespecial 3, 3) := by decide +kernel
theorem dX3_init_4 : decode cX3_init 4 = .ok (.aload_n 0, 1) := by decide +kernel
theorem dX3_init_5 : decode cX3_init 5 = .ok (.bipush 15, 2) := by decide +kernel
theorem dX3_init_7 : decode cX3_init 7 = .ok (.anewarray 11, 3) := by decide +kernel
theorem dX3_init_10 : decode cX3_init 10 = .ok (.putfield 13, 3) := by decide +kernel
theorem dX3_init_13 : decode cX3_init 13 = .ok (.iconst 0, 1) := by decide +kernel
theorem dX3_init_14 : decode cX3_init 14 = .ok (.istore_n 1, 1) := by decide +kernel
theorem dX3_init_15 : decode cX3_init 15 = .ok (.iload_n 1, 1) := by decide +kernel
theorem dX3_init_16 : decode cX3_init 16 = .ok (.bipush 15, 2) := by decide +kernel
theorem dX3_init_18 : decode cX3_init 18 = .ok (.if_icmp .ge 22, 3) := by decide +kernel
theorem dX3_init_21 : decode cX3_init 21 = .ok (.aload_n 0, 1) := by decide +kernel
theorem dX3_init_22 : decode cX3_init 22 = .ok (.getfield 13, 3) := by decide +kernel
theorem dX3_init_25 : decode cX3_init 25 = .ok (.iload_n 1, 1) := by decide +kernel
theorem dX3_init_26 : decode cX3_init 26 = .ok (.new 11, 3) := by decide +kernel
theorem dX3_init_29 : decode cX3_init 29 = .ok (.dup, 1) := by decide +kernel
theorem dX3_init_30 : decode cX3_init 30 = .ok (.invokespecial 17, 3) := by decide +kernel
theorem dX3_init_33 : decode cX3_init 33 = .ok (.aastore, 1) := by decide +kernel
theorem dX3_init_34 : decode cX3_init 34 = .ok (.iinc 1 1, 3) := by decide +kernel
theorem dX3_init_37 : decode cX3_init 37 = .ok (.goto (-22), 3) := by decide +kernel
theorem dX3_init_40 : decode cX3_init 40 = .ok (.return_, 1) := by decide +kernel
set_option maxRecDepth 100000 in
set_option maxHeartbeats 4000000 in
theorem c_X3_init (l : Launch) (G : GT) (n : Nat) (h : AH) (P : Nat) (hn : n = P + 1) (hob : h P = some (.inr (2, [.null, .int (nI 0), .int (nI 0)]))) : Ct l yX3_init cX3_init 2 none 3 481 2430 G n h [.ref P] (fun v n' h' => v = none ∧ n' = P + 482 ∧ (∀ D, pst P 0 0 D h') ∧ FP P h h') := by
  subst hn
  refine Ct_of mX3_init.1 (Nat.le_of_ble_eq_true rfl) ?_
  intro p₀ e₀ s₀ m₀ as₀ bl₀ me₀ c₀ C hin
  refine V_Le (L' := [(0, .ref P)]) rfl ?_
  refine V_aload_n 1 C dX3_init_0 rfl rfl ?_
  refine V_objInit 4 C dX3_init_1 rfl (tb_in 193 (by decide +kernel) (by decide +kernel)) (by decide) ?_
  refine V_aload_n 5 C dX3_init_4 rfl rfl ?_
  refine V_bipush 7 C dX3_init_5 rfl bip15 ?_
  refine V_anewarr 10 C 4 dX3_init_7 rfl tw177 (by decide) rfl (by decide) ⟨by show _ ≤ 481; omega, by show _ ≤ 2430; omega⟩ ?_
  refine V_putF (fs' := [_, _, _]) (k := 0) 13 C (hin rfl) dX3_init_10 rfl fcX3 tw180 (by decide) rfl rfl rfl ((up_n _ (by omega)).trans hob) rfl rfl (Nat.le_of_ble_eq_true rfl) rfl ?_
  refine V_iconst 14 C dX3_init_13 rfl ic0 ?_
  refine V_istore_n 15 C dX3_init_14 rfl (by decide) (L' := [(0, _), (1, _)]) rfl ?_
  have J15 : ∀ (fuel : Nat) (i9 : Nat) (f9 : Nat → Option Nat) (h1 : AH) (hi9 : i9 ≤ 15) (hO : h1 P = some (.inr (2, [.ref (P + 1), .int (nI 0), .int (nI 0)]))) (hA : h1 (P + 1) = some (rfA 4 15 f9)) (hff : ∀ j, j < i9 → f9 j = some (P + 2 + 32 * j)) (hc : ∀ j, j < i9 → cty (P + 2 + 32 * j) (fun _ => 0) h1) (hF : FP P h h1), 15 - i9 < fuel → V p₀ l e₀ (rmD 3 481 2430) s₀ m₀ as₀ bl₀ me₀ c₀ (MQ bl₀ (Po G (fun v n' h' => v = none ∧ n' = P + 482 ∧ (∀ D, pst P 0 0 D h') ∧ FP P h h')) as₀ s₀ 481 2430 (rg G)) G 2 (1 + 32 * i9) (15 + 161 * i9) (P + 2 + 32 * i9) h1 15 [(0, .ref P), (1, .int (nI i9))] [] := by
    intro fuel
    induction fuel with
    | zero => intro i9 f9 h1 hi9 hO hA hff hc hF hf; omega
    | succ fuel ih15 =>
      intro i9 f9 h1 hi9 hO hA hff hc hF hf
      refine V_iload_n 16 C dX3_init_15 rfl rfl ?_
      refine V_bipush 18 C dX3_init_16 rfl bip15 ?_
      refine V_icmp_geN 40 21 C dX3_init_18 (by decide) rfl (by omega) (by omega) (fun c18 => ?_) (fun c18 => ?_)
      · have ei : i9 = 15 := by omega
        subst ei
        refine V_return C dX3_init_40 rfl (by omega) (by omega) ?_
        exact ⟨rfl, by omega, fun D => ⟨⟨by omega, by omega⟩, hO, ⟨f9, hA, hff⟩, fun j hj => ⟨_, hc j hj⟩, fun i hi => absurd hi (Nat.not_lt_zero i)⟩, hF⟩
      · refine V_aload_n 22 C dX3_init_21 rfl rfl ?_
        refine V_get (k := 0) 25 C dX3_init_22 rfl fcX3 tw180 (by decide) rfl hO rfl ?_
        refine V_iload_n 26 C dX3_init_25 rfl rfl ?_
        refine V_new 29 C [.int (nI 0), .int (nI 0), .int (nI 0), .int (nI 0), .int (nI 0), .int (nI 0), .int (nI 0), .null, .null, .null, .null] dX3_init_26 rfl fcX1 tw177 tw28 tw2 (by decide +kernel) ⟨by show _ ≤ 481; omega, by show _ ≤ 2430; omega⟩ ?_
        refine V_dup 30 C dX3_init_29 rfl rfl ?_
        refine V_callI 33 C dX3_init_30 rfl rfl mX1_init tw179 (c_X1_init l G _ _ (P + 2 + 32 * i9) rfl (up_s _ _ _)) rfl rfl (by decide) ⟨by omega, by omega⟩ (Nat.le_of_ble_eq_true rfl) ?_
        rintro _ _ h2 ⟨rfl, rfl, hC2, hF2⟩
        refine V_aast (j := i9) 34 C dX3_init_33 rfl ((hF2 _ (by omega)).trans ((up_n _ (by omega)).trans hA)) rfl hC2.1 rfl (by omega) (by omega) ?_
        refine V_iinc 37 C dX3_init_34 rfl (by decide) rfl (ii1 _) (L' := [(0, _), (1, _)]) rfl ?_
        refine V_goto 15 C dX3_init_37 (by decide) ?_
        refine V_L [0, 1] rfl ?_
        exact ih15 (i9 + 1) _ _ (by omega) (by rw [up_n _ (by omega), hF2 _ (by omega), up_n _ (by omega)]; exact hO) (up_s _ _ _) (vup_to hff) (fun j hj => by
          by_cases e : j = i9
          · rw [e]; exact hC2.fr (fun a _ _ => up_n _ (by omega))
          · exact (hc j (by omega)).fr (fun a _ _ => by rw [up_n _ (by omega), hF2 _ (by omega), up_n _ (by omega)])) (fun a ha => by rw [up_n _ (by omega), hF2 _ (by omega), up_n _ (by omega)]; exact hF a ha) (by omega)
  refine V_L [0, 1] rfl ?_
  exact J15 16 0 _ _ (by omega) (up_s _ _ _) ((up_n _ (by omega)).trans (up_s _ _ _)) (fun j hj => absurd hj (Nat.not_lt_zero j)) (fun j hj => absurd hj (Nat.not_lt_zero j)) (fun a ha => by rw [up_n _ (by omega), up_n _ (by omega)]) (by omega)

theorem dX4_init_0 : decode cX4_init 0 = .ok (.aload_n 0, 1) := by decide +kernel
theorem dX4_init_1 : decode cX4_init 1 = .ok (.invokespecial 3, 3) := by decide +kernel
theorem dX4_init_4 : decode cX4_init 4 = .ok (.aload_n 0, 1) := by decide +kernel
theorem dX4_init_5 : decode cX4_init 5 = .ok (.bipush 6, 2) := by decide +kernel
theorem dX4_init_7 : decode cX4_init 7 = .ok (.newarray .int, 2) := by decide +kernel
theorem dX4_init_9 : decode cX4_init 9 = .ok (.putfield 9, 3) := by decide +kernel
theorem dX4_init_12 : decode cX4_init 12 = .ok (.aload_n 0, 1) := by decide +kernel
theorem dX4_init_13 : decode cX4_init 13 = .ok (.bipush 6, 2) := by decide +kernel
theorem dX4_init_15 : decode cX4_init 15 = .ok (.newarray .boolean, 2) := by decide +kernel
theorem dX4_init_17 : decode cX4_init 17 = .ok (.putfield 15, 3) := by decide +kernel
theorem dX4_init_20 : decode cX4_init 20 = .ok (.return_, 1) := by decide +kernel
set_option maxRecDepth 100000 in
set_option maxHeartbeats 4000000 in
theorem c_X4_init (l : Launch) (G : GT) (n : Nat) (h : AH) (a : Nat) (hn : n = a + 1) (hob : h a = some (.inr (3, [.null, .null]))) : Ct l yX4_init cX4_init 1 none 1 2 12 G n h [.ref a] (fun v n' h' => v = none ∧ n' = a + 3 ∧ pln a (fun _ => nI 0) (fun _ => nI 0) h' ∧ ∀ b, (b < a ∨ a + 3 ≤ b) → h' b = h b) := by
  subst hn
  refine Ct_of mX4_init.1 (Nat.le_of_ble_eq_true rfl) ?_
  intro p₀ e₀ s₀ m₀ as₀ bl₀ me₀ c₀ C hin
  refine V_Le (L' := [(0, .ref a)]) rfl ?_
  refine V_aload_n 1 C dX4_init_0 rfl rfl ?_
  refine V_objInit 4 C dX4_init_1 rfl (tb_in 213 (by decide +kernel) (by decide +kernel)) (by decide) ?_
  refine V_aload_n 5 C dX4_init_4 rfl rfl ?_
  refine V_bipush 7 C dX4_init_5 rfl bip6 ?_
  refine V_newarr 9 C 0 (6, .inl (fun _ => nI 0)) dX4_init_7 rfl rfl tw121 rfl (fun _ => rfl) (by decide) ⟨by show _ ≤ 2; omega, by show _ ≤ 12; omega⟩ ?_
  refine V_putF (fs' := [_, _]) (k := 0) 12 C (hin rfl) dX4_init_9 rfl fcX4 tw197 (by decide) rfl rfl rfl ((up_n _ (by omega)).trans hob) rfl rfl (Nat.le_of_ble_eq_true rfl) rfl ?_
  refine V_aload_n 13 C dX4_init_12 rfl rfl ?_
  refine V_bipush 15 C dX4_init_13 rfl bip6 ?_
  refine V_newarr 17 C 1 (6, .inl (fun _ => nI 0)) dX4_init_15 rfl rfl tw204 rfl (fun _ => rfl) (by decide) ⟨by show _ ≤ 2; omega, by show _ ≤ 12; omega⟩ ?_
  refine V_putF (fs' := [_, _]) (k := 1) 20 C (hin rfl) dX4_init_17 rfl fcX4 tw198 (by decide) rfl rfl rfl ((up_n _ (by omega)).trans (up_s _ _ _)) rfl rfl (Nat.le_of_ble_eq_true rfl) rfl ?_
  refine V_return C dX4_init_20 rfl (by omega) (by omega) ?_
  exact ⟨rfl, rfl, ⟨up_s _ _ _, by rw [up_n _ (by omega), up_n _ (by omega), up_n _ (by omega)]; exact up_s _ _ _, by rw [up_n _ (by omega)]; exact up_s _ _ _⟩, fun b hb => by rw [up_n _ (by omega), up_n _ (by omega), up_n _ (by omega), up_n _ (by omega)]⟩

theorem dX0_init_0 : decode cX0_init 0 = .ok (.aload_n 0, 1) := by decide +kernel
theorem dX0_init_1 : decode cX0_init 1 = .ok (.invokespecial 3, 3) := by decide +kernel
theorem dX0_init_4 : decode cX0_init 4 = .ok (.aload_n 0, 1) := by decide +kernel
theorem dX0_init_5 : decode cX0_init 5 = .ok (.bipush 120, 2) := by decide +kernel
theorem dX0_init_7 : decode cX0_init 7 = .ok (.newarray .char, 2) := by decide +kernel
theorem dX0_init_9 : decode cX0_init 9 = .ok (.putfield 9, 3) := by decide +kernel
theorem dX0_init_12 : decode cX0_init 12 = .ok (.aload_n 0, 1) := by decide +kernel
theorem dX0_init_13 : decode cX0_init 13 = .ok (.iconst 3, 1) := by decide +kernel
theorem dX0_init_14 : decode cX0_init 14 = .ok (.newarray .int, 2) := by decide +kernel
theorem dX0_init_16 : decode cX0_init 16 = .ok (.putfield 15, 3) := by decide +kernel
theorem dX0_init_19 : decode cX0_init 19 = .ok (.return_, 1) := by decide +kernel
set_option maxRecDepth 100000 in
set_option maxHeartbeats 4000000 in
theorem c_X0_init (l : Launch) (G : GT) (n : Nat) (h : AH) (a : Nat) (hn : n = a + 1) (hob : h a = some (.inr (0, [.null, .null, .int (nI 0), .int (nI 0), .int (nI 0)]))) : Ct l yX0_init cX0_init 1 none 1 2 123 G n h [.ref a] (fun v n' h' => v = none ∧ n' = a + 3 ∧ (∀ T, tx0 a T 0 (nI 0) (nI 0) (fun _ => nI 0) (fun _ => nI 0) h') ∧ ∀ b, (b < a ∨ a + 3 ≤ b) → h' b = h b) := by
  subst hn
  refine Ct_of mX0_init.1 (Nat.le_of_ble_eq_true rfl) ?_
  intro p₀ e₀ s₀ m₀ as₀ bl₀ me₀ c₀ C hin
  refine V_Le (L' := [(0, .ref a)]) rfl ?_
  refine V_aload_n 1 C dX0_init_0 rfl rfl ?_
  refine V_objInit 4 C dX0_init_1 rfl (tb_in 227 (by decide +kernel) (by decide +kernel)) (by decide) ?_
  refine V_aload_n 5 C dX0_init_4 rfl rfl ?_
  refine V_bipush 7 C dX0_init_5 rfl bip120 ?_
  refine V_newarr 9 C 2 (120, .inl (fun _ => nI 0)) dX0_init_7 rfl rfl tw227 rfl (fun _ => rfl) (by decide) ⟨by show _ ≤ 2; omega, by show _ ≤ 123; omega⟩ ?_
  refine V_putF (fs' := [_, _, _, _, _]) (k := 0) 12 C (hin rfl) dX0_init_9 rfl fcX0 tw211 (by decide) rfl rfl rfl ((up_n _ (by omega)).trans hob) rfl rfl (Nat.le_of_ble_eq_true rfl) rfl ?_
  refine V_aload_n 13 C dX0_init_12 rfl rfl ?_
  refine V_iconst 14 C dX0_init_13 rfl ic3 ?_
  refine V_newarr 16 C 0 (3, .inl (fun _ => nI 0)) dX0_init_14 rfl rfl tw121 rfl (fun _ => rfl) (by decide) ⟨by show _ ≤ 2; omega, by show _ ≤ 123; omega⟩ ?_
  refine V_putF (fs' := [_, _, _, _, _]) (k := 1) 19 C (hin rfl) dX0_init_16 rfl fcX0 tw212 (by decide) rfl rfl rfl ((up_n _ (by omega)).trans (up_s _ _ _)) rfl rfl (Nat.le_of_ble_eq_true rfl) rfl ?_
  refine V_return C dX0_init_19 rfl (by omega) (by omega) ?_
  exact ⟨rfl, rfl, fun T => ⟨by omega, up_s _ _ _, by rw [up_n _ (by omega), up_n _ (by omega), up_n _ (by omega)]; exact up_s _ _ _, by rw [up_n _ (by omega)]; exact up_s _ _ _, fun i hi => absurd hi (Nat.not_lt_zero i)⟩, fun b hb => by rw [up_n _ (by omega), up_n _ (by omega), up_n _ (by omega), up_n _ (by omega)]⟩


