/-! THE TWO SYSTEMS MADE -/
theorem V_hp {p : Program} {l : Launch} {e : Env} {R : Room} {s : State} {m : MethodId} {args : Array Value} {below : List Frame} {meth : Method} {c : Code} {Q : State → Prop} {G : GT} {nL cells slots n : Nat} {h : AH} {pc : Nat} {L : List (Nat × Value)} {st : List Value} (kk : ∀ h8 : AH, h8 = h → V p l e R s m args below meth c Q G nL cells slots n h8 pc L st) : V p l e R s m args below meth c Q G nL cells slots n h pc L st := kk h rfl
theorem row0 : (fun j => if j < 130 then 0 else (fun _ : Nat => 0) j) = (fun _ : Nat => 0) := funext fun j => by split <;> rfl
theorem dX9_init_0 : decode cX9_init 0 = .ok (.aload_n 0, 1) := by decide +kernel
theorem dX9_init_1 : decode cX9_init 1 = .ok (.invokespecial 1, 3) := by decide +kernel
theorem dX9_init_4 : decode cX9_init 4 = .ok (.aload_n 0, 1) := by decide +kernel
theorem dX9_init_5 : decode cX9_init 5 = .ok (.new 7, 3) := by decide +kernel
theorem dX9_init_8 : decode cX9_init 8 = .ok (.dup, 1) := by decide +kernel
theorem dX9_init_9 : decode cX9_init 9 = .ok (.invokespecial 9, 3) := by decide +kernel
theorem dX9_init_12 : decode cX9_init 12 = .ok (.putfield 10, 3) := by decide +kernel
theorem dX9_init_15 : decode cX9_init 15 = .ok (.aload_n 0, 1) := by decide +kernel
theorem dX9_init_16 : decode cX9_init 16 = .ok (.new 7, 3) := by decide +kernel
theorem dX9_init_19 : decode cX9_init 19 = .ok (.dup, 1) := by decide +kernel
theorem dX9_init_20 : decode cX9_init 20 = .ok (.invokespecial 9, 3) := by decide +kernel
theorem dX9_init_23 : decode cX9_init 23 = .ok (.putfield 16, 3) := by decide +kernel
theorem dX9_init_26 : decode cX9_init 26 = .ok (.aload_n 0, 1) := by decide +kernel
theorem dX9_init_27 : decode cX9_init 27 = .ok (.new 19, 3) := by decide +kernel
theorem dX9_init_30 : decode cX9_init 30 = .ok (.dup, 1) := by decide +kernel
theorem dX9_init_31 : decode cX9_init 31 = .ok (.invokespecial 21, 3) := by decide +kernel
theorem dX9_init_34 : decode cX9_init 34 = .ok (.putfield 22, 3) := by decide +kernel
theorem dX9_init_37 : decode cX9_init 37 = .ok (.aload_n 0, 1) := by decide +kernel
theorem dX9_init_38 : decode cX9_init 38 = .ok (.new 26, 3) := by decide +kernel
theorem dX9_init_41 : decode cX9_init 41 = .ok (.dup, 1) := by decide +kernel
theorem dX9_init_42 : decode cX9_init 42 = .ok (.invokespecial 28, 3) := by decide +kernel
theorem dX9_init_45 : decode cX9_init 45 = .ok (.putfield 29, 3) := by decide +kernel
theorem dX9_init_48 : decode cX9_init 48 = .ok (.aload_n 0, 1) := by decide +kernel
theorem dX9_init_49 : decode cX9_init 49 = .ok (.new 33, 3) := by decide +kernel
theorem dX9_init_52 : decode cX9_init 52 = .ok (.dup, 1) := by decide +kernel
theorem dX9_init_53 : decode cX9_init 53 = .ok (.invokespecial 35, 3) := by decide +kernel
theorem dX9_init_56 : decode cX9_init 56 = .ok (.putfield 36, 3) := by decide +kernel
theorem dX9_init_59 : decode cX9_init 59 = .ok (.aload_n 0, 1) := by decide +kernel
theorem dX9_init_60 : decode cX9_init 60 = .ok (.iconst 2, 1) := by decide +kernel
theorem dX9_init_61 : decode cX9_init 61 = .ok (.anewarray 7, 3) := by decide +kernel
theorem dX9_init_64 : decode cX9_init 64 = .ok (.putfield 40, 3) := by decide +kernel
theorem dX9_init_67 : decode cX9_init 67 = .ok (.iconst 0, 1) := by decide +kernel
theorem dX9_init_68 : decode cX9_init 68 = .ok (.istore_n 1, 1) := by decide +kernel
theorem dX9_init_69 : decode cX9_init 69 = .ok (.iload_n 1, 1) := by decide +kernel
theorem dX9_init_70 : decode cX9_init 70 = .ok (.iconst 2, 1) := by decide +kernel
theorem dX9_init_71 : decode cX9_init 71 = .ok (.if_icmp .ge 22, 3) := by decide +kernel
theorem dX9_init_74 : decode cX9_init 74 = .ok (.aload_n 0, 1) := by decide +kernel
theorem dX9_init_75 : decode cX9_init 75 = .ok (.getfield 40, 3) := by decide +kernel
theorem dX9_init_78 : decode cX9_init 78 = .ok (.iload_n 1, 1) := by decide +kernel
theorem dX9_init_79 : decode cX9_init 79 = .ok (.new 7, 3) := by decide +kernel
theorem dX9_init_82 : decode cX9_init 82 = .ok (.dup, 1) := by decide +kernel
theorem dX9_init_83 : decode cX9_init 83 = .ok (.invokespecial 9, 3) := by decide +kernel
theorem dX9_init_86 : decode cX9_init 86 = .ok (.aastore, 1) := by decide +kernel
theorem dX9_init_87 : decode cX9_init 87 = .ok (.iinc 1 1, 3) := by decide +kernel
theorem dX9_init_90 : decode cX9_init 90 = .ok (.goto (-21), 3) := by decide +kernel
theorem dX9_init_93 : decode cX9_init 93 = .ok (.aload_n 0, 1) := by decide +kernel
theorem dX9_init_94 : decode cX9_init 94 = .ok (.iconst 2, 1) := by decide +kernel
theorem dX9_init_95 : decode cX9_init 95 = .ok (.newarray .boolean, 2) := by decide +kernel
theorem dX9_init_97 : decode cX9_init 97 = .ok (.putfield 44, 3) := by decide +kernel
theorem dX9_init_100 : decode cX9_init 100 = .ok (.return_, 1) := by decide +kernel
set_option maxRecDepth 100000 in
set_option maxHeartbeats 4000000 in
theorem c_X9_init (l : Launch) (G : GT) (n : Nat) (h : AH) (x : Nat) (hn : n = x + 1) (hob : h x = some (.inr (7, [.null, .null, .null, .null, .null, .null, .null]))) : Ct l yX9_init cX9_init 2 none 4 618 3223 G n h [.ref x] (fun v n' h' => v = none ∧ n' = x + 619 ∧ (∀ D S T, SysC x (fun _ => 0) 0 D S (fun _ => false) 0 T h') ∧ FX x h h') := by
  subst hn
  refine Ct_of mX9_init.1 (Nat.le_of_ble_eq_true rfl) ?_
  intro p₀ e₀ s₀ m₀ as₀ bl₀ me₀ c₀ C hin
  refine V_Le (L' := [(0, .ref x)]) rfl ?_
  refine V_aload_n 1 C dX9_init_0 rfl rfl ?_
  refine V_objInit 4 C dX9_init_1 rfl (tb_in 41 (by decide +kernel) (by decide +kernel)) (by decide) ?_
  refine V_aload_n 5 C dX9_init_4 rfl rfl ?_
  refine V_new 8 C [.int (nI 0), .int (nI 0), .int (nI 0), .int (nI 0), .int (nI 0), .int (nI 0), .int (nI 0), .null, .null, .null, .null] dX9_init_5 rfl fcX1 tw27 tw28 tw2 (by decide +kernel) ⟨by show _ ≤ 618; omega, by show _ ≤ 3223; omega⟩ ?_
  refine V_dup 9 C dX9_init_8 rfl rfl ?_
  refine V_callI 12 C dX9_init_9 rfl rfl mX1_init tw29 (c_X1_init l G _ _ (x + 1) rfl (up_s _ _ _)) rfl rfl (by decide) ⟨by omega, by omega⟩ (Nat.le_of_ble_eq_true rfl) ?_
  rintro _ n1 h1 ⟨rfl, hn1, hC1, hF1⟩
  obtain rfl : n1 = x + 33 := by omega
  have o1 : h1 x = _ := (hF1 _ (by omega)).trans ((up_n _ (by omega)).trans hob)
  have k1 : ∀ a, ¬ a = x → (a < x + 1 ∨ x + 33 ≤ a) → h1 a = h a := fun a g1 g2 => by rw [hF1 _ (by omega), up_n _ (by omega)]
  refine V_putF (fs' := [_, _, _, _, _, _, _]) (k := 0) 15 C (hin rfl) dX9_init_12 rfl fcX9 tw228 (by decide) rfl rfl rfl o1 rfl rfl (Nat.le_of_ble_eq_true rfl) rfl ?_
  refine V_aload_n 16 C dX9_init_15 rfl rfl ?_
  refine V_new 19 C [.int (nI 0), .int (nI 0), .int (nI 0), .int (nI 0), .int (nI 0), .int (nI 0), .int (nI 0), .null, .null, .null, .null] dX9_init_16 rfl fcX1 tw27 tw28 tw2 (by decide +kernel) ⟨by show _ ≤ 618; omega, by show _ ≤ 3223; omega⟩ ?_
  refine V_dup 20 C dX9_init_19 rfl rfl ?_
  refine V_callI 23 C dX9_init_20 rfl rfl mX1_init tw29 (c_X1_init l G _ _ (x + 33) rfl (up_s _ _ _)) rfl rfl (by decide) ⟨by omega, by omega⟩ (Nat.le_of_ble_eq_true rfl) ?_
  rintro _ n2 h2 ⟨rfl, hn2, hC2, hF2⟩
  obtain rfl : n2 = x + 65 := by omega
  have o2 : h2 x = _ := (hF2 _ (by omega)).trans ((up_n _ (by omega)).trans (up_s _ _ _))
  have k2 : ∀ a, ¬ a = x → (a < x + 33 ∨ x + 65 ≤ a) → h2 a = h1 a := fun a g1 g2 => by rw [hF2 _ (by omega), up_n _ (by omega), up_n _ g1]
  refine V_putF (fs' := [_, _, _, _, _, _, _]) (k := 1) 26 C (hin rfl) dX9_init_23 rfl fcX9 tw229 (by decide) rfl rfl rfl o2 rfl rfl (Nat.le_of_ble_eq_true rfl) rfl ?_
  refine V_aload_n 27 C dX9_init_26 rfl rfl ?_
  refine V_new 30 C [.null, .int (nI 0), .int (nI 0)] dX9_init_27 rfl fcX3 tw171 tw172 tw6 (by decide +kernel) ⟨by show _ ≤ 618; omega, by show _ ≤ 3223; omega⟩ ?_
  refine V_dup 31 C dX9_init_30 rfl rfl ?_
  refine V_callI 34 C dX9_init_31 rfl rfl mX3_init tw173 (c_X3_init l G _ _ (x + 65) rfl (up_s _ _ _)) rfl rfl (by decide) ⟨by omega, by omega⟩ (Nat.le_of_ble_eq_true rfl) ?_
  rintro _ n3 h3 ⟨rfl, hn3, hP3, hF3⟩
  obtain rfl : n3 = x + 547 := by omega
  have o3 : h3 x = _ := (hF3 _ (by omega)).trans ((up_n _ (by omega)).trans (up_s _ _ _))
  have k3 : ∀ a, ¬ a = x → (a < x + 65 ∨ x + 547 ≤ a) → h3 a = h2 a := fun a g1 g2 => by rw [hF3 _ (by omega), up_n _ (by omega), up_n _ g1]
  refine V_putF (fs' := [_, _, _, _, _, _, _]) (k := 2) 37 C (hin rfl) dX9_init_34 rfl fcX9 tw230 (by decide) rfl rfl rfl o3 rfl rfl (Nat.le_of_ble_eq_true rfl) rfl ?_
  refine V_aload_n 38 C dX9_init_37 rfl rfl ?_
  refine V_new 41 C [.null, .null] dX9_init_38 rfl fcX4 tw191 tw192 tw7 (by decide +kernel) ⟨by show _ ≤ 618; omega, by show _ ≤ 3223; omega⟩ ?_
  refine V_dup 42 C dX9_init_41 rfl rfl ?_
  refine V_callI 45 C dX9_init_42 rfl rfl mX4_init tw193 (c_X4_init l G _ _ (x + 547) rfl (up_s _ _ _)) rfl rfl (by decide) ⟨by omega, by omega⟩ (Nat.le_of_ble_eq_true rfl) ?_
  rintro _ n4 h4 ⟨rfl, hn4, hL4, hF4⟩
  obtain rfl : n4 = x + 550 := by omega
  have o4 : h4 x = _ := (hF4 _ (by omega)).trans ((up_n _ (by omega)).trans (up_s _ _ _))
  have k4 : ∀ a, ¬ a = x → (a < x + 547 ∨ x + 550 ≤ a) → h4 a = h3 a := fun a g1 g2 => by rw [hF4 _ (by omega), up_n _ (by omega), up_n _ g1]
  refine V_putF (fs' := [_, _, _, _, _, _, _]) (k := 3) 48 C (hin rfl) dX9_init_45 rfl fcX9 tw231 (by decide) rfl rfl rfl o4 rfl rfl (Nat.le_of_ble_eq_true rfl) rfl ?_
  refine V_aload_n 49 C dX9_init_48 rfl rfl ?_
  refine V_new 52 C [.null, .null, .int (nI 0), .int (nI 0), .int (nI 0)] dX9_init_49 rfl fcX0 tw205 tw206 tw8 (by decide +kernel) ⟨by show _ ≤ 618; omega, by show _ ≤ 3223; omega⟩ ?_
  refine V_dup 53 C dX9_init_52 rfl rfl ?_
  refine V_callI 56 C dX9_init_53 rfl rfl mX0_init tw207 (c_X0_init l G _ _ (x + 550) rfl (up_s _ _ _)) rfl rfl (by decide) ⟨by omega, by omega⟩ (Nat.le_of_ble_eq_true rfl) ?_
  rintro _ n5 h5 ⟨rfl, hn5, hT5, hF5⟩
  obtain rfl : n5 = x + 553 := by omega
  have o5 : h5 x = _ := (hF5 _ (by omega)).trans ((up_n _ (by omega)).trans (up_s _ _ _))
  have k5 : ∀ a, ¬ a = x → (a < x + 550 ∨ x + 553 ≤ a) → h5 a = h4 a := fun a g1 g2 => by rw [hF5 _ (by omega), up_n _ (by omega), up_n _ g1]
  refine V_putF (fs' := [_, _, _, _, _, _, _]) (k := 4) 59 C (hin rfl) dX9_init_56 rfl fcX9 tw232 (by decide) rfl rfl rfl o5 rfl rfl (Nat.le_of_ble_eq_true rfl) rfl ?_
  refine V_aload_n 60 C dX9_init_59 rfl rfl ?_
  refine V_iconst 61 C dX9_init_60 rfl ic2 ?_
  refine V_anewarr 64 C 4 dX9_init_61 rfl tw27 (by decide) rfl (by decide) ⟨by show _ ≤ 618; omega, by show _ ≤ 3223; omega⟩ ?_
  refine V_putF (fs' := [_, _, _, _, _, _, _]) (k := 5) 67 C (hin rfl) dX9_init_64 rfl fcX9 tw233 (by decide) rfl rfl rfl ((up_n _ (by omega)).trans (up_s _ _ _)) rfl rfl (Nat.le_of_ble_eq_true rfl) rfl ?_
  refine V_iconst 68 C dX9_init_67 rfl ic0 ?_
  refine V_istore_n 69 C dX9_init_68 rfl (by decide) (L' := [(0, _), (1, _)]) rfl ?_
  have J69 : ∀ (fuel : Nat) (i9 : Nat) (f9 : Nat → Option Nat) (h6 : AH) (hi9 : i9 ≤ 2) (hO : h6 x = some (.inr (7, [.ref (x + 1), .ref (x + 33), .ref (x + 65), .ref (x + 547), .ref (x + 550), .ref (x + 553), .null]))) (hA : h6 (x + 553) = some (rfA 4 2 f9)) (hff : ∀ j, j < i9 → f9 j = some (x + 554 + 32 * j)) (hc : ∀ j, j < i9 → cty (x + 554 + 32 * j) (fun _ => 0) h6) (c1 : cty (x + 1) (fun _ => 0) h6) (c2 : cty (x + 33) (fun _ => 0) h6) (c3 : ∀ D, pst (x + 65) 0 0 D h6) (c4 : pln (x + 547) (fun _ => nI 0) (fun _ => nI 0) h6) (c5 : ∀ T, tx0 (x + 550) T 0 (nI 0) (nI 0) (fun _ => nI 0) (fun _ => nI 0) h6) (hX : FX x h h6), 2 - i9 < fuel → V p₀ l e₀ (rmD 4 618 3223) s₀ m₀ as₀ bl₀ me₀ c₀ (MQ bl₀ (Po G (fun v n' h' => v = none ∧ n' = x + 619 ∧ (∀ D S T, SysC x (fun _ => 0) 0 D S (fun _ => false) 0 T h') ∧ FX x h h')) as₀ s₀ 618 3223 (rg G)) G 2 (553 + 32 * i9) (2899 + 161 * i9) (x + 554 + 32 * i9) h6 69 [(0, .ref x), (1, .int (nI i9))] [] := by
    intro fuel
    induction fuel with
    | zero => intro i9 f9 h6 hi9 hO hA hff hc c1 c2 c3 c4 c5 hX hf; omega
    | succ fuel ih69 =>
      intro i9 f9 h6 hi9 hO hA hff hc c1 c2 c3 c4 c5 hX hf
      refine V_iload_n 70 C dX9_init_69 rfl rfl ?_
      refine V_iconst 71 C dX9_init_70 rfl ic2 ?_
      refine V_icmp_geN 93 74 C dX9_init_71 (by decide) rfl (by omega) (by omega) (fun c71 => ?_) (fun c71 => ?_)
      · have ei : i9 = 2 := by omega
        subst ei
        refine V_aload_n 94 C dX9_init_93 rfl rfl ?_
        refine V_iconst 95 C dX9_init_94 rfl ic2 ?_
        refine V_newarr 97 C 1 (2, .inl (fun _ => nI 0)) dX9_init_95 rfl rfl tw204 rfl (fun _ => rfl) (by decide) ⟨by show _ ≤ 618; omega, by show _ ≤ 3223; omega⟩ ?_
        refine V_putF (fs' := [_, _, _, _, _, _, _]) (k := 6) 100 C (hin rfl) dX9_init_97 rfl fcX9 tw234 (by decide) rfl rfl rfl ((up_n _ (by omega)).trans hO) rfl rfl (Nat.le_of_ble_eq_true rfl) rfl ?_
        refine V_hp (fun h9 e9 => ?_)
        have hk9 : ∀ a, ¬ a = x → ¬ a = x + 618 → h9 a = h6 a := fun a g1 g2 => by rw [e9, up_n _ g1, up_n _ g2]
        refine V_return C dX9_init_100 rfl (by omega) (by omega) ?_
        exact ⟨rfl, by omega, fun D S T => ⟨by rw [e9]; exact up_s _ _ _, c1.fr (fun a _ _ => hk9 a (by omega) (by omega)), ⟨_, c2.fr (fun a _ _ => hk9 a (by omega) (by omega))⟩, ⟨0, (c3 D).fr (fun a _ _ => hk9 a (by omega) (by omega))⟩, ⟨_, _, pln_fr c4 (fun a _ _ => hk9 a (by omega) (by omega))⟩, ⟨_, _, _, _, tx0_fr (c5 T) (fun a _ _ => hk9 a (by omega) (by omega))⟩, ⟨f9, (hk9 _ (by omega) (by omega)).trans hA, hff⟩, fun i hi => ⟨_, (hc i hi).fr (fun a _ _ => hk9 a (by omega) (by omega))⟩, fun i hi e => (by cases e), ⟨_, by rw [e9, up_n _ (by omega)]; exact up_s _ _ _, fun i hi => rfl⟩⟩, fun a ha => (hk9 a (by omega) (by omega)).trans (hX a ha)⟩
      · refine V_aload_n 75 C dX9_init_74 rfl rfl ?_
        refine V_get (k := 5) 78 C dX9_init_75 rfl fcX9 tw233 (by decide) rfl hO rfl ?_
        refine V_iload_n 79 C dX9_init_78 rfl rfl ?_
        refine V_new 82 C [.int (nI 0), .int (nI 0), .int (nI 0), .int (nI 0), .int (nI 0), .int (nI 0), .int (nI 0), .null, .null, .null, .null] dX9_init_79 rfl fcX1 tw27 tw28 tw2 (by decide +kernel) ⟨by show _ ≤ 618; omega, by show _ ≤ 3223; omega⟩ ?_
        refine V_dup 83 C dX9_init_82 rfl rfl ?_
        refine V_callI 86 C dX9_init_83 rfl rfl mX1_init tw29 (c_X1_init l G _ _ (x + 554 + 32 * i9) rfl (up_s _ _ _)) rfl rfl (by decide) ⟨by omega, by omega⟩ (Nat.le_of_ble_eq_true rfl) ?_
        rintro _ n7 h7 ⟨rfl, hn7, hC7, hF7⟩
        obtain rfl : n7 = x + 554 + 32 * (i9 + 1) := by omega
        refine V_aast (j := i9) 87 C dX9_init_86 rfl ((hF7 _ (by omega)).trans ((up_n _ (by omega)).trans hA)) rfl hC7.1 rfl (by omega) (by omega) ?_
        refine V_hp (fun h8 e8 => ?_)
        have hk : ∀ a, ¬ a = x + 553 → (a < x + 554 + 32 * i9 ∨ x + 554 + 32 * i9 + 32 ≤ a) → h8 a = h6 a := fun a g1 g2 => by rw [e8, up_n _ g1, hF7 _ (by omega), up_n _ (by omega)]
        refine V_iinc 90 C dX9_init_87 rfl (by decide) rfl (ii1 _) (L' := [(0, _), (1, _)]) rfl ?_
        refine V_goto 69 C dX9_init_90 (by decide) ?_
        refine V_L [0, 1] rfl ?_
        exact ih69 (i9 + 1) _ h8 (by omega) ((hk _ (by omega) (by omega)).trans hO) (by rw [e8]; exact up_s _ _ _) (vup_to hff) (fun j hj => by
          by_cases e : j = i9
          · rw [e]; exact hC7.fr (fun a _ _ => by rw [e8, up_n _ (by omega)])
          · exact (hc j (by omega)).fr (fun a _ _ => hk a (by omega) (by omega))) (c1.fr (fun a _ _ => hk a (by omega) (by omega))) (c2.fr (fun a _ _ => hk a (by omega) (by omega))) (fun D => (c3 D).fr (fun a _ _ => hk a (by omega) (by omega))) (pln_fr c4 (fun a _ _ => hk a (by omega) (by omega))) (fun T => tx0_fr (c5 T) (fun a _ _ => hk a (by omega) (by omega))) (fun a ha => (hk a (by omega) (by omega)).trans (hX a ha)) (by omega)
  refine V_L [0, 1] rfl ?_
  refine V_hp (fun h6 e6 => ?_)
  have k6 : ∀ a, ¬ a = x → ¬ a = x + 553 → h6 a = h5 a := fun a g1 g2 => by rw [e6, up_n _ g1, up_n _ g2, up_n _ g1]
  exact J69 3 0 _ h6 (by omega) (by rw [e6]; exact up_s _ _ _) (by rw [e6, up_n _ (by omega)]; exact up_s _ _ _) (fun j hj => absurd hj (Nat.not_lt_zero j)) (fun j hj => absurd hj (Nat.not_lt_zero j)) (hC1.fr (fun a _ _ => by rw [k6 _ (by omega) (by omega), k5 _ (by omega) (by omega), k4 _ (by omega) (by omega), k3 _ (by omega) (by omega), k2 _ (by omega) (by omega)])) (hC2.fr (fun a _ _ => by rw [k6 _ (by omega) (by omega), k5 _ (by omega) (by omega), k4 _ (by omega) (by omega), k3 _ (by omega) (by omega)])) (fun D => (hP3 D).fr (fun a _ _ => by rw [k6 _ (by omega) (by omega), k5 _ (by omega) (by omega), k4 _ (by omega) (by omega)])) (pln_fr hL4 (fun a _ _ => by rw [k6 _ (by omega) (by omega), k5 _ (by omega) (by omega)])) (fun T => tx0_fr (hT5 T) (fun a _ _ => by rw [k6 _ (by omega) (by omega)])) (fun a ha => by rw [k6 _ (by omega) (by omega), k5 _ (by omega) (by omega), k4 _ (by omega) (by omega), k3 _ (by omega) (by omega), k2 _ (by omega) (by omega), k1 _ (by omega) (by omega)]) (by omega)


