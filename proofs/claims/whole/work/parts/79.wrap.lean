/-! THE LAW'S WRAPPERS -/
theorem mL_append : MW yL_append cL_append 4 (some .int) [((0 : Nat), (9 : Nat), (12 : Nat), (13 : Nat)), ((0 : Nat), (9 : Nat), (15 : Nat), (15 : Nat))] 3 := ⟨tw293, tw0, ⟨by decide +kernel, by decide +kernel⟩, by decide +kernel, by decide, by decide +kernel, tw292⟩
theorem dL_append_0 : decode cL_append 0 = .ok (.aload_n 2, 1) := by decide +kernel
theorem dL_append_1 : decode cL_append 1 = .ok (.iconst 0, 1) := by decide +kernel
theorem dL_append_2 : decode cL_append 2 = .ok (.aload_n 0, 1) := by decide +kernel
theorem dL_append_3 : decode cL_append 3 = .ok (.iload_n 1, 1) := by decide +kernel
theorem dL_append_4 : decode cL_append 4 = .ok (.invokevirtual 7, 3) := by decide +kernel
theorem dL_append_7 : decode cL_append 7 = .ok (.i2l, 1) := by decide +kernel
theorem dL_append_8 : decode cL_append 8 = .ok (.lastore, 1) := by decide +kernel
theorem dL_append_9 : decode cL_append 9 = .ok (.goto 9, 3) := by decide +kernel
theorem dL_append_12 : decode cL_append 12 = .ok (.astore_n 3, 1) := by decide +kernel
theorem dL_append_13 : decode cL_append 13 = .ok (.iconst 1, 1) := by decide +kernel
theorem dL_append_14 : decode cL_append 14 = .ok (.ireturn, 1) := by decide +kernel
theorem dL_append_15 : decode cL_append 15 = .ok (.astore_n 3, 1) := by decide +kernel
theorem dL_append_16 : decode cL_append 16 = .ok (.iconst 2, 1) := by decide +kernel
theorem dL_append_17 : decode cL_append 17 = .ok (.ireturn, 1) := by decide +kernel
theorem dL_append_18 : decode cL_append 18 = .ok (.iconst 0, 1) := by decide +kernel
theorem dL_append_19 : decode cL_append 19 = .ok (.ireturn, 1) := by decide +kernel
set_option maxRecDepth 100000 in
set_option maxHeartbeats 4000000 in
theorem c_L_append (l : Launch) (G : GT) (n : Nat) (h : AH) (hl : l.stackTraces = false) (x : Nat) (y : Nat → Nat) (k : Nat) (D S : Nat → Nat → Nat) (sv : Nat → Bool) (N : Nat) (T : Nat → Nat) (hS : SysC x y k D S sv N T h) (hI : SI y k D S sv N T) (p1 : Int32) (o : Nat) (f : Nat → Int64) (hof : h o = some (.inl (3, 1, .inr (.inl f)))) (ho : o < x ∨ x + 619 ≤ o) : CW l yL_append cL_append 4 (some .int) [((0 : Nat), (9 : Nat), (12 : Nat), (13 : Nat)), ((0 : Nat), (9 : Nat), (15 : Nat), (15 : Nat))] 8 4 24 G n h [.ref x, .int p1, .ref o] (PoW x o h (if ix p1 256 then (if N < 120 then 0 else 2) else 1) (nI (N + 1)) y k D S sv (aN (if ix p1 256 then (if N < 120 then 0 else 2) else 1) N) (aTx (if ix p1 256 then (if N < 120 then 0 else 2) else 1) N T (z p1))) := by
  obtain ⟨w0, -⟩ := id hS
  refine CW_of mL_append (Nat.le_of_ble_eq_true rfl) ?_
  intro p₀ e₀ s₀ m₀ as₀ bl₀ me₀ c₀ C hT
  refine V_Le (L' := [(0, .ref x), (1, .int p1), (2, .ref o)]) rfl ?_
  refine V_aload_n 1 C dL_append_0 rfl rfl ?_
  refine V_iconst 2 C dL_append_1 rfl ic0 ?_
  refine V_aload_n 3 C dL_append_2 rfl rfl ?_
  refine V_iload_n 4 C dL_append_3 rfl rfl ?_
  refine V_callVXH 7 C hT dL_append_4 rfl mX9_append tw296 fcX9 w0 (c_X9_append l G _ _ hl x y k D S sv N T hS hI p1) rfl rfl (by decide) ⟨by omega, by omega⟩ (Nat.le_of_ble_eq_true rfl) (fun E h1 e1 => ?_) ?_
  · obtain ⟨g0, g1, gS, gF⟩ := e1
    rcases ex_2 g0 g1 with ⟨gk, rfl⟩ | ⟨gk, rfl⟩
    · skip
      have hz0 : ∀ z ∈ ([] : List (Nat × Nat × Nat × Nat)), z.2.2.2 ≠ 0 ∧ ∃ nm : String, Cond.classLink RL z.2.2.2 nm ∈ TB ∧ (iaE, nm) ∈ ncL := fun z hz => by cases hz
      refine ⟨12, ⟨[], (0, 9, 12, 13), [(0, 9, 15, 15)], rfl, hz0, by decide, by decide, tw294, by decide +kernel, rfl⟩, fun n1 q1 => ?_⟩
      refine V_astore_n 13 C dL_append_12 rfl (by decide) (L' := [(0, _), (1, _), (2, _), (3, _)]) rfl ?_
      refine V_iconst 14 C dL_append_13 rfl ic1 ?_
      refine V_ireturn C dL_append_14 rfl rfl (by omega) (by omega) ?_
      exact PoW_x gk g0 gS gF hof ho
    · skip
      have hz1 : ∀ z ∈ ([(0, 9, 12, 13)] : List (Nat × Nat × Nat × Nat)), z.2.2.2 ≠ 0 ∧ ∃ nm : String, Cond.classLink RL z.2.2.2 nm ∈ TB ∧ (isE, nm) ∈ ncL := fun z hz => by
        rcases List.mem_cons.mp hz with rfl | hz
        · exact ⟨by decide, _, tw294, by decide +kernel⟩
        cases hz
      refine ⟨15, ⟨[(0, 9, 12, 13)], (0, 9, 15, 15), [], rfl, hz1, by decide, by decide, tw295, by decide +kernel, rfl⟩, fun n1 q1 => ?_⟩
      refine V_astore_n 16 C dL_append_15 rfl (by decide) (L' := [(0, _), (1, _), (2, _), (3, _)]) rfl ?_
      refine V_iconst 17 C dL_append_16 rfl ic2 ?_
      refine V_ireturn C dL_append_17 rfl rfl (by omega) (by omega) ?_
      exact PoW_x gk g0 gS gF hof ho
  · rintro _ n1 h1 ⟨g0, rfl, gS, gF⟩
    refine V_i2l 8 C dL_append_7 rfl  ?_
    refine V_last (j := 0) 9 C dL_append_8 rfl ((gF o ho).trans hof) rfl (by omega) (by omega) ?_
    refine V_goto 18 C dL_append_9 (by decide) ?_
    refine V_iconst 19 C dL_append_18 rfl ic0 ?_
    refine V_ireturn C dL_append_19 rfl rfl (by omega) (by omega) ?_
    exact PoW_0 g0 gS gF ho

theorem mL_load : MW yL_load cL_load 3 (some .int) [((0 : Nat), (8 : Nat), (11 : Nat), (15 : Nat))] 2 := ⟨tw398, tw0, ⟨by decide +kernel, by decide +kernel⟩, by decide +kernel, by decide, by decide +kernel, tw397⟩
theorem dL_load_0 : decode cL_load 0 = .ok (.aload_n 1, 1) := by decide +kernel
theorem dL_load_1 : decode cL_load 1 = .ok (.iconst 0, 1) := by decide +kernel
theorem dL_load_2 : decode cL_load 2 = .ok (.aload_n 0, 1) := by decide +kernel
theorem dL_load_3 : decode cL_load 3 = .ok (.invokevirtual 17, 3) := by decide +kernel
theorem dL_load_6 : decode cL_load 6 = .ok (.i2l, 1) := by decide +kernel
theorem dL_load_7 : decode cL_load 7 = .ok (.lastore, 1) := by decide +kernel
theorem dL_load_8 : decode cL_load 8 = .ok (.goto 6, 3) := by decide +kernel
theorem dL_load_11 : decode cL_load 11 = .ok (.astore_n 2, 1) := by decide +kernel
theorem dL_load_12 : decode cL_load 12 = .ok (.iconst 1, 1) := by decide +kernel
theorem dL_load_13 : decode cL_load 13 = .ok (.ireturn, 1) := by decide +kernel
theorem dL_load_14 : decode cL_load 14 = .ok (.iconst 0, 1) := by decide +kernel
theorem dL_load_15 : decode cL_load 15 = .ok (.ireturn, 1) := by decide +kernel
set_option maxRecDepth 100000 in
set_option maxHeartbeats 4000000 in
theorem c_L_load (l : Launch) (G : GT) (n : Nat) (h : AH) (hl : l.stackTraces = false) (x : Nat) (y : Nat → Nat) (k : Nat) (D S : Nat → Nat → Nat) (sv : Nat → Bool) (N : Nat) (T : Nat → Nat) (hS : SysC x y k D S sv N T h) (hI : SI y k D S sv N T) (o : Nat) (f : Nat → Int64) (hof : h o = some (.inl (3, 1, .inr (.inl f)))) (ho : o < x ∨ x + 619 ≤ o) : CW l yL_load cL_load 3 (some .int) [((0 : Nat), (8 : Nat), (11 : Nat), (15 : Nat))] 10 4 24 G n h [.ref x, .ref o] (PoW x o h (if fer T N = NO then 0 else 1) (nI (rdt T N N 1 (fun _ => 0) 0).2.2) (if fer T N = NO then (rdt T N N 1 (fun _ => 0) 0).2.1 else y) (if fer T N = NO then 0 else k) D S (if fer T N = NO then (fun _ => false) else sv) N T) := by
  obtain ⟨w0, -⟩ := id hS
  refine CW_of mL_load (Nat.le_of_ble_eq_true rfl) ?_
  intro p₀ e₀ s₀ m₀ as₀ bl₀ me₀ c₀ C hT
  refine V_Le (L' := [(0, .ref x), (1, .ref o)]) rfl ?_
  refine V_aload_n 1 C dL_load_0 rfl rfl ?_
  refine V_iconst 2 C dL_load_1 rfl ic0 ?_
  refine V_aload_n 3 C dL_load_2 rfl rfl ?_
  refine V_callVXH 6 C hT dL_load_3 rfl mX9_load tw399 fcX9 w0 (c_X9_load l G _ _ hl x y k D S sv N T hS hI) rfl rfl (by decide) ⟨by omega, by omega⟩ (Nat.le_of_ble_eq_true rfl) (fun E h1 e1 => ?_) ?_
  · obtain ⟨g0, g1, gS, gF⟩ := e1
    obtain ⟨gk, rfl⟩ := ex_1 g0 g1
    have hz0 : ∀ z ∈ ([] : List (Nat × Nat × Nat × Nat)), z.2.2.2 ≠ 0 ∧ ∃ nm : String, Cond.classLink RL z.2.2.2 nm ∈ TB ∧ (isE, nm) ∈ ncL := fun z hz => by cases hz
    refine ⟨11, ⟨[], (0, 8, 11, 15), [], rfl, hz0, by decide, by decide, tw295, by decide +kernel, rfl⟩, fun n1 q1 => ?_⟩
    refine V_astore_n 12 C dL_load_11 rfl (by decide) (L' := [(0, _), (1, _), (2, _)]) rfl ?_
    refine V_iconst 13 C dL_load_12 rfl ic1 ?_
    refine V_ireturn C dL_load_13 rfl rfl (by omega) (by omega) ?_
    exact PoW_x gk g0 gS gF hof ho
  · rintro _ n1 h1 ⟨g0, rfl, gS, gF⟩
    refine V_i2l 7 C dL_load_6 rfl  ?_
    refine V_last (j := 0) 8 C dL_load_7 rfl ((gF o ho).trans hof) rfl (by omega) (by omega) ?_
    refine V_goto 14 C dL_load_8 (by decide) ?_
    refine V_iconst 15 C dL_load_14 rfl ic0 ?_
    refine V_ireturn C dL_load_15 rfl rfl (by omega) (by omega) ?_
    exact PoW_0 g0 gS gF ho

theorem mL_about : MW yL_about cL_about 4 (some .int) [((0 : Nat), (9 : Nat), (12 : Nat), (13 : Nat))] 3 := ⟨tw544, tw0, ⟨by decide +kernel, by decide +kernel⟩, by decide +kernel, by decide, by decide +kernel, tw543⟩
theorem dL_about_0 : decode cL_about 0 = .ok (.aload_n 2, 1) := by decide +kernel
theorem dL_about_1 : decode cL_about 1 = .ok (.iconst 0, 1) := by decide +kernel
theorem dL_about_2 : decode cL_about 2 = .ok (.aload_n 0, 1) := by decide +kernel
theorem dL_about_3 : decode cL_about 3 = .ok (.iload_n 1, 1) := by decide +kernel
theorem dL_about_4 : decode cL_about 4 = .ok (.invokevirtual 21, 3) := by decide +kernel
theorem dL_about_7 : decode cL_about 7 = .ok (.i2l, 1) := by decide +kernel
theorem dL_about_8 : decode cL_about 8 = .ok (.lastore, 1) := by decide +kernel
theorem dL_about_9 : decode cL_about 9 = .ok (.goto 6, 3) := by decide +kernel
theorem dL_about_12 : decode cL_about 12 = .ok (.astore_n 3, 1) := by decide +kernel
theorem dL_about_13 : decode cL_about 13 = .ok (.iconst 1, 1) := by decide +kernel
theorem dL_about_14 : decode cL_about 14 = .ok (.ireturn, 1) := by decide +kernel
theorem dL_about_15 : decode cL_about 15 = .ok (.iconst 0, 1) := by decide +kernel
theorem dL_about_16 : decode cL_about 16 = .ok (.ireturn, 1) := by decide +kernel
set_option maxRecDepth 100000 in
set_option maxHeartbeats 4000000 in
theorem c_L_about (l : Launch) (G : GT) (n : Nat) (h : AH) (hl : l.stackTraces = false) (x : Nat) (y : Nat → Nat) (k : Nat) (D S : Nat → Nat → Nat) (sv : Nat → Bool) (N : Nat) (T : Nat → Nat) (hS : SysC x y k D S sv N T h) (hI : SI y k D S sv N T) (p1 : Int32) (o : Nat) (f : Nat → Int64) (hof : h o = some (.inl (3, 1, .inr (.inl f)))) (ho : o < x ∨ x + 619 ≤ o) : CW l yL_about cL_about 4 (some .int) [((0 : Nat), (9 : Nat), (12 : Nat), (13 : Nat))] 8 4 24 G n h [.ref x, .int p1, .ref o] (PoW x o h (if ix p1 10 then 0 else 1) (nI (qAbout y (z p1))) y k D S sv N T) := by
  obtain ⟨w0, -⟩ := id hS
  refine CW_of mL_about (Nat.le_of_ble_eq_true rfl) ?_
  intro p₀ e₀ s₀ m₀ as₀ bl₀ me₀ c₀ C hT
  refine V_Le (L' := [(0, .ref x), (1, .int p1), (2, .ref o)]) rfl ?_
  refine V_aload_n 1 C dL_about_0 rfl rfl ?_
  refine V_iconst 2 C dL_about_1 rfl ic0 ?_
  refine V_aload_n 3 C dL_about_2 rfl rfl ?_
  refine V_iload_n 4 C dL_about_3 rfl rfl ?_
  refine V_callVXH 7 C hT dL_about_4 rfl mX9_about tw545 fcX9 w0 (c_X9_about l G _ _ hl x y k D S sv N T hS hI p1) rfl rfl (by decide) ⟨by omega, by omega⟩ (Nat.le_of_ble_eq_true rfl) (fun E h1 e1 => ?_) ?_
  · obtain ⟨g0, g1, gS, gF⟩ := e1
    obtain ⟨gk, rfl⟩ := ex_1 g0 g1
    have hz0 : ∀ z ∈ ([] : List (Nat × Nat × Nat × Nat)), z.2.2.2 ≠ 0 ∧ ∃ nm : String, Cond.classLink RL z.2.2.2 nm ∈ TB ∧ (iaE, nm) ∈ ncL := fun z hz => by cases hz
    refine ⟨12, ⟨[], (0, 9, 12, 13), [], rfl, hz0, by decide, by decide, tw294, by decide +kernel, rfl⟩, fun n1 q1 => ?_⟩
    refine V_astore_n 13 C dL_about_12 rfl (by decide) (L' := [(0, _), (1, _), (2, _), (3, _)]) rfl ?_
    refine V_iconst 14 C dL_about_13 rfl ic1 ?_
    refine V_ireturn C dL_about_14 rfl rfl (by omega) (by omega) ?_
    exact PoW_x gk g0 gS gF hof ho
  · rintro _ n1 h1 ⟨g0, rfl, gS, gF⟩
    refine V_i2l 8 C dL_about_7 rfl  ?_
    refine V_last (j := 0) 9 C dL_about_8 rfl ((gF o ho).trans hof) rfl (by omega) (by omega) ?_
    refine V_goto 15 C dL_about_9 (by decide) ?_
    refine V_iconst 16 C dL_about_15 rfl ic0 ?_
    refine V_ireturn C dL_about_16 rfl rfl (by omega) (by omega) ?_
    exact PoW_0 g0 gS gF ho

theorem mL_roadOf : MW yL_roadOf cL_roadOf 5 (some .int) [((0 : Nat), (10 : Nat), (13 : Nat), (28 : Nat)), ((0 : Nat), (10 : Nat), (17 : Nat), (13 : Nat))] 4 := ⟨tw574, tw0, ⟨by decide +kernel, by decide +kernel⟩, by decide +kernel, by decide, by decide +kernel, tw573⟩
theorem dL_roadOf_0 : decode cL_roadOf 0 = .ok (.aload_n 3, 1) := by decide +kernel
theorem dL_roadOf_1 : decode cL_roadOf 1 = .ok (.iconst 0, 1) := by decide +kernel
theorem dL_roadOf_2 : decode cL_roadOf 2 = .ok (.aload_n 0, 1) := by decide +kernel
theorem dL_roadOf_3 : decode cL_roadOf 3 = .ok (.iload_n 1, 1) := by decide +kernel
theorem dL_roadOf_4 : decode cL_roadOf 4 = .ok (.iload_n 2, 1) := by decide +kernel
theorem dL_roadOf_5 : decode cL_roadOf 5 = .ok (.invokevirtual 24, 3) := by decide +kernel
theorem dL_roadOf_8 : decode cL_roadOf 8 = .ok (.i2l, 1) := by decide +kernel
theorem dL_roadOf_9 : decode cL_roadOf 9 = .ok (.lastore, 1) := by decide +kernel
theorem dL_roadOf_10 : decode cL_roadOf 10 = .ok (.goto 11, 3) := by decide +kernel
theorem dL_roadOf_13 : decode cL_roadOf 13 = .ok (.astore 4, 2) := by decide +kernel
theorem dL_roadOf_15 : decode cL_roadOf 15 = .ok (.iconst 1, 1) := by decide +kernel
theorem dL_roadOf_16 : decode cL_roadOf 16 = .ok (.ireturn, 1) := by decide +kernel
theorem dL_roadOf_17 : decode cL_roadOf 17 = .ok (.astore 4, 2) := by decide +kernel
theorem dL_roadOf_19 : decode cL_roadOf 19 = .ok (.iconst 2, 1) := by decide +kernel
theorem dL_roadOf_20 : decode cL_roadOf 20 = .ok (.ireturn, 1) := by decide +kernel
theorem dL_roadOf_21 : decode cL_roadOf 21 = .ok (.iconst 0, 1) := by decide +kernel
theorem dL_roadOf_22 : decode cL_roadOf 22 = .ok (.ireturn, 1) := by decide +kernel
set_option maxRecDepth 100000 in
set_option maxHeartbeats 4000000 in
theorem c_L_roadOf (l : Launch) (G : GT) (n : Nat) (h : AH) (hl : l.stackTraces = false) (x : Nat) (y : Nat → Nat) (k : Nat) (D S : Nat → Nat → Nat) (sv : Nat → Bool) (N : Nat) (T : Nat → Nat) (hS : SysC x y k D S sv N T h) (hI : SI y k D S sv N T) (p1 : Int32) (p2 : Int32) (o : Nat) (f : Nat → Int64) (hof : h o = some (.inl (3, 1, .inr (.inl f)))) (ho : o < x ∨ x + 619 ≤ o) : CW l yL_roadOf cL_roadOf 5 (some .int) [((0 : Nat), (10 : Nat), (13 : Nat), (28 : Nat)), ((0 : Nat), (10 : Nat), (17 : Nat), (13 : Nat))] 8 4 24 G n h [.ref x, .int p1, .int p2, .ref o] (PoW x o h (if ix p1 (y 1) then (if ix p2 3 then 0 else 2) else 1) (nI (y (7 + 3 * z p1 + z p2))) y k D S sv N T) := by
  obtain ⟨w0, -⟩ := id hS
  refine CW_of mL_roadOf (Nat.le_of_ble_eq_true rfl) ?_
  intro p₀ e₀ s₀ m₀ as₀ bl₀ me₀ c₀ C hT
  refine V_Le (L' := [(0, .ref x), (1, .int p1), (2, .int p2), (3, .ref o)]) rfl ?_
  refine V_aload_n 1 C dL_roadOf_0 rfl rfl ?_
  refine V_iconst 2 C dL_roadOf_1 rfl ic0 ?_
  refine V_aload_n 3 C dL_roadOf_2 rfl rfl ?_
  refine V_iload_n 4 C dL_roadOf_3 rfl rfl ?_
  refine V_iload_n 5 C dL_roadOf_4 rfl rfl ?_
  refine V_callVXH 8 C hT dL_roadOf_5 rfl mX9_roadOf tw576 fcX9 w0 (c_X9_roadOf l G _ _ hl x y k D S sv N T hS hI p1 p2) rfl rfl (by decide) ⟨by omega, by omega⟩ (Nat.le_of_ble_eq_true rfl) (fun E h1 e1 => ?_) ?_
  · obtain ⟨g0, g1, gS, gF⟩ := e1
    rcases ex_2 g0 g1 with ⟨gk, rfl⟩ | ⟨gk, rfl⟩
    · skip
      have hz0 : ∀ z ∈ ([] : List (Nat × Nat × Nat × Nat)), z.2.2.2 ≠ 0 ∧ ∃ nm : String, Cond.classLink RL z.2.2.2 nm ∈ TB ∧ (ioE, nm) ∈ ncL := fun z hz => by cases hz
      refine ⟨13, ⟨[], (0, 10, 13, 28), [(0, 10, 17, 13)], rfl, hz0, by decide, by decide, tw575, by decide +kernel, rfl⟩, fun n1 q1 => ?_⟩
      refine V_astore 15 C dL_roadOf_13 rfl (by decide) (L' := [(0, _), (1, _), (2, _), (3, _), (4, _)]) rfl ?_
      refine V_iconst 16 C dL_roadOf_15 rfl ic1 ?_
      refine V_ireturn C dL_roadOf_16 rfl rfl (by omega) (by omega) ?_
      exact PoW_x gk g0 gS gF hof ho
    · skip
      have hz1 : ∀ z ∈ ([(0, 10, 13, 28)] : List (Nat × Nat × Nat × Nat)), z.2.2.2 ≠ 0 ∧ ∃ nm : String, Cond.classLink RL z.2.2.2 nm ∈ TB ∧ (iaE, nm) ∈ ncL := fun z hz => by
        rcases List.mem_cons.mp hz with rfl | hz
        · exact ⟨by decide, _, tw575, by decide +kernel⟩
        cases hz
      refine ⟨17, ⟨[(0, 10, 13, 28)], (0, 10, 17, 13), [], rfl, hz1, by decide, by decide, tw294, by decide +kernel, rfl⟩, fun n1 q1 => ?_⟩
      refine V_astore 19 C dL_roadOf_17 rfl (by decide) (L' := [(0, _), (1, _), (2, _), (3, _), (4, _)]) rfl ?_
      refine V_iconst 20 C dL_roadOf_19 rfl ic2 ?_
      refine V_ireturn C dL_roadOf_20 rfl rfl (by omega) (by omega) ?_
      exact PoW_x gk g0 gS gF hof ho
  · rintro _ n1 h1 ⟨g0, rfl, gS, gF⟩
    refine V_i2l 9 C dL_roadOf_8 rfl  ?_
    refine V_last (j := 0) 10 C dL_roadOf_9 rfl ((gF o ho).trans hof) rfl (by omega) (by omega) ?_
    refine V_goto 21 C dL_roadOf_10 (by decide) ?_
    refine V_iconst 22 C dL_roadOf_21 rfl ic0 ?_
    refine V_ireturn C dL_roadOf_22 rfl rfl (by omega) (by omega) ?_
    exact PoW_0 g0 gS gF ho

theorem mL_runnerOf : MW yL_runnerOf cL_runnerOf 5 (some .int) [((0 : Nat), (10 : Nat), (13 : Nat), (28 : Nat)), ((0 : Nat), (10 : Nat), (17 : Nat), (13 : Nat))] 4 := ⟨tw603, tw0, ⟨by decide +kernel, by decide +kernel⟩, by decide +kernel, by decide, by decide +kernel, tw602⟩
theorem dL_runnerOf_0 : decode cL_runnerOf 0 = .ok (.aload_n 3, 1) := by decide +kernel
theorem dL_runnerOf_1 : decode cL_runnerOf 1 = .ok (.iconst 0, 1) := by decide +kernel
theorem dL_runnerOf_2 : decode cL_runnerOf 2 = .ok (.aload_n 0, 1) := by decide +kernel
theorem dL_runnerOf_3 : decode cL_runnerOf 3 = .ok (.iload_n 1, 1) := by decide +kernel
theorem dL_runnerOf_4 : decode cL_runnerOf 4 = .ok (.iload_n 2, 1) := by decide +kernel
theorem dL_runnerOf_5 : decode cL_runnerOf 5 = .ok (.invokevirtual 30, 3) := by decide +kernel
theorem dL_runnerOf_8 : decode cL_runnerOf 8 = .ok (.i2l, 1) := by decide +kernel
theorem dL_runnerOf_9 : decode cL_runnerOf 9 = .ok (.lastore, 1) := by decide +kernel
theorem dL_runnerOf_10 : decode cL_runnerOf 10 = .ok (.goto 11, 3) := by decide +kernel
theorem dL_runnerOf_13 : decode cL_runnerOf 13 = .ok (.astore 4, 2) := by decide +kernel
theorem dL_runnerOf_15 : decode cL_runnerOf 15 = .ok (.iconst 1, 1) := by decide +kernel
theorem dL_runnerOf_16 : decode cL_runnerOf 16 = .ok (.ireturn, 1) := by decide +kernel
theorem dL_runnerOf_17 : decode cL_runnerOf 17 = .ok (.astore 4, 2) := by decide +kernel
theorem dL_runnerOf_19 : decode cL_runnerOf 19 = .ok (.iconst 2, 1) := by decide +kernel
theorem dL_runnerOf_20 : decode cL_runnerOf 20 = .ok (.ireturn, 1) := by decide +kernel
theorem dL_runnerOf_21 : decode cL_runnerOf 21 = .ok (.iconst 0, 1) := by decide +kernel
theorem dL_runnerOf_22 : decode cL_runnerOf 22 = .ok (.ireturn, 1) := by decide +kernel
set_option maxRecDepth 100000 in
set_option maxHeartbeats 4000000 in
theorem c_L_runnerOf (l : Launch) (G : GT) (n : Nat) (h : AH) (hl : l.stackTraces = false) (x : Nat) (y : Nat → Nat) (k : Nat) (D S : Nat → Nat → Nat) (sv : Nat → Bool) (N : Nat) (T : Nat → Nat) (hS : SysC x y k D S sv N T h) (hI : SI y k D S sv N T) (p1 : Int32) (p2 : Int32) (o : Nat) (f : Nat → Int64) (hof : h o = some (.inl (3, 1, .inr (.inl f)))) (ho : o < x ∨ x + 619 ≤ o) : CW l yL_runnerOf cL_runnerOf 5 (some .int) [((0 : Nat), (10 : Nat), (13 : Nat), (28 : Nat)), ((0 : Nat), (10 : Nat), (17 : Nat), (13 : Nat))] 8 4 24 G n h [.ref x, .int p1, .int p2, .ref o] (PoW x o h (if ix p1 (y 2) then (if ix p2 4 then 0 else 2) else 1) (nI (qRunner y (z p1) (z p2))) y k D S sv N T) := by
  obtain ⟨w0, -⟩ := id hS
  refine CW_of mL_runnerOf (Nat.le_of_ble_eq_true rfl) ?_
  intro p₀ e₀ s₀ m₀ as₀ bl₀ me₀ c₀ C hT
  refine V_Le (L' := [(0, .ref x), (1, .int p1), (2, .int p2), (3, .ref o)]) rfl ?_
  refine V_aload_n 1 C dL_runnerOf_0 rfl rfl ?_
  refine V_iconst 2 C dL_runnerOf_1 rfl ic0 ?_
  refine V_aload_n 3 C dL_runnerOf_2 rfl rfl ?_
  refine V_iload_n 4 C dL_runnerOf_3 rfl rfl ?_
  refine V_iload_n 5 C dL_runnerOf_4 rfl rfl ?_
  refine V_callVXH 8 C hT dL_runnerOf_5 rfl mX9_runnerOf tw604 fcX9 w0 (c_X9_runnerOf l G _ _ hl x y k D S sv N T hS hI p1 p2) rfl rfl (by decide) ⟨by omega, by omega⟩ (Nat.le_of_ble_eq_true rfl) (fun E h1 e1 => ?_) ?_
  · obtain ⟨g0, g1, gS, gF⟩ := e1
    rcases ex_2 g0 g1 with ⟨gk, rfl⟩ | ⟨gk, rfl⟩
    · skip
      have hz0 : ∀ z ∈ ([] : List (Nat × Nat × Nat × Nat)), z.2.2.2 ≠ 0 ∧ ∃ nm : String, Cond.classLink RL z.2.2.2 nm ∈ TB ∧ (ioE, nm) ∈ ncL := fun z hz => by cases hz
      refine ⟨13, ⟨[], (0, 10, 13, 28), [(0, 10, 17, 13)], rfl, hz0, by decide, by decide, tw575, by decide +kernel, rfl⟩, fun n1 q1 => ?_⟩
      refine V_astore 15 C dL_runnerOf_13 rfl (by decide) (L' := [(0, _), (1, _), (2, _), (3, _), (4, _)]) rfl ?_
      refine V_iconst 16 C dL_runnerOf_15 rfl ic1 ?_
      refine V_ireturn C dL_runnerOf_16 rfl rfl (by omega) (by omega) ?_
      exact PoW_x gk g0 gS gF hof ho
    · skip
      have hz1 : ∀ z ∈ ([(0, 10, 13, 28)] : List (Nat × Nat × Nat × Nat)), z.2.2.2 ≠ 0 ∧ ∃ nm : String, Cond.classLink RL z.2.2.2 nm ∈ TB ∧ (iaE, nm) ∈ ncL := fun z hz => by
        rcases List.mem_cons.mp hz with rfl | hz
        · exact ⟨by decide, _, tw575, by decide +kernel⟩
        cases hz
      refine ⟨17, ⟨[(0, 10, 13, 28)], (0, 10, 17, 13), [], rfl, hz1, by decide, by decide, tw294, by decide +kernel, rfl⟩, fun n1 q1 => ?_⟩
      refine V_astore 19 C dL_runnerOf_17 rfl (by decide) (L' := [(0, _), (1, _), (2, _), (3, _), (4, _)]) rfl ?_
      refine V_iconst 20 C dL_runnerOf_19 rfl ic2 ?_
      refine V_ireturn C dL_runnerOf_20 rfl rfl (by omega) (by omega) ?_
      exact PoW_x gk g0 gS gF hof ho
  · rintro _ n1 h1 ⟨g0, rfl, gS, gF⟩
    refine V_i2l 9 C dL_runnerOf_8 rfl  ?_
    refine V_last (j := 0) 10 C dL_runnerOf_9 rfl ((gF o ho).trans hof) rfl (by omega) (by omega) ?_
    refine V_goto 21 C dL_runnerOf_10 (by decide) ?_
    refine V_iconst 22 C dL_runnerOf_21 rfl ic0 ?_
    refine V_ireturn C dL_runnerOf_22 rfl rfl (by omega) (by omega) ?_
    exact PoW_0 g0 gS gF ho

theorem mL_sheetOf : MW yL_sheetOf cL_sheetOf 5 (some .int) [((0 : Nat), (10 : Nat), (13 : Nat), (28 : Nat)), ((0 : Nat), (10 : Nat), (17 : Nat), (13 : Nat))] 4 := ⟨tw613, tw0, ⟨by decide +kernel, by decide +kernel⟩, by decide +kernel, by decide, by decide +kernel, tw612⟩
theorem dL_sheetOf_0 : decode cL_sheetOf 0 = .ok (.aload_n 3, 1) := by decide +kernel
theorem dL_sheetOf_1 : decode cL_sheetOf 1 = .ok (.iconst 0, 1) := by decide +kernel
theorem dL_sheetOf_2 : decode cL_sheetOf 2 = .ok (.aload_n 0, 1) := by decide +kernel
theorem dL_sheetOf_3 : decode cL_sheetOf 3 = .ok (.iload_n 1, 1) := by decide +kernel
theorem dL_sheetOf_4 : decode cL_sheetOf 4 = .ok (.iload_n 2, 1) := by decide +kernel
theorem dL_sheetOf_5 : decode cL_sheetOf 5 = .ok (.invokevirtual 33, 3) := by decide +kernel
theorem dL_sheetOf_8 : decode cL_sheetOf 8 = .ok (.i2l, 1) := by decide +kernel
theorem dL_sheetOf_9 : decode cL_sheetOf 9 = .ok (.lastore, 1) := by decide +kernel
theorem dL_sheetOf_10 : decode cL_sheetOf 10 = .ok (.goto 11, 3) := by decide +kernel
theorem dL_sheetOf_13 : decode cL_sheetOf 13 = .ok (.astore 4, 2) := by decide +kernel
theorem dL_sheetOf_15 : decode cL_sheetOf 15 = .ok (.iconst 1, 1) := by decide +kernel
theorem dL_sheetOf_16 : decode cL_sheetOf 16 = .ok (.ireturn, 1) := by decide +kernel
theorem dL_sheetOf_17 : decode cL_sheetOf 17 = .ok (.astore 4, 2) := by decide +kernel
theorem dL_sheetOf_19 : decode cL_sheetOf 19 = .ok (.iconst 2, 1) := by decide +kernel
theorem dL_sheetOf_20 : decode cL_sheetOf 20 = .ok (.ireturn, 1) := by decide +kernel
theorem dL_sheetOf_21 : decode cL_sheetOf 21 = .ok (.iconst 0, 1) := by decide +kernel
theorem dL_sheetOf_22 : decode cL_sheetOf 22 = .ok (.ireturn, 1) := by decide +kernel
set_option maxRecDepth 100000 in
set_option maxHeartbeats 4000000 in
theorem c_L_sheetOf (l : Launch) (G : GT) (n : Nat) (h : AH) (hl : l.stackTraces = false) (x : Nat) (y : Nat → Nat) (k : Nat) (D S : Nat → Nat → Nat) (sv : Nat → Bool) (N : Nat) (T : Nat → Nat) (hS : SysC x y k D S sv N T h) (hI : SI y k D S sv N T) (p1 : Int32) (p2 : Int32) (o : Nat) (f : Nat → Int64) (hof : h o = some (.inl (3, 1, .inr (.inl f)))) (ho : o < x ∨ x + 619 ≤ o) : CW l yL_sheetOf cL_sheetOf 5 (some .int) [((0 : Nat), (10 : Nat), (13 : Nat), (28 : Nat)), ((0 : Nat), (10 : Nat), (17 : Nat), (13 : Nat))] 8 4 24 G n h [.ref x, .int p1, .int p2, .ref o] (PoW x o h (if ix p1 (y 4) then (if ix p2 8 then 0 else 2) else 1) (nI (qSheet y (z p1) (z p2))) y k D S sv N T) := by
  obtain ⟨w0, -⟩ := id hS
  refine CW_of mL_sheetOf (Nat.le_of_ble_eq_true rfl) ?_
  intro p₀ e₀ s₀ m₀ as₀ bl₀ me₀ c₀ C hT
  refine V_Le (L' := [(0, .ref x), (1, .int p1), (2, .int p2), (3, .ref o)]) rfl ?_
  refine V_aload_n 1 C dL_sheetOf_0 rfl rfl ?_
  refine V_iconst 2 C dL_sheetOf_1 rfl ic0 ?_
  refine V_aload_n 3 C dL_sheetOf_2 rfl rfl ?_
  refine V_iload_n 4 C dL_sheetOf_3 rfl rfl ?_
  refine V_iload_n 5 C dL_sheetOf_4 rfl rfl ?_
  refine V_callVXH 8 C hT dL_sheetOf_5 rfl mX9_sheetOf tw614 fcX9 w0 (c_X9_sheetOf l G _ _ hl x y k D S sv N T hS hI p1 p2) rfl rfl (by decide) ⟨by omega, by omega⟩ (Nat.le_of_ble_eq_true rfl) (fun E h1 e1 => ?_) ?_
  · obtain ⟨g0, g1, gS, gF⟩ := e1
    rcases ex_2 g0 g1 with ⟨gk, rfl⟩ | ⟨gk, rfl⟩
    · skip
      have hz0 : ∀ z ∈ ([] : List (Nat × Nat × Nat × Nat)), z.2.2.2 ≠ 0 ∧ ∃ nm : String, Cond.classLink RL z.2.2.2 nm ∈ TB ∧ (ioE, nm) ∈ ncL := fun z hz => by cases hz
      refine ⟨13, ⟨[], (0, 10, 13, 28), [(0, 10, 17, 13)], rfl, hz0, by decide, by decide, tw575, by decide +kernel, rfl⟩, fun n1 q1 => ?_⟩
      refine V_astore 15 C dL_sheetOf_13 rfl (by decide) (L' := [(0, _), (1, _), (2, _), (3, _), (4, _)]) rfl ?_
      refine V_iconst 16 C dL_sheetOf_15 rfl ic1 ?_
      refine V_ireturn C dL_sheetOf_16 rfl rfl (by omega) (by omega) ?_
      exact PoW_x gk g0 gS gF hof ho
    · skip
      have hz1 : ∀ z ∈ ([(0, 10, 13, 28)] : List (Nat × Nat × Nat × Nat)), z.2.2.2 ≠ 0 ∧ ∃ nm : String, Cond.classLink RL z.2.2.2 nm ∈ TB ∧ (iaE, nm) ∈ ncL := fun z hz => by
        rcases List.mem_cons.mp hz with rfl | hz
        · exact ⟨by decide, _, tw575, by decide +kernel⟩
        cases hz
      refine ⟨17, ⟨[(0, 10, 13, 28)], (0, 10, 17, 13), [], rfl, hz1, by decide, by decide, tw294, by decide +kernel, rfl⟩, fun n1 q1 => ?_⟩
      refine V_astore 19 C dL_sheetOf_17 rfl (by decide) (L' := [(0, _), (1, _), (2, _), (3, _), (4, _)]) rfl ?_
      refine V_iconst 20 C dL_sheetOf_19 rfl ic2 ?_
      refine V_ireturn C dL_sheetOf_20 rfl rfl (by omega) (by omega) ?_
      exact PoW_x gk g0 gS gF hof ho
  · rintro _ n1 h1 ⟨g0, rfl, gS, gF⟩
    refine V_i2l 9 C dL_sheetOf_8 rfl  ?_
    refine V_last (j := 0) 10 C dL_sheetOf_9 rfl ((gF o ho).trans hof) rfl (by omega) (by omega) ?_
    refine V_goto 21 C dL_sheetOf_10 (by decide) ?_
    refine V_iconst 22 C dL_sheetOf_21 rfl ic0 ?_
    refine V_ireturn C dL_sheetOf_22 rfl rfl (by omega) (by omega) ?_
    exact PoW_0 g0 gS gF ho

theorem mL_message : MW yL_message cL_message 4 (some .int) [((0 : Nat), (9 : Nat), (12 : Nat), (28 : Nat))] 3 := ⟨tw625, tw0, ⟨by decide +kernel, by decide +kernel⟩, by decide +kernel, by decide, by decide +kernel, tw624⟩
theorem dL_message_0 : decode cL_message 0 = .ok (.aload_n 2, 1) := by decide +kernel
theorem dL_message_1 : decode cL_message 1 = .ok (.iconst 0, 1) := by decide +kernel
theorem dL_message_2 : decode cL_message 2 = .ok (.aload_n 0, 1) := by decide +kernel
theorem dL_message_3 : decode cL_message 3 = .ok (.iload_n 1, 1) := by decide +kernel
theorem dL_message_4 : decode cL_message 4 = .ok (.invokevirtual 36, 3) := by decide +kernel
theorem dL_message_7 : decode cL_message 7 = .ok (.i2l, 1) := by decide +kernel
theorem dL_message_8 : decode cL_message 8 = .ok (.lastore, 1) := by decide +kernel
theorem dL_message_9 : decode cL_message 9 = .ok (.goto 6, 3) := by decide +kernel
theorem dL_message_12 : decode cL_message 12 = .ok (.astore_n 3, 1) := by decide +kernel
theorem dL_message_13 : decode cL_message 13 = .ok (.iconst 1, 1) := by decide +kernel
theorem dL_message_14 : decode cL_message 14 = .ok (.ireturn, 1) := by decide +kernel
theorem dL_message_15 : decode cL_message 15 = .ok (.iconst 0, 1) := by decide +kernel
theorem dL_message_16 : decode cL_message 16 = .ok (.ireturn, 1) := by decide +kernel
set_option maxRecDepth 100000 in
set_option maxHeartbeats 4000000 in
theorem c_L_message (l : Launch) (G : GT) (n : Nat) (h : AH) (hl : l.stackTraces = false) (x : Nat) (y : Nat → Nat) (k : Nat) (D S : Nat → Nat → Nat) (sv : Nat → Bool) (N : Nat) (T : Nat → Nat) (hS : SysC x y k D S sv N T h) (hI : SI y k D S sv N T) (p1 : Int32) (o : Nat) (f : Nat → Int64) (hof : h o = some (.inl (3, 1, .inr (.inl f)))) (ho : o < x ∨ x + 619 ≤ o) : CW l yL_message cL_message 4 (some .int) [((0 : Nat), (9 : Nat), (12 : Nat), (28 : Nat))] 8 4 24 G n h [.ref x, .int p1, .ref o] (PoW x o h (if ix p1 (y 3) then 0 else 1) (nI (y (52 + z p1))) y k D S sv N T) := by
  obtain ⟨w0, -⟩ := id hS
  refine CW_of mL_message (Nat.le_of_ble_eq_true rfl) ?_
  intro p₀ e₀ s₀ m₀ as₀ bl₀ me₀ c₀ C hT
  refine V_Le (L' := [(0, .ref x), (1, .int p1), (2, .ref o)]) rfl ?_
  refine V_aload_n 1 C dL_message_0 rfl rfl ?_
  refine V_iconst 2 C dL_message_1 rfl ic0 ?_
  refine V_aload_n 3 C dL_message_2 rfl rfl ?_
  refine V_iload_n 4 C dL_message_3 rfl rfl ?_
  refine V_callVXH 7 C hT dL_message_4 rfl mX9_message tw626 fcX9 w0 (c_X9_message l G _ _ hl x y k D S sv N T hS hI p1) rfl rfl (by decide) ⟨by omega, by omega⟩ (Nat.le_of_ble_eq_true rfl) (fun E h1 e1 => ?_) ?_
  · obtain ⟨g0, g1, gS, gF⟩ := e1
    obtain ⟨gk, rfl⟩ := ex_1 g0 g1
    have hz0 : ∀ z ∈ ([] : List (Nat × Nat × Nat × Nat)), z.2.2.2 ≠ 0 ∧ ∃ nm : String, Cond.classLink RL z.2.2.2 nm ∈ TB ∧ (ioE, nm) ∈ ncL := fun z hz => by cases hz
    refine ⟨12, ⟨[], (0, 9, 12, 28), [], rfl, hz0, by decide, by decide, tw575, by decide +kernel, rfl⟩, fun n1 q1 => ?_⟩
    refine V_astore_n 13 C dL_message_12 rfl (by decide) (L' := [(0, _), (1, _), (2, _), (3, _)]) rfl ?_
    refine V_iconst 14 C dL_message_13 rfl ic1 ?_
    refine V_ireturn C dL_message_14 rfl rfl (by omega) (by omega) ?_
    exact PoW_x gk g0 gS gF hof ho
  · rintro _ n1 h1 ⟨g0, rfl, gS, gF⟩
    refine V_i2l 8 C dL_message_7 rfl  ?_
    refine V_last (j := 0) 9 C dL_message_8 rfl ((gF o ho).trans hof) rfl (by omega) (by omega) ?_
    refine V_goto 15 C dL_message_9 (by decide) ?_
    refine V_iconst 16 C dL_message_15 rfl ic0 ?_
    refine V_ireturn C dL_message_16 rfl rfl (by omega) (by omega) ?_
    exact PoW_0 g0 gS gF ho

theorem mL_town : MW yL_town cL_town 3 (some .int) [((0 : Nat), (8 : Nat), (11 : Nat), (15 : Nat))] 2 := ⟨tw636, tw0, ⟨by decide +kernel, by decide +kernel⟩, by decide +kernel, by decide, by decide +kernel, tw635⟩
theorem dL_town_0 : decode cL_town 0 = .ok (.aload_n 1, 1) := by decide +kernel
theorem dL_town_1 : decode cL_town 1 = .ok (.iconst 0, 1) := by decide +kernel
theorem dL_town_2 : decode cL_town 2 = .ok (.aload_n 0, 1) := by decide +kernel
theorem dL_town_3 : decode cL_town 3 = .ok (.invokevirtual 39, 3) := by decide +kernel
theorem dL_town_6 : decode cL_town 6 = .ok (.i2l, 1) := by decide +kernel
theorem dL_town_7 : decode cL_town 7 = .ok (.lastore, 1) := by decide +kernel
theorem dL_town_8 : decode cL_town 8 = .ok (.goto 6, 3) := by decide +kernel
theorem dL_town_11 : decode cL_town 11 = .ok (.astore_n 2, 1) := by decide +kernel
theorem dL_town_12 : decode cL_town 12 = .ok (.iconst 1, 1) := by decide +kernel
theorem dL_town_13 : decode cL_town 13 = .ok (.ireturn, 1) := by decide +kernel
theorem dL_town_14 : decode cL_town 14 = .ok (.iconst 0, 1) := by decide +kernel
theorem dL_town_15 : decode cL_town 15 = .ok (.ireturn, 1) := by decide +kernel
set_option maxRecDepth 100000 in
set_option maxHeartbeats 4000000 in
theorem c_L_town (l : Launch) (G : GT) (n : Nat) (h : AH) (hl : l.stackTraces = false) (x : Nat) (y : Nat → Nat) (k : Nat) (D S : Nat → Nat → Nat) (sv : Nat → Bool) (N : Nat) (T : Nat → Nat) (hS : SysC x y k D S sv N T h) (hI : SI y k D S sv N T) (o : Nat) (f : Nat → Int64) (hof : h o = some (.inl (3, 1, .inr (.inl f)))) (ho : o < x ∨ x + 619 ≤ o) : CW l yL_town cL_town 3 (some .int) [((0 : Nat), (8 : Nat), (11 : Nat), (15 : Nat))] 9 4 24 G n h [.ref x, .ref o] (PoW x o h (kA 1 1 1 (aTw y).1) ((aTw y).1) (aTw y).2 (aK (kA 1 1 1 (aTw y).1) k) (aD (kA 1 1 1 (aTw y).1) k D y) S sv N T) := by
  obtain ⟨w0, -⟩ := id hS
  refine CW_of mL_town (Nat.le_of_ble_eq_true rfl) ?_
  intro p₀ e₀ s₀ m₀ as₀ bl₀ me₀ c₀ C hT
  refine V_Le (L' := [(0, .ref x), (1, .ref o)]) rfl ?_
  refine V_aload_n 1 C dL_town_0 rfl rfl ?_
  refine V_iconst 2 C dL_town_1 rfl ic0 ?_
  refine V_aload_n 3 C dL_town_2 rfl rfl ?_
  refine V_callVXH 6 C hT dL_town_3 rfl mX9_town tw637 fcX9 w0 (c_X9_town l G _ _ hl x y k D S sv N T hS hI) rfl rfl (by decide) ⟨by omega, by omega⟩ (Nat.le_of_ble_eq_true rfl) (fun E h1 e1 => ?_) ?_
  · obtain ⟨g0, g1, gS, gF⟩ := e1
    obtain ⟨gk, rfl⟩ := ex_1 g0 g1
    have hz0 : ∀ z ∈ ([] : List (Nat × Nat × Nat × Nat)), z.2.2.2 ≠ 0 ∧ ∃ nm : String, Cond.classLink RL z.2.2.2 nm ∈ TB ∧ (isE, nm) ∈ ncL := fun z hz => by cases hz
    refine ⟨11, ⟨[], (0, 8, 11, 15), [], rfl, hz0, by decide, by decide, tw295, by decide +kernel, rfl⟩, fun n1 q1 => ?_⟩
    refine V_astore_n 12 C dL_town_11 rfl (by decide) (L' := [(0, _), (1, _), (2, _)]) rfl ?_
    refine V_iconst 13 C dL_town_12 rfl ic1 ?_
    refine V_ireturn C dL_town_13 rfl rfl (by omega) (by omega) ?_
    exact PoW_x gk g0 gS gF hof ho
  · rintro _ n1 h1 ⟨g0, rfl, gS, gF⟩
    refine V_i2l 7 C dL_town_6 rfl  ?_
    refine V_last (j := 0) 8 C dL_town_7 rfl ((gF o ho).trans hof) rfl (by omega) (by omega) ?_
    refine V_goto 14 C dL_town_8 (by decide) ?_
    refine V_iconst 15 C dL_town_14 rfl ic0 ?_
    refine V_ireturn C dL_town_15 rfl rfl (by omega) (by omega) ?_
    exact PoW_0 g0 gS gF ho

theorem mL_road : MW yL_road cL_road 6 (some .int) [((0 : Nat), (12 : Nat), (15 : Nat), (28 : Nat)), ((0 : Nat), (12 : Nat), (19 : Nat), (13 : Nat)), ((0 : Nat), (12 : Nat), (23 : Nat), (15 : Nat))] 5 := ⟨tw673, tw0, ⟨by decide +kernel, by decide +kernel⟩, by decide +kernel, by decide, by decide +kernel, tw672⟩
theorem dL_road_0 : decode cL_road 0 = .ok (.aload 4, 2) := by decide +kernel
theorem dL_road_2 : decode cL_road 2 = .ok (.iconst 0, 1) := by decide +kernel
theorem dL_road_3 : decode cL_road 3 = .ok (.aload_n 0, 1) := by decide +kernel
theorem dL_road_4 : decode cL_road 4 = .ok (.iload_n 1, 1) := by decide +kernel
theorem dL_road_5 : decode cL_road 5 = .ok (.iload_n 2, 1) := by decide +kernel
theorem dL_road_6 : decode cL_road 6 = .ok (.iload_n 3, 1) := by decide +kernel
theorem dL_road_7 : decode cL_road 7 = .ok (.invokevirtual 42, 3) := by decide +kernel
theorem dL_road_10 : decode cL_road 10 = .ok (.i2l, 1) := by decide +kernel
theorem dL_road_11 : decode cL_road 11 = .ok (.lastore, 1) := by decide +kernel
theorem dL_road_12 : decode cL_road 12 = .ok (.goto 15, 3) := by decide +kernel
theorem dL_road_15 : decode cL_road 15 = .ok (.astore 5, 2) := by decide +kernel
theorem dL_road_17 : decode cL_road 17 = .ok (.iconst 1, 1) := by decide +kernel
theorem dL_road_18 : decode cL_road 18 = .ok (.ireturn, 1) := by decide +kernel
theorem dL_road_19 : decode cL_road 19 = .ok (.astore 5, 2) := by decide +kernel
theorem dL_road_21 : decode cL_road 21 = .ok (.iconst 2, 1) := by decide +kernel
theorem dL_road_22 : decode cL_road 22 = .ok (.ireturn, 1) := by decide +kernel
theorem dL_road_23 : decode cL_road 23 = .ok (.astore 5, 2) := by decide +kernel
theorem dL_road_25 : decode cL_road 25 = .ok (.iconst 3, 1) := by decide +kernel
theorem dL_road_26 : decode cL_road 26 = .ok (.ireturn, 1) := by decide +kernel
theorem dL_road_27 : decode cL_road 27 = .ok (.iconst 0, 1) := by decide +kernel
theorem dL_road_28 : decode cL_road 28 = .ok (.ireturn, 1) := by decide +kernel
set_option maxRecDepth 100000 in
set_option maxHeartbeats 4000000 in
theorem c_L_road (l : Launch) (G : GT) (n : Nat) (h : AH) (hl : l.stackTraces = false) (x : Nat) (y : Nat → Nat) (k : Nat) (D S : Nat → Nat → Nat) (sv : Nat → Bool) (N : Nat) (T : Nat → Nat) (hS : SysC x y k D S sv N T h) (hI : SI y k D S sv N T) (p1 : Int32) (p2 : Int32) (p3 : Int32) (o : Nat) (f : Nat → Int64) (hof : h o = some (.inl (3, 1, .inr (.inl f)))) (ho : o < x ∨ x + 619 ≤ o) : CW l yL_road cL_road 6 (some .int) [((0 : Nat), (12 : Nat), (15 : Nat), (28 : Nat)), ((0 : Nat), (12 : Nat), (19 : Nat), (13 : Nat)), ((0 : Nat), (12 : Nat), (23 : Nat), (15 : Nat))] 9 4 24 G n h [.ref x, .int p1, .int p2, .int p3, .ref o] (PoW x o h (kA 1 2 3 (aRd y p1 p2 p3).1) ((aRd y p1 p2 p3).1) (aRd y p1 p2 p3).2 (aK (kA 1 2 3 (aRd y p1 p2 p3).1) k) (aD (kA 1 2 3 (aRd y p1 p2 p3).1) k D y) S sv N T) := by
  obtain ⟨w0, -⟩ := id hS
  refine CW_of mL_road (Nat.le_of_ble_eq_true rfl) ?_
  intro p₀ e₀ s₀ m₀ as₀ bl₀ me₀ c₀ C hT
  refine V_Le (L' := [(0, .ref x), (1, .int p1), (2, .int p2), (3, .int p3), (4, .ref o)]) rfl ?_
  refine V_aload 2 C dL_road_0 rfl rfl ?_
  refine V_iconst 3 C dL_road_2 rfl ic0 ?_
  refine V_aload_n 4 C dL_road_3 rfl rfl ?_
  refine V_iload_n 5 C dL_road_4 rfl rfl ?_
  refine V_iload_n 6 C dL_road_5 rfl rfl ?_
  refine V_iload_n 7 C dL_road_6 rfl rfl ?_
  refine V_callVXH 10 C hT dL_road_7 rfl mX9_road tw674 fcX9 w0 (c_X9_road l G _ _ hl x y k D S sv N T hS hI p1 p2 p3) rfl rfl (by decide) ⟨by omega, by omega⟩ (Nat.le_of_ble_eq_true rfl) (fun E h1 e1 => ?_) ?_
  · obtain ⟨g0, g1, gS, gF⟩ := e1
    rcases ex_3 g0 g1 with ⟨gk, rfl⟩ | ⟨gk, rfl⟩ | ⟨gk, rfl⟩
    · skip
      have hz0 : ∀ z ∈ ([] : List (Nat × Nat × Nat × Nat)), z.2.2.2 ≠ 0 ∧ ∃ nm : String, Cond.classLink RL z.2.2.2 nm ∈ TB ∧ (ioE, nm) ∈ ncL := fun z hz => by cases hz
      refine ⟨15, ⟨[], (0, 12, 15, 28), [(0, 12, 19, 13), (0, 12, 23, 15)], rfl, hz0, by decide, by decide, tw575, by decide +kernel, rfl⟩, fun n1 q1 => ?_⟩
      refine V_astore 17 C dL_road_15 rfl (by decide) (L' := [(0, _), (1, _), (2, _), (3, _), (4, _), (5, _)]) rfl ?_
      refine V_iconst 18 C dL_road_17 rfl ic1 ?_
      refine V_ireturn C dL_road_18 rfl rfl (by omega) (by omega) ?_
      exact PoW_x gk g0 gS gF hof ho
    · skip
      have hz1 : ∀ z ∈ ([(0, 12, 15, 28)] : List (Nat × Nat × Nat × Nat)), z.2.2.2 ≠ 0 ∧ ∃ nm : String, Cond.classLink RL z.2.2.2 nm ∈ TB ∧ (iaE, nm) ∈ ncL := fun z hz => by
        rcases List.mem_cons.mp hz with rfl | hz
        · exact ⟨by decide, _, tw575, by decide +kernel⟩
        cases hz
      refine ⟨19, ⟨[(0, 12, 15, 28)], (0, 12, 19, 13), [(0, 12, 23, 15)], rfl, hz1, by decide, by decide, tw294, by decide +kernel, rfl⟩, fun n1 q1 => ?_⟩
      refine V_astore 21 C dL_road_19 rfl (by decide) (L' := [(0, _), (1, _), (2, _), (3, _), (4, _), (5, _)]) rfl ?_
      refine V_iconst 22 C dL_road_21 rfl ic2 ?_
      refine V_ireturn C dL_road_22 rfl rfl (by omega) (by omega) ?_
      exact PoW_x gk g0 gS gF hof ho
    · skip
      have hz2 : ∀ z ∈ ([(0, 12, 15, 28), (0, 12, 19, 13)] : List (Nat × Nat × Nat × Nat)), z.2.2.2 ≠ 0 ∧ ∃ nm : String, Cond.classLink RL z.2.2.2 nm ∈ TB ∧ (isE, nm) ∈ ncL := fun z hz => by
        rcases List.mem_cons.mp hz with rfl | hz
        · exact ⟨by decide, _, tw575, by decide +kernel⟩
        rcases List.mem_cons.mp hz with rfl | hz
        · exact ⟨by decide, _, tw294, by decide +kernel⟩
        cases hz
      refine ⟨23, ⟨[(0, 12, 15, 28), (0, 12, 19, 13)], (0, 12, 23, 15), [], rfl, hz2, by decide, by decide, tw295, by decide +kernel, rfl⟩, fun n1 q1 => ?_⟩
      refine V_astore 25 C dL_road_23 rfl (by decide) (L' := [(0, _), (1, _), (2, _), (3, _), (4, _), (5, _)]) rfl ?_
      refine V_iconst 26 C dL_road_25 rfl ic3 ?_
      refine V_ireturn C dL_road_26 rfl rfl (by omega) (by omega) ?_
      exact PoW_x gk g0 gS gF hof ho
  · rintro _ n1 h1 ⟨g0, rfl, gS, gF⟩
    refine V_i2l 11 C dL_road_10 rfl  ?_
    refine V_last (j := 0) 12 C dL_road_11 rfl ((gF o ho).trans hof) rfl (by omega) (by omega) ?_
    refine V_goto 27 C dL_road_12 (by decide) ?_
    refine V_iconst 28 C dL_road_27 rfl ic0 ?_
    refine V_ireturn C dL_road_28 rfl rfl (by omega) (by omega) ?_
    exact PoW_0 g0 gS gF ho

theorem mL_runner : MW yL_runner cL_runner 4 (some .int) [((0 : Nat), (9 : Nat), (12 : Nat), (28 : Nat)), ((0 : Nat), (9 : Nat), (15 : Nat), (15 : Nat))] 3 := ⟨tw681, tw0, ⟨by decide +kernel, by decide +kernel⟩, by decide +kernel, by decide, by decide +kernel, tw680⟩
theorem dL_runner_0 : decode cL_runner 0 = .ok (.aload_n 2, 1) := by decide +kernel
theorem dL_runner_1 : decode cL_runner 1 = .ok (.iconst 0, 1) := by decide +kernel
theorem dL_runner_2 : decode cL_runner 2 = .ok (.aload_n 0, 1) := by decide +kernel
theorem dL_runner_3 : decode cL_runner 3 = .ok (.iload_n 1, 1) := by decide +kernel
theorem dL_runner_4 : decode cL_runner 4 = .ok (.invokevirtual 46, 3) := by decide +kernel
theorem dL_runner_7 : decode cL_runner 7 = .ok (.i2l, 1) := by decide +kernel
theorem dL_runner_8 : decode cL_runner 8 = .ok (.lastore, 1) := by decide +kernel
theorem dL_runner_9 : decode cL_runner 9 = .ok (.goto 9, 3) := by decide +kernel
theorem dL_runner_12 : decode cL_runner 12 = .ok (.astore_n 3, 1) := by decide +kernel
theorem dL_runner_13 : decode cL_runner 13 = .ok (.iconst 1, 1) := by decide +kernel
theorem dL_runner_14 : decode cL_runner 14 = .ok (.ireturn, 1) := by decide +kernel
theorem dL_runner_15 : decode cL_runner 15 = .ok (.astore_n 3, 1) := by decide +kernel
theorem dL_runner_16 : decode cL_runner 16 = .ok (.iconst 2, 1) := by decide +kernel
theorem dL_runner_17 : decode cL_runner 17 = .ok (.ireturn, 1) := by decide +kernel
theorem dL_runner_18 : decode cL_runner 18 = .ok (.iconst 0, 1) := by decide +kernel
theorem dL_runner_19 : decode cL_runner 19 = .ok (.ireturn, 1) := by decide +kernel
set_option maxRecDepth 100000 in
set_option maxHeartbeats 4000000 in
theorem c_L_runner (l : Launch) (G : GT) (n : Nat) (h : AH) (hl : l.stackTraces = false) (x : Nat) (y : Nat → Nat) (k : Nat) (D S : Nat → Nat → Nat) (sv : Nat → Bool) (N : Nat) (T : Nat → Nat) (hS : SysC x y k D S sv N T h) (hI : SI y k D S sv N T) (p1 : Int32) (o : Nat) (f : Nat → Int64) (hof : h o = some (.inl (3, 1, .inr (.inl f)))) (ho : o < x ∨ x + 619 ≤ o) : CW l yL_runner cL_runner 4 (some .int) [((0 : Nat), (9 : Nat), (12 : Nat), (28 : Nat)), ((0 : Nat), (9 : Nat), (15 : Nat), (15 : Nat))] 9 4 24 G n h [.ref x, .int p1, .ref o] (PoW x o h (kA 1 1 2 (aRu y p1).1) ((aRu y p1).1) (aRu y p1).2 (aK (kA 1 1 2 (aRu y p1).1) k) (aD (kA 1 1 2 (aRu y p1).1) k D y) S sv N T) := by
  obtain ⟨w0, -⟩ := id hS
  refine CW_of mL_runner (Nat.le_of_ble_eq_true rfl) ?_
  intro p₀ e₀ s₀ m₀ as₀ bl₀ me₀ c₀ C hT
  refine V_Le (L' := [(0, .ref x), (1, .int p1), (2, .ref o)]) rfl ?_
  refine V_aload_n 1 C dL_runner_0 rfl rfl ?_
  refine V_iconst 2 C dL_runner_1 rfl ic0 ?_
  refine V_aload_n 3 C dL_runner_2 rfl rfl ?_
  refine V_iload_n 4 C dL_runner_3 rfl rfl ?_
  refine V_callVXH 7 C hT dL_runner_4 rfl mX9_runner tw682 fcX9 w0 (c_X9_runner l G _ _ hl x y k D S sv N T hS hI p1) rfl rfl (by decide) ⟨by omega, by omega⟩ (Nat.le_of_ble_eq_true rfl) (fun E h1 e1 => ?_) ?_
  · obtain ⟨g0, g1, gS, gF⟩ := e1
    rcases ex_2 g0 g1 with ⟨gk, rfl⟩ | ⟨gk, rfl⟩
    · skip
      have hz0 : ∀ z ∈ ([] : List (Nat × Nat × Nat × Nat)), z.2.2.2 ≠ 0 ∧ ∃ nm : String, Cond.classLink RL z.2.2.2 nm ∈ TB ∧ (ioE, nm) ∈ ncL := fun z hz => by cases hz
      refine ⟨12, ⟨[], (0, 9, 12, 28), [(0, 9, 15, 15)], rfl, hz0, by decide, by decide, tw575, by decide +kernel, rfl⟩, fun n1 q1 => ?_⟩
      refine V_astore_n 13 C dL_runner_12 rfl (by decide) (L' := [(0, _), (1, _), (2, _), (3, _)]) rfl ?_
      refine V_iconst 14 C dL_runner_13 rfl ic1 ?_
      refine V_ireturn C dL_runner_14 rfl rfl (by omega) (by omega) ?_
      exact PoW_x gk g0 gS gF hof ho
    · skip
      have hz1 : ∀ z ∈ ([(0, 9, 12, 28)] : List (Nat × Nat × Nat × Nat)), z.2.2.2 ≠ 0 ∧ ∃ nm : String, Cond.classLink RL z.2.2.2 nm ∈ TB ∧ (isE, nm) ∈ ncL := fun z hz => by
        rcases List.mem_cons.mp hz with rfl | hz
        · exact ⟨by decide, _, tw575, by decide +kernel⟩
        cases hz
      refine ⟨15, ⟨[(0, 9, 12, 28)], (0, 9, 15, 15), [], rfl, hz1, by decide, by decide, tw295, by decide +kernel, rfl⟩, fun n1 q1 => ?_⟩
      refine V_astore_n 16 C dL_runner_15 rfl (by decide) (L' := [(0, _), (1, _), (2, _), (3, _)]) rfl ?_
      refine V_iconst 17 C dL_runner_16 rfl ic2 ?_
      refine V_ireturn C dL_runner_17 rfl rfl (by omega) (by omega) ?_
      exact PoW_x gk g0 gS gF hof ho
  · rintro _ n1 h1 ⟨g0, rfl, gS, gF⟩
    refine V_i2l 8 C dL_runner_7 rfl  ?_
    refine V_last (j := 0) 9 C dL_runner_8 rfl ((gF o ho).trans hof) rfl (by omega) (by omega) ?_
    refine V_goto 18 C dL_runner_9 (by decide) ?_
    refine V_iconst 19 C dL_runner_18 rfl ic0 ?_
    refine V_ireturn C dL_runner_19 rfl rfl (by omega) (by omega) ?_
    exact PoW_0 g0 gS gF ho

theorem mL_write : MW yL_write cL_write 6 (some .int) [((0 : Nat), (12 : Nat), (15 : Nat), (28 : Nat)), ((0 : Nat), (12 : Nat), (19 : Nat), (13 : Nat)), ((0 : Nat), (12 : Nat), (23 : Nat), (15 : Nat))] 5 := ⟨tw689, tw0, ⟨by decide +kernel, by decide +kernel⟩, by decide +kernel, by decide, by decide +kernel, tw688⟩
theorem dL_write_0 : decode cL_write 0 = .ok (.aload 4, 2) := by decide +kernel
theorem dL_write_2 : decode cL_write 2 = .ok (.iconst 0, 1) := by decide +kernel
theorem dL_write_3 : decode cL_write 3 = .ok (.aload_n 0, 1) := by decide +kernel
theorem dL_write_4 : decode cL_write 4 = .ok (.iload_n 1, 1) := by decide +kernel
theorem dL_write_5 : decode cL_write 5 = .ok (.iload_n 2, 1) := by decide +kernel
theorem dL_write_6 : decode cL_write 6 = .ok (.iload_n 3, 1) := by decide +kernel
theorem dL_write_7 : decode cL_write 7 = .ok (.invokevirtual 49, 3) := by decide +kernel
theorem dL_write_10 : decode cL_write 10 = .ok (.i2l, 1) := by decide +kernel
theorem dL_write_11 : decode cL_write 11 = .ok (.lastore, 1) := by decide +kernel
theorem dL_write_12 : decode cL_write 12 = .ok (.goto 15, 3) := by decide +kernel
theorem dL_write_15 : decode cL_write 15 = .ok (.astore 5, 2) := by decide +kernel
theorem dL_write_17 : decode cL_write 17 = .ok (.iconst 1, 1) := by decide +kernel
theorem dL_write_18 : decode cL_write 18 = .ok (.ireturn, 1) := by decide +kernel
theorem dL_write_19 : decode cL_write 19 = .ok (.astore 5, 2) := by decide +kernel
theorem dL_write_21 : decode cL_write 21 = .ok (.iconst 2, 1) := by decide +kernel
theorem dL_write_22 : decode cL_write 22 = .ok (.ireturn, 1) := by decide +kernel
theorem dL_write_23 : decode cL_write 23 = .ok (.astore 5, 2) := by decide +kernel
theorem dL_write_25 : decode cL_write 25 = .ok (.iconst 3, 1) := by decide +kernel
theorem dL_write_26 : decode cL_write 26 = .ok (.ireturn, 1) := by decide +kernel
theorem dL_write_27 : decode cL_write 27 = .ok (.iconst 0, 1) := by decide +kernel
theorem dL_write_28 : decode cL_write 28 = .ok (.ireturn, 1) := by decide +kernel
set_option maxRecDepth 100000 in
set_option maxHeartbeats 4000000 in
theorem c_L_write (l : Launch) (G : GT) (n : Nat) (h : AH) (hl : l.stackTraces = false) (x : Nat) (y : Nat → Nat) (k : Nat) (D S : Nat → Nat → Nat) (sv : Nat → Bool) (N : Nat) (T : Nat → Nat) (hS : SysC x y k D S sv N T h) (hI : SI y k D S sv N T) (p1 : Int32) (p2 : Int32) (p3 : Int32) (o : Nat) (f : Nat → Int64) (hof : h o = some (.inl (3, 1, .inr (.inl f)))) (ho : o < x ∨ x + 619 ≤ o) : CW l yL_write cL_write 6 (some .int) [((0 : Nat), (12 : Nat), (15 : Nat), (28 : Nat)), ((0 : Nat), (12 : Nat), (19 : Nat), (13 : Nat)), ((0 : Nat), (12 : Nat), (23 : Nat), (15 : Nat))] 9 4 24 G n h [.ref x, .int p1, .int p2, .int p3, .ref o] (PoW x o h (kA 1 2 3 (aWr y p1 p2 p3).1) ((aWr y p1 p2 p3).1) (aWr y p1 p2 p3).2 (aK (kA 1 2 3 (aWr y p1 p2 p3).1) k) (aD (kA 1 2 3 (aWr y p1 p2 p3).1) k D y) S sv N T) := by
  obtain ⟨w0, -⟩ := id hS
  refine CW_of mL_write (Nat.le_of_ble_eq_true rfl) ?_
  intro p₀ e₀ s₀ m₀ as₀ bl₀ me₀ c₀ C hT
  refine V_Le (L' := [(0, .ref x), (1, .int p1), (2, .int p2), (3, .int p3), (4, .ref o)]) rfl ?_
  refine V_aload 2 C dL_write_0 rfl rfl ?_
  refine V_iconst 3 C dL_write_2 rfl ic0 ?_
  refine V_aload_n 4 C dL_write_3 rfl rfl ?_
  refine V_iload_n 5 C dL_write_4 rfl rfl ?_
  refine V_iload_n 6 C dL_write_5 rfl rfl ?_
  refine V_iload_n 7 C dL_write_6 rfl rfl ?_
  refine V_callVXH 10 C hT dL_write_7 rfl mX9_write tw690 fcX9 w0 (c_X9_write l G _ _ hl x y k D S sv N T hS hI p1 p2 p3) rfl rfl (by decide) ⟨by omega, by omega⟩ (Nat.le_of_ble_eq_true rfl) (fun E h1 e1 => ?_) ?_
  · obtain ⟨g0, g1, gS, gF⟩ := e1
    rcases ex_3 g0 g1 with ⟨gk, rfl⟩ | ⟨gk, rfl⟩ | ⟨gk, rfl⟩
    · skip
      have hz0 : ∀ z ∈ ([] : List (Nat × Nat × Nat × Nat)), z.2.2.2 ≠ 0 ∧ ∃ nm : String, Cond.classLink RL z.2.2.2 nm ∈ TB ∧ (ioE, nm) ∈ ncL := fun z hz => by cases hz
      refine ⟨15, ⟨[], (0, 12, 15, 28), [(0, 12, 19, 13), (0, 12, 23, 15)], rfl, hz0, by decide, by decide, tw575, by decide +kernel, rfl⟩, fun n1 q1 => ?_⟩
      refine V_astore 17 C dL_write_15 rfl (by decide) (L' := [(0, _), (1, _), (2, _), (3, _), (4, _), (5, _)]) rfl ?_
      refine V_iconst 18 C dL_write_17 rfl ic1 ?_
      refine V_ireturn C dL_write_18 rfl rfl (by omega) (by omega) ?_
      exact PoW_x gk g0 gS gF hof ho
    · skip
      have hz1 : ∀ z ∈ ([(0, 12, 15, 28)] : List (Nat × Nat × Nat × Nat)), z.2.2.2 ≠ 0 ∧ ∃ nm : String, Cond.classLink RL z.2.2.2 nm ∈ TB ∧ (iaE, nm) ∈ ncL := fun z hz => by
        rcases List.mem_cons.mp hz with rfl | hz
        · exact ⟨by decide, _, tw575, by decide +kernel⟩
        cases hz
      refine ⟨19, ⟨[(0, 12, 15, 28)], (0, 12, 19, 13), [(0, 12, 23, 15)], rfl, hz1, by decide, by decide, tw294, by decide +kernel, rfl⟩, fun n1 q1 => ?_⟩
      refine V_astore 21 C dL_write_19 rfl (by decide) (L' := [(0, _), (1, _), (2, _), (3, _), (4, _), (5, _)]) rfl ?_
      refine V_iconst 22 C dL_write_21 rfl ic2 ?_
      refine V_ireturn C dL_write_22 rfl rfl (by omega) (by omega) ?_
      exact PoW_x gk g0 gS gF hof ho
    · skip
      have hz2 : ∀ z ∈ ([(0, 12, 15, 28), (0, 12, 19, 13)] : List (Nat × Nat × Nat × Nat)), z.2.2.2 ≠ 0 ∧ ∃ nm : String, Cond.classLink RL z.2.2.2 nm ∈ TB ∧ (isE, nm) ∈ ncL := fun z hz => by
        rcases List.mem_cons.mp hz with rfl | hz
        · exact ⟨by decide, _, tw575, by decide +kernel⟩
        rcases List.mem_cons.mp hz with rfl | hz
        · exact ⟨by decide, _, tw294, by decide +kernel⟩
        cases hz
      refine ⟨23, ⟨[(0, 12, 15, 28), (0, 12, 19, 13)], (0, 12, 23, 15), [], rfl, hz2, by decide, by decide, tw295, by decide +kernel, rfl⟩, fun n1 q1 => ?_⟩
      refine V_astore 25 C dL_write_23 rfl (by decide) (L' := [(0, _), (1, _), (2, _), (3, _), (4, _), (5, _)]) rfl ?_
      refine V_iconst 26 C dL_write_25 rfl ic3 ?_
      refine V_ireturn C dL_write_26 rfl rfl (by omega) (by omega) ?_
      exact PoW_x gk g0 gS gF hof ho
  · rintro _ n1 h1 ⟨g0, rfl, gS, gF⟩
    refine V_i2l 11 C dL_write_10 rfl  ?_
    refine V_last (j := 0) 12 C dL_write_11 rfl ((gF o ho).trans hof) rfl (by omega) (by omega) ?_
    refine V_goto 27 C dL_write_12 (by decide) ?_
    refine V_iconst 28 C dL_write_27 rfl ic0 ?_
    refine V_ireturn C dL_write_28 rfl rfl (by omega) (by omega) ?_
    exact PoW_0 g0 gS gF ho

theorem mL_take : MW yL_take cL_take 5 (some .int) [((0 : Nat), (10 : Nat), (13 : Nat), (28 : Nat)), ((0 : Nat), (10 : Nat), (17 : Nat), (15 : Nat))] 4 := ⟨tw697, tw0, ⟨by decide +kernel, by decide +kernel⟩, by decide +kernel, by decide, by decide +kernel, tw696⟩
theorem dL_take_0 : decode cL_take 0 = .ok (.aload_n 3, 1) := by decide +kernel
theorem dL_take_1 : decode cL_take 1 = .ok (.iconst 0, 1) := by decide +kernel
theorem dL_take_2 : decode cL_take 2 = .ok (.aload_n 0, 1) := by decide +kernel
theorem dL_take_3 : decode cL_take 3 = .ok (.iload_n 1, 1) := by decide +kernel
theorem dL_take_4 : decode cL_take 4 = .ok (.iload_n 2, 1) := by decide +kernel
theorem dL_take_5 : decode cL_take 5 = .ok (.invokevirtual 52, 3) := by decide +kernel
theorem dL_take_8 : decode cL_take 8 = .ok (.i2l, 1) := by decide +kernel
theorem dL_take_9 : decode cL_take 9 = .ok (.lastore, 1) := by decide +kernel
theorem dL_take_10 : decode cL_take 10 = .ok (.goto 11, 3) := by decide +kernel
theorem dL_take_13 : decode cL_take 13 = .ok (.astore 4, 2) := by decide +kernel
theorem dL_take_15 : decode cL_take 15 = .ok (.iconst 1, 1) := by decide +kernel
theorem dL_take_16 : decode cL_take 16 = .ok (.ireturn, 1) := by decide +kernel
theorem dL_take_17 : decode cL_take 17 = .ok (.astore 4, 2) := by decide +kernel
theorem dL_take_19 : decode cL_take 19 = .ok (.iconst 2, 1) := by decide +kernel
theorem dL_take_20 : decode cL_take 20 = .ok (.ireturn, 1) := by decide +kernel
theorem dL_take_21 : decode cL_take 21 = .ok (.iconst 0, 1) := by decide +kernel
theorem dL_take_22 : decode cL_take 22 = .ok (.ireturn, 1) := by decide +kernel
set_option maxRecDepth 100000 in
set_option maxHeartbeats 4000000 in
theorem c_L_take (l : Launch) (G : GT) (n : Nat) (h : AH) (hl : l.stackTraces = false) (x : Nat) (y : Nat → Nat) (k : Nat) (D S : Nat → Nat → Nat) (sv : Nat → Bool) (N : Nat) (T : Nat → Nat) (hS : SysC x y k D S sv N T h) (hI : SI y k D S sv N T) (p1 : Int32) (p2 : Int32) (o : Nat) (f : Nat → Int64) (hof : h o = some (.inl (3, 1, .inr (.inl f)))) (ho : o < x ∨ x + 619 ≤ o) : CW l yL_take cL_take 5 (some .int) [((0 : Nat), (10 : Nat), (13 : Nat), (28 : Nat)), ((0 : Nat), (10 : Nat), (17 : Nat), (15 : Nat))] 9 4 24 G n h [.ref x, .int p1, .int p2, .ref o] (PoW x o h (kA 1 1 2 (aTk y p1 p2).1) ((aTk y p1 p2).1) (aTk y p1 p2).2 (aK (kA 1 1 2 (aTk y p1 p2).1) k) (aD (kA 1 1 2 (aTk y p1 p2).1) k D y) S sv N T) := by
  obtain ⟨w0, -⟩ := id hS
  refine CW_of mL_take (Nat.le_of_ble_eq_true rfl) ?_
  intro p₀ e₀ s₀ m₀ as₀ bl₀ me₀ c₀ C hT
  refine V_Le (L' := [(0, .ref x), (1, .int p1), (2, .int p2), (3, .ref o)]) rfl ?_
  refine V_aload_n 1 C dL_take_0 rfl rfl ?_
  refine V_iconst 2 C dL_take_1 rfl ic0 ?_
  refine V_aload_n 3 C dL_take_2 rfl rfl ?_
  refine V_iload_n 4 C dL_take_3 rfl rfl ?_
  refine V_iload_n 5 C dL_take_4 rfl rfl ?_
  refine V_callVXH 8 C hT dL_take_5 rfl mX9_take tw698 fcX9 w0 (c_X9_take l G _ _ hl x y k D S sv N T hS hI p1 p2) rfl rfl (by decide) ⟨by omega, by omega⟩ (Nat.le_of_ble_eq_true rfl) (fun E h1 e1 => ?_) ?_
  · obtain ⟨g0, g1, gS, gF⟩ := e1
    rcases ex_2 g0 g1 with ⟨gk, rfl⟩ | ⟨gk, rfl⟩
    · skip
      have hz0 : ∀ z ∈ ([] : List (Nat × Nat × Nat × Nat)), z.2.2.2 ≠ 0 ∧ ∃ nm : String, Cond.classLink RL z.2.2.2 nm ∈ TB ∧ (ioE, nm) ∈ ncL := fun z hz => by cases hz
      refine ⟨13, ⟨[], (0, 10, 13, 28), [(0, 10, 17, 15)], rfl, hz0, by decide, by decide, tw575, by decide +kernel, rfl⟩, fun n1 q1 => ?_⟩
      refine V_astore 15 C dL_take_13 rfl (by decide) (L' := [(0, _), (1, _), (2, _), (3, _), (4, _)]) rfl ?_
      refine V_iconst 16 C dL_take_15 rfl ic1 ?_
      refine V_ireturn C dL_take_16 rfl rfl (by omega) (by omega) ?_
      exact PoW_x gk g0 gS gF hof ho
    · skip
      have hz1 : ∀ z ∈ ([(0, 10, 13, 28)] : List (Nat × Nat × Nat × Nat)), z.2.2.2 ≠ 0 ∧ ∃ nm : String, Cond.classLink RL z.2.2.2 nm ∈ TB ∧ (isE, nm) ∈ ncL := fun z hz => by
        rcases List.mem_cons.mp hz with rfl | hz
        · exact ⟨by decide, _, tw575, by decide +kernel⟩
        cases hz
      refine ⟨17, ⟨[(0, 10, 13, 28)], (0, 10, 17, 15), [], rfl, hz1, by decide, by decide, tw295, by decide +kernel, rfl⟩, fun n1 q1 => ?_⟩
      refine V_astore 19 C dL_take_17 rfl (by decide) (L' := [(0, _), (1, _), (2, _), (3, _), (4, _)]) rfl ?_
      refine V_iconst 20 C dL_take_19 rfl ic2 ?_
      refine V_ireturn C dL_take_20 rfl rfl (by omega) (by omega) ?_
      exact PoW_x gk g0 gS gF hof ho
  · rintro _ n1 h1 ⟨g0, rfl, gS, gF⟩
    refine V_i2l 9 C dL_take_8 rfl  ?_
    refine V_last (j := 0) 10 C dL_take_9 rfl ((gF o ho).trans hof) rfl (by omega) (by omega) ?_
    refine V_goto 21 C dL_take_10 (by decide) ?_
    refine V_iconst 22 C dL_take_21 rfl ic0 ?_
    refine V_ireturn C dL_take_22 rfl rfl (by omega) (by omega) ?_
    exact PoW_0 g0 gS gF ho

theorem mL_lay : MW yL_lay cL_lay 4 (some .int) [((0 : Nat), (9 : Nat), (12 : Nat), (28 : Nat)), ((0 : Nat), (9 : Nat), (15 : Nat), (15 : Nat))] 3 := ⟨tw705, tw0, ⟨by decide +kernel, by decide +kernel⟩, by decide +kernel, by decide, by decide +kernel, tw704⟩
theorem dL_lay_0 : decode cL_lay 0 = .ok (.aload_n 2, 1) := by decide +kernel
theorem dL_lay_1 : decode cL_lay 1 = .ok (.iconst 0, 1) := by decide +kernel
theorem dL_lay_2 : decode cL_lay 2 = .ok (.aload_n 0, 1) := by decide +kernel
theorem dL_lay_3 : decode cL_lay 3 = .ok (.iload_n 1, 1) := by decide +kernel
theorem dL_lay_4 : decode cL_lay 4 = .ok (.invokevirtual 55, 3) := by decide +kernel
theorem dL_lay_7 : decode cL_lay 7 = .ok (.i2l, 1) := by decide +kernel
theorem dL_lay_8 : decode cL_lay 8 = .ok (.lastore, 1) := by decide +kernel
theorem dL_lay_9 : decode cL_lay 9 = .ok (.goto 9, 3) := by decide +kernel
theorem dL_lay_12 : decode cL_lay 12 = .ok (.astore_n 3, 1) := by decide +kernel
theorem dL_lay_13 : decode cL_lay 13 = .ok (.iconst 1, 1) := by decide +kernel
theorem dL_lay_14 : decode cL_lay 14 = .ok (.ireturn, 1) := by decide +kernel
theorem dL_lay_15 : decode cL_lay 15 = .ok (.astore_n 3, 1) := by decide +kernel
theorem dL_lay_16 : decode cL_lay 16 = .ok (.iconst 2, 1) := by decide +kernel
theorem dL_lay_17 : decode cL_lay 17 = .ok (.ireturn, 1) := by decide +kernel
theorem dL_lay_18 : decode cL_lay 18 = .ok (.iconst 0, 1) := by decide +kernel
theorem dL_lay_19 : decode cL_lay 19 = .ok (.ireturn, 1) := by decide +kernel
set_option maxRecDepth 100000 in
set_option maxHeartbeats 4000000 in
theorem c_L_lay (l : Launch) (G : GT) (n : Nat) (h : AH) (hl : l.stackTraces = false) (x : Nat) (y : Nat → Nat) (k : Nat) (D S : Nat → Nat → Nat) (sv : Nat → Bool) (N : Nat) (T : Nat → Nat) (hS : SysC x y k D S sv N T h) (hI : SI y k D S sv N T) (p1 : Int32) (o : Nat) (f : Nat → Int64) (hof : h o = some (.inl (3, 1, .inr (.inl f)))) (ho : o < x ∨ x + 619 ≤ o) : CW l yL_lay cL_lay 4 (some .int) [((0 : Nat), (9 : Nat), (12 : Nat), (28 : Nat)), ((0 : Nat), (9 : Nat), (15 : Nat), (15 : Nat))] 9 4 24 G n h [.ref x, .int p1, .ref o] (PoW x o h (kA 1 1 2 (aLy y p1).1) ((aLy y p1).1) (aLy y p1).2 (aK (kA 1 1 2 (aLy y p1).1) k) (aD (kA 1 1 2 (aLy y p1).1) k D y) S sv N T) := by
  obtain ⟨w0, -⟩ := id hS
  refine CW_of mL_lay (Nat.le_of_ble_eq_true rfl) ?_
  intro p₀ e₀ s₀ m₀ as₀ bl₀ me₀ c₀ C hT
  refine V_Le (L' := [(0, .ref x), (1, .int p1), (2, .ref o)]) rfl ?_
  refine V_aload_n 1 C dL_lay_0 rfl rfl ?_
  refine V_iconst 2 C dL_lay_1 rfl ic0 ?_
  refine V_aload_n 3 C dL_lay_2 rfl rfl ?_
  refine V_iload_n 4 C dL_lay_3 rfl rfl ?_
  refine V_callVXH 7 C hT dL_lay_4 rfl mX9_lay tw706 fcX9 w0 (c_X9_lay l G _ _ hl x y k D S sv N T hS hI p1) rfl rfl (by decide) ⟨by omega, by omega⟩ (Nat.le_of_ble_eq_true rfl) (fun E h1 e1 => ?_) ?_
  · obtain ⟨g0, g1, gS, gF⟩ := e1
    rcases ex_2 g0 g1 with ⟨gk, rfl⟩ | ⟨gk, rfl⟩
    · skip
      have hz0 : ∀ z ∈ ([] : List (Nat × Nat × Nat × Nat)), z.2.2.2 ≠ 0 ∧ ∃ nm : String, Cond.classLink RL z.2.2.2 nm ∈ TB ∧ (ioE, nm) ∈ ncL := fun z hz => by cases hz
      refine ⟨12, ⟨[], (0, 9, 12, 28), [(0, 9, 15, 15)], rfl, hz0, by decide, by decide, tw575, by decide +kernel, rfl⟩, fun n1 q1 => ?_⟩
      refine V_astore_n 13 C dL_lay_12 rfl (by decide) (L' := [(0, _), (1, _), (2, _), (3, _)]) rfl ?_
      refine V_iconst 14 C dL_lay_13 rfl ic1 ?_
      refine V_ireturn C dL_lay_14 rfl rfl (by omega) (by omega) ?_
      exact PoW_x gk g0 gS gF hof ho
    · skip
      have hz1 : ∀ z ∈ ([(0, 9, 12, 28)] : List (Nat × Nat × Nat × Nat)), z.2.2.2 ≠ 0 ∧ ∃ nm : String, Cond.classLink RL z.2.2.2 nm ∈ TB ∧ (isE, nm) ∈ ncL := fun z hz => by
        rcases List.mem_cons.mp hz with rfl | hz
        · exact ⟨by decide, _, tw575, by decide +kernel⟩
        cases hz
      refine ⟨15, ⟨[(0, 9, 12, 28)], (0, 9, 15, 15), [], rfl, hz1, by decide, by decide, tw295, by decide +kernel, rfl⟩, fun n1 q1 => ?_⟩
      refine V_astore_n 16 C dL_lay_15 rfl (by decide) (L' := [(0, _), (1, _), (2, _), (3, _)]) rfl ?_
      refine V_iconst 17 C dL_lay_16 rfl ic2 ?_
      refine V_ireturn C dL_lay_17 rfl rfl (by omega) (by omega) ?_
      exact PoW_x gk g0 gS gF hof ho
  · rintro _ n1 h1 ⟨g0, rfl, gS, gF⟩
    refine V_i2l 8 C dL_lay_7 rfl  ?_
    refine V_last (j := 0) 9 C dL_lay_8 rfl ((gF o ho).trans hof) rfl (by omega) (by omega) ?_
    refine V_goto 18 C dL_lay_9 (by decide) ?_
    refine V_iconst 19 C dL_lay_18 rfl ic0 ?_
    refine V_ireturn C dL_lay_19 rfl rfl (by omega) (by omega) ?_
    exact PoW_0 g0 gS gF ho

theorem mL_go : MW yL_go cL_go 5 (some .int) [((0 : Nat), (10 : Nat), (13 : Nat), (28 : Nat)), ((0 : Nat), (10 : Nat), (17 : Nat), (15 : Nat))] 4 := ⟨tw713, tw0, ⟨by decide +kernel, by decide +kernel⟩, by decide +kernel, by decide, by decide +kernel, tw712⟩
theorem dL_go_0 : decode cL_go 0 = .ok (.aload_n 3, 1) := by decide +kernel
theorem dL_go_1 : decode cL_go 1 = .ok (.iconst 0, 1) := by decide +kernel
theorem dL_go_2 : decode cL_go 2 = .ok (.aload_n 0, 1) := by decide +kernel
theorem dL_go_3 : decode cL_go 3 = .ok (.iload_n 1, 1) := by decide +kernel
theorem dL_go_4 : decode cL_go 4 = .ok (.iload_n 2, 1) := by decide +kernel
theorem dL_go_5 : decode cL_go 5 = .ok (.invokevirtual 58, 3) := by decide +kernel
theorem dL_go_8 : decode cL_go 8 = .ok (.i2l, 1) := by decide +kernel
theorem dL_go_9 : decode cL_go 9 = .ok (.lastore, 1) := by decide +kernel
theorem dL_go_10 : decode cL_go 10 = .ok (.goto 11, 3) := by decide +kernel
theorem dL_go_13 : decode cL_go 13 = .ok (.astore 4, 2) := by decide +kernel
theorem dL_go_15 : decode cL_go 15 = .ok (.iconst 1, 1) := by decide +kernel
theorem dL_go_16 : decode cL_go 16 = .ok (.ireturn, 1) := by decide +kernel
theorem dL_go_17 : decode cL_go 17 = .ok (.astore 4, 2) := by decide +kernel
theorem dL_go_19 : decode cL_go 19 = .ok (.iconst 2, 1) := by decide +kernel
theorem dL_go_20 : decode cL_go 20 = .ok (.ireturn, 1) := by decide +kernel
theorem dL_go_21 : decode cL_go 21 = .ok (.iconst 0, 1) := by decide +kernel
theorem dL_go_22 : decode cL_go 22 = .ok (.ireturn, 1) := by decide +kernel
set_option maxRecDepth 100000 in
set_option maxHeartbeats 4000000 in
theorem c_L_go (l : Launch) (G : GT) (n : Nat) (h : AH) (hl : l.stackTraces = false) (x : Nat) (y : Nat → Nat) (k : Nat) (D S : Nat → Nat → Nat) (sv : Nat → Bool) (N : Nat) (T : Nat → Nat) (hS : SysC x y k D S sv N T h) (hI : SI y k D S sv N T) (p1 : Int32) (p2 : Int32) (o : Nat) (f : Nat → Int64) (hof : h o = some (.inl (3, 1, .inr (.inl f)))) (ho : o < x ∨ x + 619 ≤ o) : CW l yL_go cL_go 5 (some .int) [((0 : Nat), (10 : Nat), (13 : Nat), (28 : Nat)), ((0 : Nat), (10 : Nat), (17 : Nat), (15 : Nat))] 9 4 24 G n h [.ref x, .int p1, .int p2, .ref o] (PoW x o h (kA 1 1 2 (aGo y p1 p2).1) ((aGo y p1 p2).1) (aGo y p1 p2).2 (aK (kA 1 1 2 (aGo y p1 p2).1) k) (aD (kA 1 1 2 (aGo y p1 p2).1) k D y) S sv N T) := by
  obtain ⟨w0, -⟩ := id hS
  refine CW_of mL_go (Nat.le_of_ble_eq_true rfl) ?_
  intro p₀ e₀ s₀ m₀ as₀ bl₀ me₀ c₀ C hT
  refine V_Le (L' := [(0, .ref x), (1, .int p1), (2, .int p2), (3, .ref o)]) rfl ?_
  refine V_aload_n 1 C dL_go_0 rfl rfl ?_
  refine V_iconst 2 C dL_go_1 rfl ic0 ?_
  refine V_aload_n 3 C dL_go_2 rfl rfl ?_
  refine V_iload_n 4 C dL_go_3 rfl rfl ?_
  refine V_iload_n 5 C dL_go_4 rfl rfl ?_
  refine V_callVXH 8 C hT dL_go_5 rfl mX9_go tw714 fcX9 w0 (c_X9_go l G _ _ hl x y k D S sv N T hS hI p1 p2) rfl rfl (by decide) ⟨by omega, by omega⟩ (Nat.le_of_ble_eq_true rfl) (fun E h1 e1 => ?_) ?_
  · obtain ⟨g0, g1, gS, gF⟩ := e1
    rcases ex_2 g0 g1 with ⟨gk, rfl⟩ | ⟨gk, rfl⟩
    · skip
      have hz0 : ∀ z ∈ ([] : List (Nat × Nat × Nat × Nat)), z.2.2.2 ≠ 0 ∧ ∃ nm : String, Cond.classLink RL z.2.2.2 nm ∈ TB ∧ (ioE, nm) ∈ ncL := fun z hz => by cases hz
      refine ⟨13, ⟨[], (0, 10, 13, 28), [(0, 10, 17, 15)], rfl, hz0, by decide, by decide, tw575, by decide +kernel, rfl⟩, fun n1 q1 => ?_⟩
      refine V_astore 15 C dL_go_13 rfl (by decide) (L' := [(0, _), (1, _), (2, _), (3, _), (4, _)]) rfl ?_
      refine V_iconst 16 C dL_go_15 rfl ic1 ?_
      refine V_ireturn C dL_go_16 rfl rfl (by omega) (by omega) ?_
      exact PoW_x gk g0 gS gF hof ho
    · skip
      have hz1 : ∀ z ∈ ([(0, 10, 13, 28)] : List (Nat × Nat × Nat × Nat)), z.2.2.2 ≠ 0 ∧ ∃ nm : String, Cond.classLink RL z.2.2.2 nm ∈ TB ∧ (isE, nm) ∈ ncL := fun z hz => by
        rcases List.mem_cons.mp hz with rfl | hz
        · exact ⟨by decide, _, tw575, by decide +kernel⟩
        cases hz
      refine ⟨17, ⟨[(0, 10, 13, 28)], (0, 10, 17, 15), [], rfl, hz1, by decide, by decide, tw295, by decide +kernel, rfl⟩, fun n1 q1 => ?_⟩
      refine V_astore 19 C dL_go_17 rfl (by decide) (L' := [(0, _), (1, _), (2, _), (3, _), (4, _)]) rfl ?_
      refine V_iconst 20 C dL_go_19 rfl ic2 ?_
      refine V_ireturn C dL_go_20 rfl rfl (by omega) (by omega) ?_
      exact PoW_x gk g0 gS gF hof ho
  · rintro _ n1 h1 ⟨g0, rfl, gS, gF⟩
    refine V_i2l 9 C dL_go_8 rfl  ?_
    refine V_last (j := 0) 10 C dL_go_9 rfl ((gF o ho).trans hof) rfl (by omega) (by omega) ?_
    refine V_goto 21 C dL_go_10 (by decide) ?_
    refine V_iconst 22 C dL_go_21 rfl ic0 ?_
    refine V_ireturn C dL_go_22 rfl rfl (by omega) (by omega) ?_
    exact PoW_0 g0 gS gF ho

theorem mL_copy : MW yL_copy cL_copy 5 (some .int) [((0 : Nat), (10 : Nat), (13 : Nat), (28 : Nat)), ((0 : Nat), (10 : Nat), (17 : Nat), (13 : Nat))] 4 := ⟨tw721, tw0, ⟨by decide +kernel, by decide +kernel⟩, by decide +kernel, by decide, by decide +kernel, tw720⟩
theorem dL_copy_0 : decode cL_copy 0 = .ok (.aload_n 3, 1) := by decide +kernel
theorem dL_copy_1 : decode cL_copy 1 = .ok (.iconst 0, 1) := by decide +kernel
theorem dL_copy_2 : decode cL_copy 2 = .ok (.aload_n 0, 1) := by decide +kernel
theorem dL_copy_3 : decode cL_copy 3 = .ok (.iload_n 1, 1) := by decide +kernel
theorem dL_copy_4 : decode cL_copy 4 = .ok (.iload_n 2, 1) := by decide +kernel
theorem dL_copy_5 : decode cL_copy 5 = .ok (.invokevirtual 61, 3) := by decide +kernel
theorem dL_copy_8 : decode cL_copy 8 = .ok (.i2l, 1) := by decide +kernel
theorem dL_copy_9 : decode cL_copy 9 = .ok (.lastore, 1) := by decide +kernel
theorem dL_copy_10 : decode cL_copy 10 = .ok (.goto 11, 3) := by decide +kernel
theorem dL_copy_13 : decode cL_copy 13 = .ok (.astore 4, 2) := by decide +kernel
theorem dL_copy_15 : decode cL_copy 15 = .ok (.iconst 1, 1) := by decide +kernel
theorem dL_copy_16 : decode cL_copy 16 = .ok (.ireturn, 1) := by decide +kernel
theorem dL_copy_17 : decode cL_copy 17 = .ok (.astore 4, 2) := by decide +kernel
theorem dL_copy_19 : decode cL_copy 19 = .ok (.iconst 2, 1) := by decide +kernel
theorem dL_copy_20 : decode cL_copy 20 = .ok (.ireturn, 1) := by decide +kernel
theorem dL_copy_21 : decode cL_copy 21 = .ok (.iconst 0, 1) := by decide +kernel
theorem dL_copy_22 : decode cL_copy 22 = .ok (.ireturn, 1) := by decide +kernel
set_option maxRecDepth 100000 in
set_option maxHeartbeats 4000000 in
theorem c_L_copy (l : Launch) (G : GT) (n : Nat) (h : AH) (hl : l.stackTraces = false) (x : Nat) (y : Nat → Nat) (k : Nat) (D S : Nat → Nat → Nat) (sv : Nat → Bool) (N : Nat) (T : Nat → Nat) (hS : SysC x y k D S sv N T h) (hI : SI y k D S sv N T) (p1 : Int32) (p2 : Int32) (o : Nat) (f : Nat → Int64) (hof : h o = some (.inl (3, 1, .inr (.inl f)))) (ho : o < x ∨ x + 619 ≤ o) : CW l yL_copy cL_copy 5 (some .int) [((0 : Nat), (10 : Nat), (13 : Nat), (28 : Nat)), ((0 : Nat), (10 : Nat), (17 : Nat), (13 : Nat))] 9 4 24 G n h [.ref x, .int p1, .int p2, .ref o] (PoW x o h (kA 1 2 1 (aCp y p1 p2).1) ((aCp y p1 p2).1) (cnt (aCp y p1 p2)) (aK (kA 1 2 1 (aCp y p1 p2).1) k) (aD (kA 1 2 1 (aCp y p1 p2).1) k D y) S sv N T) := by
  obtain ⟨w0, -⟩ := id hS
  refine CW_of mL_copy (Nat.le_of_ble_eq_true rfl) ?_
  intro p₀ e₀ s₀ m₀ as₀ bl₀ me₀ c₀ C hT
  refine V_Le (L' := [(0, .ref x), (1, .int p1), (2, .int p2), (3, .ref o)]) rfl ?_
  refine V_aload_n 1 C dL_copy_0 rfl rfl ?_
  refine V_iconst 2 C dL_copy_1 rfl ic0 ?_
  refine V_aload_n 3 C dL_copy_2 rfl rfl ?_
  refine V_iload_n 4 C dL_copy_3 rfl rfl ?_
  refine V_iload_n 5 C dL_copy_4 rfl rfl ?_
  refine V_callVXH 8 C hT dL_copy_5 rfl mX9_copy tw722 fcX9 w0 (c_X9_copy l G _ _ hl x y k D S sv N T hS hI p1 p2) rfl rfl (by decide) ⟨by omega, by omega⟩ (Nat.le_of_ble_eq_true rfl) (fun E h1 e1 => ?_) ?_
  · obtain ⟨g0, g1, gS, gF⟩ := e1
    rcases ex_2 g0 g1 with ⟨gk, rfl⟩ | ⟨gk, rfl⟩
    · skip
      have hz0 : ∀ z ∈ ([] : List (Nat × Nat × Nat × Nat)), z.2.2.2 ≠ 0 ∧ ∃ nm : String, Cond.classLink RL z.2.2.2 nm ∈ TB ∧ (ioE, nm) ∈ ncL := fun z hz => by cases hz
      refine ⟨13, ⟨[], (0, 10, 13, 28), [(0, 10, 17, 13)], rfl, hz0, by decide, by decide, tw575, by decide +kernel, rfl⟩, fun n1 q1 => ?_⟩
      refine V_astore 15 C dL_copy_13 rfl (by decide) (L' := [(0, _), (1, _), (2, _), (3, _), (4, _)]) rfl ?_
      refine V_iconst 16 C dL_copy_15 rfl ic1 ?_
      refine V_ireturn C dL_copy_16 rfl rfl (by omega) (by omega) ?_
      exact PoW_x gk g0 gS gF hof ho
    · skip
      have hz1 : ∀ z ∈ ([(0, 10, 13, 28)] : List (Nat × Nat × Nat × Nat)), z.2.2.2 ≠ 0 ∧ ∃ nm : String, Cond.classLink RL z.2.2.2 nm ∈ TB ∧ (iaE, nm) ∈ ncL := fun z hz => by
        rcases List.mem_cons.mp hz with rfl | hz
        · exact ⟨by decide, _, tw575, by decide +kernel⟩
        cases hz
      refine ⟨17, ⟨[(0, 10, 13, 28)], (0, 10, 17, 13), [], rfl, hz1, by decide, by decide, tw294, by decide +kernel, rfl⟩, fun n1 q1 => ?_⟩
      refine V_astore 19 C dL_copy_17 rfl (by decide) (L' := [(0, _), (1, _), (2, _), (3, _), (4, _)]) rfl ?_
      refine V_iconst 20 C dL_copy_19 rfl ic2 ?_
      refine V_ireturn C dL_copy_20 rfl rfl (by omega) (by omega) ?_
      exact PoW_x gk g0 gS gF hof ho
  · rintro _ n1 h1 ⟨g0, rfl, gS, gF⟩
    refine V_i2l 9 C dL_copy_8 rfl  ?_
    refine V_last (j := 0) 10 C dL_copy_9 rfl ((gF o ho).trans hof) rfl (by omega) (by omega) ?_
    refine V_goto 21 C dL_copy_10 (by decide) ?_
    refine V_iconst 22 C dL_copy_21 rfl ic0 ?_
    refine V_ireturn C dL_copy_22 rfl rfl (by omega) (by omega) ?_
    exact PoW_0 g0 gS gF ho

theorem mL_proof : MW yL_proof cL_proof 7 (some .int) [((0 : Nat), (14 : Nat), (17 : Nat), (28 : Nat)), ((0 : Nat), (14 : Nat), (21 : Nat), (13 : Nat))] 6 := ⟨tw733, tw0, ⟨by decide +kernel, by decide +kernel⟩, by decide +kernel, by decide, by decide +kernel, tw732⟩
theorem dL_proof_0 : decode cL_proof 0 = .ok (.aload 5, 2) := by decide +kernel
theorem dL_proof_2 : decode cL_proof 2 = .ok (.iconst 0, 1) := by decide +kernel
theorem dL_proof_3 : decode cL_proof 3 = .ok (.aload_n 0, 1) := by decide +kernel
theorem dL_proof_4 : decode cL_proof 4 = .ok (.iload_n 1, 1) := by decide +kernel
theorem dL_proof_5 : decode cL_proof 5 = .ok (.iload_n 2, 1) := by decide +kernel
theorem dL_proof_6 : decode cL_proof 6 = .ok (.iload_n 3, 1) := by decide +kernel
theorem dL_proof_7 : decode cL_proof 7 = .ok (.iload 4, 2) := by decide +kernel
theorem dL_proof_9 : decode cL_proof 9 = .ok (.invokevirtual 64, 3) := by decide +kernel
theorem dL_proof_12 : decode cL_proof 12 = .ok (.i2l, 1) := by decide +kernel
theorem dL_proof_13 : decode cL_proof 13 = .ok (.lastore, 1) := by decide +kernel
theorem dL_proof_14 : decode cL_proof 14 = .ok (.goto 11, 3) := by decide +kernel
theorem dL_proof_17 : decode cL_proof 17 = .ok (.astore 6, 2) := by decide +kernel
theorem dL_proof_19 : decode cL_proof 19 = .ok (.iconst 1, 1) := by decide +kernel
theorem dL_proof_20 : decode cL_proof 20 = .ok (.ireturn, 1) := by decide +kernel
theorem dL_proof_21 : decode cL_proof 21 = .ok (.astore 6, 2) := by decide +kernel
theorem dL_proof_23 : decode cL_proof 23 = .ok (.iconst 2, 1) := by decide +kernel
theorem dL_proof_24 : decode cL_proof 24 = .ok (.ireturn, 1) := by decide +kernel
theorem dL_proof_25 : decode cL_proof 25 = .ok (.iconst 0, 1) := by decide +kernel
theorem dL_proof_26 : decode cL_proof 26 = .ok (.ireturn, 1) := by decide +kernel
set_option maxRecDepth 100000 in
set_option maxHeartbeats 4000000 in
theorem c_L_proof (l : Launch) (G : GT) (n : Nat) (h : AH) (hl : l.stackTraces = false) (x : Nat) (y : Nat → Nat) (k : Nat) (D S : Nat → Nat → Nat) (sv : Nat → Bool) (N : Nat) (T : Nat → Nat) (hS : SysC x y k D S sv N T h) (hI : SI y k D S sv N T) (p1 : Int32) (p2 : Int32) (p3 : Int32) (p4 : Int32) (o : Nat) (f : Nat → Int64) (hof : h o = some (.inl (3, 1, .inr (.inl f)))) (ho : o < x ∨ x + 619 ≤ o) : CW l yL_proof cL_proof 7 (some .int) [((0 : Nat), (14 : Nat), (17 : Nat), (28 : Nat)), ((0 : Nat), (14 : Nat), (21 : Nat), (13 : Nat))] 9 4 24 G n h [.ref x, .int p1, .int p2, .int p3, .int p4, .ref o] (PoW x o h (kA 1 2 1 (aPr y p1 p2 p3 p4).1) ((aPr y p1 p2 p3 p4).1) (cnt (aPr y p1 p2 p3 p4)) (aK (kA 1 2 1 (aPr y p1 p2 p3 p4).1) k) (aD (kA 1 2 1 (aPr y p1 p2 p3 p4).1) k D y) S sv N T) := by
  obtain ⟨w0, -⟩ := id hS
  refine CW_of mL_proof (Nat.le_of_ble_eq_true rfl) ?_
  intro p₀ e₀ s₀ m₀ as₀ bl₀ me₀ c₀ C hT
  refine V_Le (L' := [(0, .ref x), (1, .int p1), (2, .int p2), (3, .int p3), (4, .int p4), (5, .ref o)]) rfl ?_
  refine V_aload 2 C dL_proof_0 rfl rfl ?_
  refine V_iconst 3 C dL_proof_2 rfl ic0 ?_
  refine V_aload_n 4 C dL_proof_3 rfl rfl ?_
  refine V_iload_n 5 C dL_proof_4 rfl rfl ?_
  refine V_iload_n 6 C dL_proof_5 rfl rfl ?_
  refine V_iload_n 7 C dL_proof_6 rfl rfl ?_
  refine V_iload 9 C dL_proof_7 rfl rfl ?_
  refine V_callVXH 12 C hT dL_proof_9 rfl mX9_proof tw734 fcX9 w0 (c_X9_proof l G _ _ hl x y k D S sv N T hS hI p1 p2 p3 p4) rfl rfl (by decide) ⟨by omega, by omega⟩ (Nat.le_of_ble_eq_true rfl) (fun E h1 e1 => ?_) ?_
  · obtain ⟨g0, g1, gS, gF⟩ := e1
    rcases ex_2 g0 g1 with ⟨gk, rfl⟩ | ⟨gk, rfl⟩
    · skip
      have hz0 : ∀ z ∈ ([] : List (Nat × Nat × Nat × Nat)), z.2.2.2 ≠ 0 ∧ ∃ nm : String, Cond.classLink RL z.2.2.2 nm ∈ TB ∧ (ioE, nm) ∈ ncL := fun z hz => by cases hz
      refine ⟨17, ⟨[], (0, 14, 17, 28), [(0, 14, 21, 13)], rfl, hz0, by decide, by decide, tw575, by decide +kernel, rfl⟩, fun n1 q1 => ?_⟩
      refine V_astore 19 C dL_proof_17 rfl (by decide) (L' := [(0, _), (1, _), (2, _), (3, _), (4, _), (5, _), (6, _)]) rfl ?_
      refine V_iconst 20 C dL_proof_19 rfl ic1 ?_
      refine V_ireturn C dL_proof_20 rfl rfl (by omega) (by omega) ?_
      exact PoW_x gk g0 gS gF hof ho
    · skip
      have hz1 : ∀ z ∈ ([(0, 14, 17, 28)] : List (Nat × Nat × Nat × Nat)), z.2.2.2 ≠ 0 ∧ ∃ nm : String, Cond.classLink RL z.2.2.2 nm ∈ TB ∧ (iaE, nm) ∈ ncL := fun z hz => by
        rcases List.mem_cons.mp hz with rfl | hz
        · exact ⟨by decide, _, tw575, by decide +kernel⟩
        cases hz
      refine ⟨21, ⟨[(0, 14, 17, 28)], (0, 14, 21, 13), [], rfl, hz1, by decide, by decide, tw294, by decide +kernel, rfl⟩, fun n1 q1 => ?_⟩
      refine V_astore 23 C dL_proof_21 rfl (by decide) (L' := [(0, _), (1, _), (2, _), (3, _), (4, _), (5, _), (6, _)]) rfl ?_
      refine V_iconst 24 C dL_proof_23 rfl ic2 ?_
      refine V_ireturn C dL_proof_24 rfl rfl (by omega) (by omega) ?_
      exact PoW_x gk g0 gS gF hof ho
  · rintro _ n1 h1 ⟨g0, rfl, gS, gF⟩
    refine V_i2l 13 C dL_proof_12 rfl  ?_
    refine V_last (j := 0) 14 C dL_proof_13 rfl ((gF o ho).trans hof) rfl (by omega) (by omega) ?_
    refine V_goto 25 C dL_proof_14 (by decide) ?_
    refine V_iconst 26 C dL_proof_25 rfl ic0 ?_
    refine V_ireturn C dL_proof_26 rfl rfl (by omega) (by omega) ?_
    exact PoW_0 g0 gS gF ho

theorem mL_hours : MW yL_hours cL_hours 4 (some .int) [((0 : Nat), (9 : Nat), (12 : Nat), (13 : Nat))] 3 := ⟨tw751, tw0, ⟨by decide +kernel, by decide +kernel⟩, by decide +kernel, by decide, by decide +kernel, tw750⟩
theorem dL_hours_0 : decode cL_hours 0 = .ok (.aload_n 2, 1) := by decide +kernel
theorem dL_hours_1 : decode cL_hours 1 = .ok (.iconst 0, 1) := by decide +kernel
theorem dL_hours_2 : decode cL_hours 2 = .ok (.aload_n 0, 1) := by decide +kernel
theorem dL_hours_3 : decode cL_hours 3 = .ok (.iload_n 1, 1) := by decide +kernel
theorem dL_hours_4 : decode cL_hours 4 = .ok (.invokevirtual 68, 3) := by decide +kernel
theorem dL_hours_7 : decode cL_hours 7 = .ok (.i2l, 1) := by decide +kernel
theorem dL_hours_8 : decode cL_hours 8 = .ok (.lastore, 1) := by decide +kernel
theorem dL_hours_9 : decode cL_hours 9 = .ok (.goto 6, 3) := by decide +kernel
theorem dL_hours_12 : decode cL_hours 12 = .ok (.astore_n 3, 1) := by decide +kernel
theorem dL_hours_13 : decode cL_hours 13 = .ok (.iconst 1, 1) := by decide +kernel
theorem dL_hours_14 : decode cL_hours 14 = .ok (.ireturn, 1) := by decide +kernel
theorem dL_hours_15 : decode cL_hours 15 = .ok (.iconst 0, 1) := by decide +kernel
theorem dL_hours_16 : decode cL_hours 16 = .ok (.ireturn, 1) := by decide +kernel
set_option maxRecDepth 100000 in
set_option maxHeartbeats 4000000 in
theorem c_L_hours (l : Launch) (G : GT) (n : Nat) (h : AH) (hl : l.stackTraces = false) (x : Nat) (y : Nat → Nat) (k : Nat) (D S : Nat → Nat → Nat) (sv : Nat → Bool) (N : Nat) (T : Nat → Nat) (hS : SysC x y k D S sv N T h) (hI : SI y k D S sv N T) (p1 : Int32) (o : Nat) (f : Nat → Int64) (hof : h o = some (.inl (3, 1, .inr (.inl f)))) (ho : o < x ∨ x + 619 ≤ o) : CW l yL_hours cL_hours 4 (some .int) [((0 : Nat), (9 : Nat), (12 : Nat), (13 : Nat))] 9 4 24 G n h [.ref x, .int p1, .ref o] (PoW x o h (kA 1 1 1 (aHr y p1).1) ((aHr y p1).1) (aHr y p1).2 (aK (kA 1 1 1 (aHr y p1).1) k) (aD (kA 1 1 1 (aHr y p1).1) k D y) S sv N T) := by
  obtain ⟨w0, -⟩ := id hS
  refine CW_of mL_hours (Nat.le_of_ble_eq_true rfl) ?_
  intro p₀ e₀ s₀ m₀ as₀ bl₀ me₀ c₀ C hT
  refine V_Le (L' := [(0, .ref x), (1, .int p1), (2, .ref o)]) rfl ?_
  refine V_aload_n 1 C dL_hours_0 rfl rfl ?_
  refine V_iconst 2 C dL_hours_1 rfl ic0 ?_
  refine V_aload_n 3 C dL_hours_2 rfl rfl ?_
  refine V_iload_n 4 C dL_hours_3 rfl rfl ?_
  refine V_callVXH 7 C hT dL_hours_4 rfl mX9_hours tw752 fcX9 w0 (c_X9_hours l G _ _ hl x y k D S sv N T hS hI p1) rfl rfl (by decide) ⟨by omega, by omega⟩ (Nat.le_of_ble_eq_true rfl) (fun E h1 e1 => ?_) ?_
  · obtain ⟨g0, g1, gS, gF⟩ := e1
    obtain ⟨gk, rfl⟩ := ex_1 g0 g1
    have hz0 : ∀ z ∈ ([] : List (Nat × Nat × Nat × Nat)), z.2.2.2 ≠ 0 ∧ ∃ nm : String, Cond.classLink RL z.2.2.2 nm ∈ TB ∧ (iaE, nm) ∈ ncL := fun z hz => by cases hz
    refine ⟨12, ⟨[], (0, 9, 12, 13), [], rfl, hz0, by decide, by decide, tw294, by decide +kernel, rfl⟩, fun n1 q1 => ?_⟩
    refine V_astore_n 13 C dL_hours_12 rfl (by decide) (L' := [(0, _), (1, _), (2, _), (3, _)]) rfl ?_
    refine V_iconst 14 C dL_hours_13 rfl ic1 ?_
    refine V_ireturn C dL_hours_14 rfl rfl (by omega) (by omega) ?_
    exact PoW_x gk g0 gS gF hof ho
  · rintro _ n1 h1 ⟨g0, rfl, gS, gF⟩
    refine V_i2l 8 C dL_hours_7 rfl  ?_
    refine V_last (j := 0) 9 C dL_hours_8 rfl ((gF o ho).trans hof) rfl (by omega) (by omega) ?_
    refine V_goto 15 C dL_hours_9 (by decide) ?_
    refine V_iconst 16 C dL_hours_15 rfl ic0 ?_
    refine V_ireturn C dL_hours_16 rfl rfl (by omega) (by omega) ?_
    exact PoW_0 g0 gS gF ho

theorem mL_undo : MW yL_undo cL_undo 3 (some .int) [((0 : Nat), (8 : Nat), (11 : Nat), (15 : Nat))] 2 := ⟨tw759, tw0, ⟨by decide +kernel, by decide +kernel⟩, by decide +kernel, by decide, by decide +kernel, tw758⟩
theorem dL_undo_0 : decode cL_undo 0 = .ok (.aload_n 1, 1) := by decide +kernel
theorem dL_undo_1 : decode cL_undo 1 = .ok (.iconst 0, 1) := by decide +kernel
theorem dL_undo_2 : decode cL_undo 2 = .ok (.aload_n 0, 1) := by decide +kernel
theorem dL_undo_3 : decode cL_undo 3 = .ok (.invokevirtual 71, 3) := by decide +kernel
theorem dL_undo_6 : decode cL_undo 6 = .ok (.i2l, 1) := by decide +kernel
theorem dL_undo_7 : decode cL_undo 7 = .ok (.lastore, 1) := by decide +kernel
theorem dL_undo_8 : decode cL_undo 8 = .ok (.goto 6, 3) := by decide +kernel
theorem dL_undo_11 : decode cL_undo 11 = .ok (.astore_n 2, 1) := by decide +kernel
theorem dL_undo_12 : decode cL_undo 12 = .ok (.iconst 1, 1) := by decide +kernel
theorem dL_undo_13 : decode cL_undo 13 = .ok (.ireturn, 1) := by decide +kernel
theorem dL_undo_14 : decode cL_undo 14 = .ok (.iconst 0, 1) := by decide +kernel
theorem dL_undo_15 : decode cL_undo 15 = .ok (.ireturn, 1) := by decide +kernel
set_option maxRecDepth 100000 in
set_option maxHeartbeats 4000000 in
theorem c_L_undo (l : Launch) (G : GT) (n : Nat) (h : AH) (hl : l.stackTraces = false) (x : Nat) (y : Nat → Nat) (k : Nat) (D S : Nat → Nat → Nat) (sv : Nat → Bool) (N : Nat) (T : Nat → Nat) (hS : SysC x y k D S sv N T h) (hI : SI y k D S sv N T) (o : Nat) (f : Nat → Int64) (hof : h o = some (.inl (3, 1, .inr (.inl f)))) (ho : o < x ∨ x + 619 ≤ o) : CW l yL_undo cL_undo 3 (some .int) [((0 : Nat), (8 : Nat), (11 : Nat), (15 : Nat))] 8 4 24 G n h [.ref x, .ref o] (PoW x o h (if k = 0 then 1 else 0) (nI (k - 1)) (if k = 0 then y else D (k - 1)) (k - 1) D S sv N T) := by
  obtain ⟨w0, -⟩ := id hS
  refine CW_of mL_undo (Nat.le_of_ble_eq_true rfl) ?_
  intro p₀ e₀ s₀ m₀ as₀ bl₀ me₀ c₀ C hT
  refine V_Le (L' := [(0, .ref x), (1, .ref o)]) rfl ?_
  refine V_aload_n 1 C dL_undo_0 rfl rfl ?_
  refine V_iconst 2 C dL_undo_1 rfl ic0 ?_
  refine V_aload_n 3 C dL_undo_2 rfl rfl ?_
  refine V_callVXH 6 C hT dL_undo_3 rfl mX9_undo tw760 fcX9 w0 (c_X9_undo l G _ _ hl x y k D S sv N T hS hI) rfl rfl (by decide) ⟨by omega, by omega⟩ (Nat.le_of_ble_eq_true rfl) (fun E h1 e1 => ?_) ?_
  · obtain ⟨g0, g1, gS, gF⟩ := e1
    obtain ⟨gk, rfl⟩ := ex_1 g0 g1
    have hz0 : ∀ z ∈ ([] : List (Nat × Nat × Nat × Nat)), z.2.2.2 ≠ 0 ∧ ∃ nm : String, Cond.classLink RL z.2.2.2 nm ∈ TB ∧ (isE, nm) ∈ ncL := fun z hz => by cases hz
    refine ⟨11, ⟨[], (0, 8, 11, 15), [], rfl, hz0, by decide, by decide, tw295, by decide +kernel, rfl⟩, fun n1 q1 => ?_⟩
    refine V_astore_n 12 C dL_undo_11 rfl (by decide) (L' := [(0, _), (1, _), (2, _)]) rfl ?_
    refine V_iconst 13 C dL_undo_12 rfl ic1 ?_
    refine V_ireturn C dL_undo_13 rfl rfl (by omega) (by omega) ?_
    exact PoW_x gk g0 gS gF hof ho
  · rintro _ n1 h1 ⟨g0, rfl, gS, gF⟩
    refine V_i2l 7 C dL_undo_6 rfl  ?_
    refine V_last (j := 0) 8 C dL_undo_7 rfl ((gF o ho).trans hof) rfl (by omega) (by omega) ?_
    refine V_goto 14 C dL_undo_8 (by decide) ?_
    refine V_iconst 15 C dL_undo_14 rfl ic0 ?_
    refine V_ireturn C dL_undo_15 rfl rfl (by omega) (by omega) ?_
    exact PoW_0 g0 gS gF ho

theorem mL_why : MW yL_why cL_why 4 (some .int) [((0 : Nat), (9 : Nat), (12 : Nat), (28 : Nat))] 3 := ⟨tw771, tw0, ⟨by decide +kernel, by decide +kernel⟩, by decide +kernel, by decide, by decide +kernel, tw770⟩
theorem dL_why_0 : decode cL_why 0 = .ok (.aload_n 2, 1) := by decide +kernel
theorem dL_why_1 : decode cL_why 1 = .ok (.iconst 0, 1) := by decide +kernel
theorem dL_why_2 : decode cL_why 2 = .ok (.aload_n 0, 1) := by decide +kernel
theorem dL_why_3 : decode cL_why 3 = .ok (.iload_n 1, 1) := by decide +kernel
theorem dL_why_4 : decode cL_why 4 = .ok (.invokevirtual 74, 3) := by decide +kernel
theorem dL_why_7 : decode cL_why 7 = .ok (.i2l, 1) := by decide +kernel
theorem dL_why_8 : decode cL_why 8 = .ok (.lastore, 1) := by decide +kernel
theorem dL_why_9 : decode cL_why 9 = .ok (.goto 6, 3) := by decide +kernel
theorem dL_why_12 : decode cL_why 12 = .ok (.astore_n 3, 1) := by decide +kernel
theorem dL_why_13 : decode cL_why 13 = .ok (.iconst 1, 1) := by decide +kernel
theorem dL_why_14 : decode cL_why 14 = .ok (.ireturn, 1) := by decide +kernel
theorem dL_why_15 : decode cL_why 15 = .ok (.iconst 0, 1) := by decide +kernel
theorem dL_why_16 : decode cL_why 16 = .ok (.ireturn, 1) := by decide +kernel
set_option maxRecDepth 100000 in
set_option maxHeartbeats 4000000 in
theorem c_L_why (l : Launch) (G : GT) (n : Nat) (h : AH) (hl : l.stackTraces = false) (x : Nat) (y : Nat → Nat) (k : Nat) (D S : Nat → Nat → Nat) (sv : Nat → Bool) (N : Nat) (T : Nat → Nat) (hS : SysC x y k D S sv N T h) (hI : SI y k D S sv N T) (p1 : Int32) (o : Nat) (f : Nat → Int64) (hof : h o = some (.inl (3, 1, .inr (.inl f)))) (ho : o < x ∨ x + 619 ≤ o) : CW l yL_why cL_why 4 (some .int) [((0 : Nat), (9 : Nat), (12 : Nat), (28 : Nat))] 8 4 24 G n h [.ref x, .int p1, .ref o] (PoW x o h (if ix p1 (y 4) then 0 else 1) (nI (crs y (z p1))) y k D S sv N T) := by
  obtain ⟨w0, -⟩ := id hS
  refine CW_of mL_why (Nat.le_of_ble_eq_true rfl) ?_
  intro p₀ e₀ s₀ m₀ as₀ bl₀ me₀ c₀ C hT
  refine V_Le (L' := [(0, .ref x), (1, .int p1), (2, .ref o)]) rfl ?_
  refine V_aload_n 1 C dL_why_0 rfl rfl ?_
  refine V_iconst 2 C dL_why_1 rfl ic0 ?_
  refine V_aload_n 3 C dL_why_2 rfl rfl ?_
  refine V_iload_n 4 C dL_why_3 rfl rfl ?_
  refine V_callVXH 7 C hT dL_why_4 rfl mX9_why tw772 fcX9 w0 (c_X9_why l G _ _ hl x y k D S sv N T hS hI p1) rfl rfl (by decide) ⟨by omega, by omega⟩ (Nat.le_of_ble_eq_true rfl) (fun E h1 e1 => ?_) ?_
  · obtain ⟨g0, g1, gS, gF⟩ := e1
    obtain ⟨gk, rfl⟩ := ex_1 g0 g1
    have hz0 : ∀ z ∈ ([] : List (Nat × Nat × Nat × Nat)), z.2.2.2 ≠ 0 ∧ ∃ nm : String, Cond.classLink RL z.2.2.2 nm ∈ TB ∧ (ioE, nm) ∈ ncL := fun z hz => by cases hz
    refine ⟨12, ⟨[], (0, 9, 12, 28), [], rfl, hz0, by decide, by decide, tw575, by decide +kernel, rfl⟩, fun n1 q1 => ?_⟩
    refine V_astore_n 13 C dL_why_12 rfl (by decide) (L' := [(0, _), (1, _), (2, _), (3, _)]) rfl ?_
    refine V_iconst 14 C dL_why_13 rfl ic1 ?_
    refine V_ireturn C dL_why_14 rfl rfl (by omega) (by omega) ?_
    exact PoW_x gk g0 gS gF hof ho
  · rintro _ n1 h1 ⟨g0, rfl, gS, gF⟩
    refine V_i2l 8 C dL_why_7 rfl  ?_
    refine V_last (j := 0) 9 C dL_why_8 rfl ((gF o ho).trans hof) rfl (by omega) (by omega) ?_
    refine V_goto 15 C dL_why_9 (by decide) ?_
    refine V_iconst 16 C dL_why_15 rfl ic0 ?_
    refine V_ireturn C dL_why_16 rfl rfl (by omega) (by omega) ?_
    exact PoW_0 g0 gS gF ho

theorem mL_errorsIn : MW yL_errorsIn cL_errorsIn 5 (some .int) [((0 : Nat), (10 : Nat), (13 : Nat), (28 : Nat)), ((0 : Nat), (10 : Nat), (17 : Nat), (13 : Nat))] 4 := ⟨tw779, tw0, ⟨by decide +kernel, by decide +kernel⟩, by decide +kernel, by decide, by decide +kernel, tw778⟩
theorem dL_errorsIn_0 : decode cL_errorsIn 0 = .ok (.aload_n 3, 1) := by decide +kernel
theorem dL_errorsIn_1 : decode cL_errorsIn 1 = .ok (.iconst 0, 1) := by decide +kernel
theorem dL_errorsIn_2 : decode cL_errorsIn 2 = .ok (.aload_n 0, 1) := by decide +kernel
theorem dL_errorsIn_3 : decode cL_errorsIn 3 = .ok (.iload_n 1, 1) := by decide +kernel
theorem dL_errorsIn_4 : decode cL_errorsIn 4 = .ok (.iload_n 2, 1) := by decide +kernel
theorem dL_errorsIn_5 : decode cL_errorsIn 5 = .ok (.invokevirtual 77, 3) := by decide +kernel
theorem dL_errorsIn_8 : decode cL_errorsIn 8 = .ok (.i2l, 1) := by decide +kernel
theorem dL_errorsIn_9 : decode cL_errorsIn 9 = .ok (.lastore, 1) := by decide +kernel
theorem dL_errorsIn_10 : decode cL_errorsIn 10 = .ok (.goto 11, 3) := by decide +kernel
theorem dL_errorsIn_13 : decode cL_errorsIn 13 = .ok (.astore 4, 2) := by decide +kernel
theorem dL_errorsIn_15 : decode cL_errorsIn 15 = .ok (.iconst 1, 1) := by decide +kernel
theorem dL_errorsIn_16 : decode cL_errorsIn 16 = .ok (.ireturn, 1) := by decide +kernel
theorem dL_errorsIn_17 : decode cL_errorsIn 17 = .ok (.astore 4, 2) := by decide +kernel
theorem dL_errorsIn_19 : decode cL_errorsIn 19 = .ok (.iconst 2, 1) := by decide +kernel
theorem dL_errorsIn_20 : decode cL_errorsIn 20 = .ok (.ireturn, 1) := by decide +kernel
theorem dL_errorsIn_21 : decode cL_errorsIn 21 = .ok (.iconst 0, 1) := by decide +kernel
theorem dL_errorsIn_22 : decode cL_errorsIn 22 = .ok (.ireturn, 1) := by decide +kernel
set_option maxRecDepth 100000 in
set_option maxHeartbeats 4000000 in
theorem c_L_errorsIn (l : Launch) (G : GT) (n : Nat) (h : AH) (hl : l.stackTraces = false) (x : Nat) (y : Nat → Nat) (k : Nat) (D S : Nat → Nat → Nat) (sv : Nat → Bool) (N : Nat) (T : Nat → Nat) (hS : SysC x y k D S sv N T h) (hI : SI y k D S sv N T) (p1 : Int32) (p2 : Int32) (o : Nat) (f : Nat → Int64) (hof : h o = some (.inl (3, 1, .inr (.inl f)))) (ho : o < x ∨ x + 619 ≤ o) : CW l yL_errorsIn cL_errorsIn 5 (some .int) [((0 : Nat), (10 : Nat), (13 : Nat), (28 : Nat)), ((0 : Nat), (10 : Nat), (17 : Nat), (13 : Nat))] 8 4 24 G n h [.ref x, .int p1, .int p2, .ref o] (PoW x o h (if ix p1 (y 4) then (if ix p2 201 then 0 else 2) else 1) (nI (ers y (z p1) (z p2))) y k D S sv N T) := by
  obtain ⟨w0, -⟩ := id hS
  refine CW_of mL_errorsIn (Nat.le_of_ble_eq_true rfl) ?_
  intro p₀ e₀ s₀ m₀ as₀ bl₀ me₀ c₀ C hT
  refine V_Le (L' := [(0, .ref x), (1, .int p1), (2, .int p2), (3, .ref o)]) rfl ?_
  refine V_aload_n 1 C dL_errorsIn_0 rfl rfl ?_
  refine V_iconst 2 C dL_errorsIn_1 rfl ic0 ?_
  refine V_aload_n 3 C dL_errorsIn_2 rfl rfl ?_
  refine V_iload_n 4 C dL_errorsIn_3 rfl rfl ?_
  refine V_iload_n 5 C dL_errorsIn_4 rfl rfl ?_
  refine V_callVXH 8 C hT dL_errorsIn_5 rfl mX9_errorsIn tw780 fcX9 w0 (c_X9_errorsIn l G _ _ hl x y k D S sv N T hS hI p1 p2) rfl rfl (by decide) ⟨by omega, by omega⟩ (Nat.le_of_ble_eq_true rfl) (fun E h1 e1 => ?_) ?_
  · obtain ⟨g0, g1, gS, gF⟩ := e1
    rcases ex_2 g0 g1 with ⟨gk, rfl⟩ | ⟨gk, rfl⟩
    · skip
      have hz0 : ∀ z ∈ ([] : List (Nat × Nat × Nat × Nat)), z.2.2.2 ≠ 0 ∧ ∃ nm : String, Cond.classLink RL z.2.2.2 nm ∈ TB ∧ (ioE, nm) ∈ ncL := fun z hz => by cases hz
      refine ⟨13, ⟨[], (0, 10, 13, 28), [(0, 10, 17, 13)], rfl, hz0, by decide, by decide, tw575, by decide +kernel, rfl⟩, fun n1 q1 => ?_⟩
      refine V_astore 15 C dL_errorsIn_13 rfl (by decide) (L' := [(0, _), (1, _), (2, _), (3, _), (4, _)]) rfl ?_
      refine V_iconst 16 C dL_errorsIn_15 rfl ic1 ?_
      refine V_ireturn C dL_errorsIn_16 rfl rfl (by omega) (by omega) ?_
      exact PoW_x gk g0 gS gF hof ho
    · skip
      have hz1 : ∀ z ∈ ([(0, 10, 13, 28)] : List (Nat × Nat × Nat × Nat)), z.2.2.2 ≠ 0 ∧ ∃ nm : String, Cond.classLink RL z.2.2.2 nm ∈ TB ∧ (iaE, nm) ∈ ncL := fun z hz => by
        rcases List.mem_cons.mp hz with rfl | hz
        · exact ⟨by decide, _, tw575, by decide +kernel⟩
        cases hz
      refine ⟨17, ⟨[(0, 10, 13, 28)], (0, 10, 17, 13), [], rfl, hz1, by decide, by decide, tw294, by decide +kernel, rfl⟩, fun n1 q1 => ?_⟩
      refine V_astore 19 C dL_errorsIn_17 rfl (by decide) (L' := [(0, _), (1, _), (2, _), (3, _), (4, _)]) rfl ?_
      refine V_iconst 20 C dL_errorsIn_19 rfl ic2 ?_
      refine V_ireturn C dL_errorsIn_20 rfl rfl (by omega) (by omega) ?_
      exact PoW_x gk g0 gS gF hof ho
  · rintro _ n1 h1 ⟨g0, rfl, gS, gF⟩
    refine V_i2l 9 C dL_errorsIn_8 rfl  ?_
    refine V_last (j := 0) 10 C dL_errorsIn_9 rfl ((gF o ho).trans hof) rfl (by omega) (by omega) ?_
    refine V_goto 21 C dL_errorsIn_10 (by decide) ?_
    refine V_iconst 22 C dL_errorsIn_21 rfl ic0 ?_
    refine V_ireturn C dL_errorsIn_22 rfl rfl (by omega) (by omega) ?_
    exact PoW_0 g0 gS gF ho

theorem mL_rightFor : MW yL_rightFor cL_rightFor 4 (some .int) [((0 : Nat), (9 : Nat), (12 : Nat), (28 : Nat))] 3 := ⟨tw786, tw0, ⟨by decide +kernel, by decide +kernel⟩, by decide +kernel, by decide, by decide +kernel, tw785⟩
theorem dL_rightFor_0 : decode cL_rightFor 0 = .ok (.aload_n 2, 1) := by decide +kernel
theorem dL_rightFor_1 : decode cL_rightFor 1 = .ok (.iconst 0, 1) := by decide +kernel
theorem dL_rightFor_2 : decode cL_rightFor 2 = .ok (.aload_n 0, 1) := by decide +kernel
theorem dL_rightFor_3 : decode cL_rightFor 3 = .ok (.iload_n 1, 1) := by decide +kernel
theorem dL_rightFor_4 : decode cL_rightFor 4 = .ok (.invokevirtual 80, 3) := by decide +kernel
theorem dL_rightFor_7 : decode cL_rightFor 7 = .ok (.i2l, 1) := by decide +kernel
theorem dL_rightFor_8 : decode cL_rightFor 8 = .ok (.lastore, 1) := by decide +kernel
theorem dL_rightFor_9 : decode cL_rightFor 9 = .ok (.goto 6, 3) := by decide +kernel
theorem dL_rightFor_12 : decode cL_rightFor 12 = .ok (.astore_n 3, 1) := by decide +kernel
theorem dL_rightFor_13 : decode cL_rightFor 13 = .ok (.iconst 1, 1) := by decide +kernel
theorem dL_rightFor_14 : decode cL_rightFor 14 = .ok (.ireturn, 1) := by decide +kernel
theorem dL_rightFor_15 : decode cL_rightFor 15 = .ok (.iconst 0, 1) := by decide +kernel
theorem dL_rightFor_16 : decode cL_rightFor 16 = .ok (.ireturn, 1) := by decide +kernel
set_option maxRecDepth 100000 in
set_option maxHeartbeats 4000000 in
theorem c_L_rightFor (l : Launch) (G : GT) (n : Nat) (h : AH) (hl : l.stackTraces = false) (x : Nat) (y : Nat → Nat) (k : Nat) (D S : Nat → Nat → Nat) (sv : Nat → Bool) (N : Nat) (T : Nat → Nat) (hS : SysC x y k D S sv N T h) (hI : SI y k D S sv N T) (p1 : Int32) (o : Nat) (f : Nat → Int64) (hof : h o = some (.inl (3, 1, .inr (.inl f)))) (ho : o < x ∨ x + 619 ≤ o) : CW l yL_rightFor cL_rightFor 4 (some .int) [((0 : Nat), (9 : Nat), (12 : Nat), (28 : Nat))] 8 4 24 G n h [.ref x, .int p1, .ref o] (PoW x o h (if ix p1 (y 4) then 0 else 1) (nI (rgt y (z p1) 200 1)) y k D S sv N T) := by
  obtain ⟨w0, -⟩ := id hS
  refine CW_of mL_rightFor (Nat.le_of_ble_eq_true rfl) ?_
  intro p₀ e₀ s₀ m₀ as₀ bl₀ me₀ c₀ C hT
  refine V_Le (L' := [(0, .ref x), (1, .int p1), (2, .ref o)]) rfl ?_
  refine V_aload_n 1 C dL_rightFor_0 rfl rfl ?_
  refine V_iconst 2 C dL_rightFor_1 rfl ic0 ?_
  refine V_aload_n 3 C dL_rightFor_2 rfl rfl ?_
  refine V_iload_n 4 C dL_rightFor_3 rfl rfl ?_
  refine V_callVXH 7 C hT dL_rightFor_4 rfl mX9_rightFor tw787 fcX9 w0 (c_X9_rightFor l G _ _ hl x y k D S sv N T hS hI p1) rfl rfl (by decide) ⟨by omega, by omega⟩ (Nat.le_of_ble_eq_true rfl) (fun E h1 e1 => ?_) ?_
  · obtain ⟨g0, g1, gS, gF⟩ := e1
    obtain ⟨gk, rfl⟩ := ex_1 g0 g1
    have hz0 : ∀ z ∈ ([] : List (Nat × Nat × Nat × Nat)), z.2.2.2 ≠ 0 ∧ ∃ nm : String, Cond.classLink RL z.2.2.2 nm ∈ TB ∧ (ioE, nm) ∈ ncL := fun z hz => by cases hz
    refine ⟨12, ⟨[], (0, 9, 12, 28), [], rfl, hz0, by decide, by decide, tw575, by decide +kernel, rfl⟩, fun n1 q1 => ?_⟩
    refine V_astore_n 13 C dL_rightFor_12 rfl (by decide) (L' := [(0, _), (1, _), (2, _), (3, _)]) rfl ?_
    refine V_iconst 14 C dL_rightFor_13 rfl ic1 ?_
    refine V_ireturn C dL_rightFor_14 rfl rfl (by omega) (by omega) ?_
    exact PoW_x gk g0 gS gF hof ho
  · rintro _ n1 h1 ⟨g0, rfl, gS, gF⟩
    refine V_i2l 8 C dL_rightFor_7 rfl  ?_
    refine V_last (j := 0) 9 C dL_rightFor_8 rfl ((gF o ho).trans hof) rfl (by omega) (by omega) ?_
    refine V_goto 15 C dL_rightFor_9 (by decide) ?_
    refine V_iconst 16 C dL_rightFor_15 rfl ic0 ?_
    refine V_ireturn C dL_rightFor_16 rfl rfl (by omega) (by omega) ?_
    exact PoW_0 g0 gS gF ho

theorem mL_route : MW yL_route cL_route 6 (some .int) [((0 : Nat), (12 : Nat), (15 : Nat), (28 : Nat)), ((0 : Nat), (12 : Nat), (19 : Nat), (13 : Nat))] 5 := ⟨tw793, tw0, ⟨by decide +kernel, by decide +kernel⟩, by decide +kernel, by decide, by decide +kernel, tw792⟩
theorem dL_route_0 : decode cL_route 0 = .ok (.aload 4, 2) := by decide +kernel
theorem dL_route_2 : decode cL_route 2 = .ok (.iconst 0, 1) := by decide +kernel
theorem dL_route_3 : decode cL_route 3 = .ok (.aload_n 0, 1) := by decide +kernel
theorem dL_route_4 : decode cL_route 4 = .ok (.iload_n 1, 1) := by decide +kernel
theorem dL_route_5 : decode cL_route 5 = .ok (.iload_n 2, 1) := by decide +kernel
theorem dL_route_6 : decode cL_route 6 = .ok (.iload_n 3, 1) := by decide +kernel
theorem dL_route_7 : decode cL_route 7 = .ok (.invokevirtual 83, 3) := by decide +kernel
theorem dL_route_10 : decode cL_route 10 = .ok (.i2l, 1) := by decide +kernel
theorem dL_route_11 : decode cL_route 11 = .ok (.lastore, 1) := by decide +kernel
theorem dL_route_12 : decode cL_route 12 = .ok (.goto 11, 3) := by decide +kernel
theorem dL_route_15 : decode cL_route 15 = .ok (.astore 5, 2) := by decide +kernel
theorem dL_route_17 : decode cL_route 17 = .ok (.iconst 1, 1) := by decide +kernel
theorem dL_route_18 : decode cL_route 18 = .ok (.ireturn, 1) := by decide +kernel
theorem dL_route_19 : decode cL_route 19 = .ok (.astore 5, 2) := by decide +kernel
theorem dL_route_21 : decode cL_route 21 = .ok (.iconst 2, 1) := by decide +kernel
theorem dL_route_22 : decode cL_route 22 = .ok (.ireturn, 1) := by decide +kernel
theorem dL_route_23 : decode cL_route 23 = .ok (.iconst 0, 1) := by decide +kernel
theorem dL_route_24 : decode cL_route 24 = .ok (.ireturn, 1) := by decide +kernel
set_option maxRecDepth 100000 in
set_option maxHeartbeats 4000000 in
theorem c_L_route (l : Launch) (G : GT) (n : Nat) (h : AH) (hl : l.stackTraces = false) (x : Nat) (y : Nat → Nat) (k : Nat) (D S : Nat → Nat → Nat) (sv : Nat → Bool) (N : Nat) (T : Nat → Nat) (hS : SysC x y k D S sv N T h) (hI : SI y k D S sv N T) (p1 : Int32) (p2 : Int32) (p3 : Int32) (o : Nat) (f : Nat → Int64) (hof : h o = some (.inl (3, 1, .inr (.inl f)))) (ho : o < x ∨ x + 619 ≤ o) : CW l yL_route cL_route 6 (some .int) [((0 : Nat), (12 : Nat), (15 : Nat), (28 : Nat)), ((0 : Nat), (12 : Nat), (19 : Nat), (13 : Nat))] 8 4 24 G n h [.ref x, .int p1, .int p2, .int p3, .ref o] (PoW x o h (if ix p1 (y 0) ∧ ix p2 (y 0) then (if ix p3 2 then 0 else 2) else 1) (nI (mo (dst y (z p1) (z p2)))) y k D S sv N T) := by
  obtain ⟨w0, -⟩ := id hS
  refine CW_of mL_route (Nat.le_of_ble_eq_true rfl) ?_
  intro p₀ e₀ s₀ m₀ as₀ bl₀ me₀ c₀ C hT
  refine V_Le (L' := [(0, .ref x), (1, .int p1), (2, .int p2), (3, .int p3), (4, .ref o)]) rfl ?_
  refine V_aload 2 C dL_route_0 rfl rfl ?_
  refine V_iconst 3 C dL_route_2 rfl ic0 ?_
  refine V_aload_n 4 C dL_route_3 rfl rfl ?_
  refine V_iload_n 5 C dL_route_4 rfl rfl ?_
  refine V_iload_n 6 C dL_route_5 rfl rfl ?_
  refine V_iload_n 7 C dL_route_6 rfl rfl ?_
  refine V_callVXH 10 C hT dL_route_7 rfl mX9_route tw794 fcX9 w0 (c_X9_route l G _ _ hl x y k D S sv N T hS hI p1 p2 p3) rfl rfl (by decide) ⟨by omega, by omega⟩ (Nat.le_of_ble_eq_true rfl) (fun E h1 e1 => ?_) ?_
  · obtain ⟨g0, g1, gS, gF⟩ := e1
    rcases ex_2 g0 g1 with ⟨gk, rfl⟩ | ⟨gk, rfl⟩
    · skip
      have hz0 : ∀ z ∈ ([] : List (Nat × Nat × Nat × Nat)), z.2.2.2 ≠ 0 ∧ ∃ nm : String, Cond.classLink RL z.2.2.2 nm ∈ TB ∧ (ioE, nm) ∈ ncL := fun z hz => by cases hz
      refine ⟨15, ⟨[], (0, 12, 15, 28), [(0, 12, 19, 13)], rfl, hz0, by decide, by decide, tw575, by decide +kernel, rfl⟩, fun n1 q1 => ?_⟩
      refine V_astore 17 C dL_route_15 rfl (by decide) (L' := [(0, _), (1, _), (2, _), (3, _), (4, _), (5, _)]) rfl ?_
      refine V_iconst 18 C dL_route_17 rfl ic1 ?_
      refine V_ireturn C dL_route_18 rfl rfl (by omega) (by omega) ?_
      exact PoW_x gk g0 gS gF hof ho
    · skip
      have hz1 : ∀ z ∈ ([(0, 12, 15, 28)] : List (Nat × Nat × Nat × Nat)), z.2.2.2 ≠ 0 ∧ ∃ nm : String, Cond.classLink RL z.2.2.2 nm ∈ TB ∧ (iaE, nm) ∈ ncL := fun z hz => by
        rcases List.mem_cons.mp hz with rfl | hz
        · exact ⟨by decide, _, tw575, by decide +kernel⟩
        cases hz
      refine ⟨19, ⟨[(0, 12, 15, 28)], (0, 12, 19, 13), [], rfl, hz1, by decide, by decide, tw294, by decide +kernel, rfl⟩, fun n1 q1 => ?_⟩
      refine V_astore 21 C dL_route_19 rfl (by decide) (L' := [(0, _), (1, _), (2, _), (3, _), (4, _), (5, _)]) rfl ?_
      refine V_iconst 22 C dL_route_21 rfl ic2 ?_
      refine V_ireturn C dL_route_22 rfl rfl (by omega) (by omega) ?_
      exact PoW_x gk g0 gS gF hof ho
  · rintro _ n1 h1 ⟨g0, rfl, gS, gF⟩
    refine V_i2l 11 C dL_route_10 rfl  ?_
    refine V_last (j := 0) 12 C dL_route_11 rfl ((gF o ho).trans hof) rfl (by omega) (by omega) ?_
    refine V_goto 23 C dL_route_12 (by decide) ?_
    refine V_iconst 24 C dL_route_23 rfl ic0 ?_
    refine V_ireturn C dL_route_24 rfl rfl (by omega) (by omega) ?_
    exact PoW_0 g0 gS gF ho

theorem mL_roadTo : MW yL_roadTo cL_roadTo 5 (some .int) [((0 : Nat), (10 : Nat), (13 : Nat), (28 : Nat))] 4 := ⟨tw832, tw0, ⟨by decide +kernel, by decide +kernel⟩, by decide +kernel, by decide, by decide +kernel, tw831⟩
theorem dL_roadTo_0 : decode cL_roadTo 0 = .ok (.aload_n 3, 1) := by decide +kernel
theorem dL_roadTo_1 : decode cL_roadTo 1 = .ok (.iconst 0, 1) := by decide +kernel
theorem dL_roadTo_2 : decode cL_roadTo 2 = .ok (.aload_n 0, 1) := by decide +kernel
theorem dL_roadTo_3 : decode cL_roadTo 3 = .ok (.iload_n 1, 1) := by decide +kernel
theorem dL_roadTo_4 : decode cL_roadTo 4 = .ok (.iload_n 2, 1) := by decide +kernel
theorem dL_roadTo_5 : decode cL_roadTo 5 = .ok (.invokevirtual 86, 3) := by decide +kernel
theorem dL_roadTo_8 : decode cL_roadTo 8 = .ok (.i2l, 1) := by decide +kernel
theorem dL_roadTo_9 : decode cL_roadTo 9 = .ok (.lastore, 1) := by decide +kernel
theorem dL_roadTo_10 : decode cL_roadTo 10 = .ok (.goto 7, 3) := by decide +kernel
theorem dL_roadTo_13 : decode cL_roadTo 13 = .ok (.astore 4, 2) := by decide +kernel
theorem dL_roadTo_15 : decode cL_roadTo 15 = .ok (.iconst 1, 1) := by decide +kernel
theorem dL_roadTo_16 : decode cL_roadTo 16 = .ok (.ireturn, 1) := by decide +kernel
theorem dL_roadTo_17 : decode cL_roadTo 17 = .ok (.iconst 0, 1) := by decide +kernel
theorem dL_roadTo_18 : decode cL_roadTo 18 = .ok (.ireturn, 1) := by decide +kernel
set_option maxRecDepth 100000 in
set_option maxHeartbeats 4000000 in
theorem c_L_roadTo (l : Launch) (G : GT) (n : Nat) (h : AH) (hl : l.stackTraces = false) (x : Nat) (y : Nat → Nat) (k : Nat) (D S : Nat → Nat → Nat) (sv : Nat → Bool) (N : Nat) (T : Nat → Nat) (hS : SysC x y k D S sv N T h) (hI : SI y k D S sv N T) (p1 : Int32) (p2 : Int32) (o : Nat) (f : Nat → Int64) (hof : h o = some (.inl (3, 1, .inr (.inl f)))) (ho : o < x ∨ x + 619 ≤ o) : CW l yL_roadTo cL_roadTo 5 (some .int) [((0 : Nat), (10 : Nat), (13 : Nat), (28 : Nat))] 8 4 24 G n h [.ref x, .int p1, .int p2, .ref o] (PoW x o h (if ix p1 (y 0) ∧ ix p2 (y 0) then 0 else 1) (nI (rto y (z p1) (z p2))) y k D S sv N T) := by
  obtain ⟨w0, -⟩ := id hS
  refine CW_of mL_roadTo (Nat.le_of_ble_eq_true rfl) ?_
  intro p₀ e₀ s₀ m₀ as₀ bl₀ me₀ c₀ C hT
  refine V_Le (L' := [(0, .ref x), (1, .int p1), (2, .int p2), (3, .ref o)]) rfl ?_
  refine V_aload_n 1 C dL_roadTo_0 rfl rfl ?_
  refine V_iconst 2 C dL_roadTo_1 rfl ic0 ?_
  refine V_aload_n 3 C dL_roadTo_2 rfl rfl ?_
  refine V_iload_n 4 C dL_roadTo_3 rfl rfl ?_
  refine V_iload_n 5 C dL_roadTo_4 rfl rfl ?_
  refine V_callVXH 8 C hT dL_roadTo_5 rfl mX9_roadTo tw833 fcX9 w0 (c_X9_roadTo l G _ _ hl x y k D S sv N T hS hI p1 p2) rfl rfl (by decide) ⟨by omega, by omega⟩ (Nat.le_of_ble_eq_true rfl) (fun E h1 e1 => ?_) ?_
  · obtain ⟨g0, g1, gS, gF⟩ := e1
    obtain ⟨gk, rfl⟩ := ex_1 g0 g1
    have hz0 : ∀ z ∈ ([] : List (Nat × Nat × Nat × Nat)), z.2.2.2 ≠ 0 ∧ ∃ nm : String, Cond.classLink RL z.2.2.2 nm ∈ TB ∧ (ioE, nm) ∈ ncL := fun z hz => by cases hz
    refine ⟨13, ⟨[], (0, 10, 13, 28), [], rfl, hz0, by decide, by decide, tw575, by decide +kernel, rfl⟩, fun n1 q1 => ?_⟩
    refine V_astore 15 C dL_roadTo_13 rfl (by decide) (L' := [(0, _), (1, _), (2, _), (3, _), (4, _)]) rfl ?_
    refine V_iconst 16 C dL_roadTo_15 rfl ic1 ?_
    refine V_ireturn C dL_roadTo_16 rfl rfl (by omega) (by omega) ?_
    exact PoW_x gk g0 gS gF hof ho
  · rintro _ n1 h1 ⟨g0, rfl, gS, gF⟩
    refine V_i2l 9 C dL_roadTo_8 rfl  ?_
    refine V_last (j := 0) 10 C dL_roadTo_9 rfl ((gF o ho).trans hof) rfl (by omega) (by omega) ?_
    refine V_goto 17 C dL_roadTo_10 (by decide) ?_
    refine V_iconst 18 C dL_roadTo_17 rfl ic0 ?_
    refine V_ireturn C dL_roadTo_18 rfl rfl (by omega) (by omega) ?_
    exact PoW_0 g0 gS gF ho

theorem mL_ifBrought : MW yL_ifBrought cL_ifBrought 5 (some .int) [((0 : Nat), (10 : Nat), (13 : Nat), (28 : Nat))] 4 := ⟨tw843, tw0, ⟨by decide +kernel, by decide +kernel⟩, by decide +kernel, by decide, by decide +kernel, tw842⟩
theorem dL_ifBrought_0 : decode cL_ifBrought 0 = .ok (.aload_n 3, 1) := by decide +kernel
theorem dL_ifBrought_1 : decode cL_ifBrought 1 = .ok (.iconst 0, 1) := by decide +kernel
theorem dL_ifBrought_2 : decode cL_ifBrought 2 = .ok (.aload_n 0, 1) := by decide +kernel
theorem dL_ifBrought_3 : decode cL_ifBrought 3 = .ok (.iload_n 1, 1) := by decide +kernel
theorem dL_ifBrought_4 : decode cL_ifBrought 4 = .ok (.iload_n 2, 1) := by decide +kernel
theorem dL_ifBrought_5 : decode cL_ifBrought 5 = .ok (.invokevirtual 89, 3) := by decide +kernel
theorem dL_ifBrought_8 : decode cL_ifBrought 8 = .ok (.i2l, 1) := by decide +kernel
theorem dL_ifBrought_9 : decode cL_ifBrought 9 = .ok (.lastore, 1) := by decide +kernel
theorem dL_ifBrought_10 : decode cL_ifBrought 10 = .ok (.goto 7, 3) := by decide +kernel
theorem dL_ifBrought_13 : decode cL_ifBrought 13 = .ok (.astore 4, 2) := by decide +kernel
theorem dL_ifBrought_15 : decode cL_ifBrought 15 = .ok (.iconst 1, 1) := by decide +kernel
theorem dL_ifBrought_16 : decode cL_ifBrought 16 = .ok (.ireturn, 1) := by decide +kernel
theorem dL_ifBrought_17 : decode cL_ifBrought 17 = .ok (.iconst 0, 1) := by decide +kernel
theorem dL_ifBrought_18 : decode cL_ifBrought 18 = .ok (.ireturn, 1) := by decide +kernel
set_option maxRecDepth 100000 in
set_option maxHeartbeats 4000000 in
theorem c_L_ifBrought (l : Launch) (G : GT) (n : Nat) (h : AH) (hl : l.stackTraces = false) (x : Nat) (y : Nat → Nat) (k : Nat) (D S : Nat → Nat → Nat) (sv : Nat → Bool) (N : Nat) (T : Nat → Nat) (hS : SysC x y k D S sv N T h) (hI : SI y k D S sv N T) (p1 : Int32) (p2 : Int32) (o : Nat) (f : Nat → Int64) (hof : h o = some (.inl (3, 1, .inr (.inl f)))) (ho : o < x ∨ x + 619 ≤ o) : CW l yL_ifBrought cL_ifBrought 5 (some .int) [((0 : Nat), (10 : Nat), (13 : Nat), (28 : Nat))] 8 4 24 G n h [.ref x, .int p1, .int p2, .ref o] (PoW x o h (if ix p1 (y 4) ∧ ix p2 (y 0) then 0 else 1) (nI (qIb y (z p1) (z p2))) y k D S sv N T) := by
  obtain ⟨w0, -⟩ := id hS
  refine CW_of mL_ifBrought (Nat.le_of_ble_eq_true rfl) ?_
  intro p₀ e₀ s₀ m₀ as₀ bl₀ me₀ c₀ C hT
  refine V_Le (L' := [(0, .ref x), (1, .int p1), (2, .int p2), (3, .ref o)]) rfl ?_
  refine V_aload_n 1 C dL_ifBrought_0 rfl rfl ?_
  refine V_iconst 2 C dL_ifBrought_1 rfl ic0 ?_
  refine V_aload_n 3 C dL_ifBrought_2 rfl rfl ?_
  refine V_iload_n 4 C dL_ifBrought_3 rfl rfl ?_
  refine V_iload_n 5 C dL_ifBrought_4 rfl rfl ?_
  refine V_callVXH 8 C hT dL_ifBrought_5 rfl mX9_ifBrought tw844 fcX9 w0 (c_X9_ifBrought l G _ _ hl x y k D S sv N T hS hI p1 p2) rfl rfl (by decide) ⟨by omega, by omega⟩ (Nat.le_of_ble_eq_true rfl) (fun E h1 e1 => ?_) ?_
  · obtain ⟨g0, g1, gS, gF⟩ := e1
    obtain ⟨gk, rfl⟩ := ex_1 g0 g1
    have hz0 : ∀ z ∈ ([] : List (Nat × Nat × Nat × Nat)), z.2.2.2 ≠ 0 ∧ ∃ nm : String, Cond.classLink RL z.2.2.2 nm ∈ TB ∧ (ioE, nm) ∈ ncL := fun z hz => by cases hz
    refine ⟨13, ⟨[], (0, 10, 13, 28), [], rfl, hz0, by decide, by decide, tw575, by decide +kernel, rfl⟩, fun n1 q1 => ?_⟩
    refine V_astore 15 C dL_ifBrought_13 rfl (by decide) (L' := [(0, _), (1, _), (2, _), (3, _), (4, _)]) rfl ?_
    refine V_iconst 16 C dL_ifBrought_15 rfl ic1 ?_
    refine V_ireturn C dL_ifBrought_16 rfl rfl (by omega) (by omega) ?_
    exact PoW_x gk g0 gS gF hof ho
  · rintro _ n1 h1 ⟨g0, rfl, gS, gF⟩
    refine V_i2l 9 C dL_ifBrought_8 rfl  ?_
    refine V_last (j := 0) 10 C dL_ifBrought_9 rfl ((gF o ho).trans hof) rfl (by omega) (by omega) ?_
    refine V_goto 17 C dL_ifBrought_10 (by decide) ?_
    refine V_iconst 18 C dL_ifBrought_17 rfl ic0 ?_
    refine V_ireturn C dL_ifBrought_18 rfl rfl (by omega) (by omega) ?_
    exact PoW_0 g0 gS gF ho

theorem mL_best : MW yL_best cL_best 4 (some .int) [((0 : Nat), (9 : Nat), (12 : Nat), (28 : Nat))] 3 := ⟨tw850, tw0, ⟨by decide +kernel, by decide +kernel⟩, by decide +kernel, by decide, by decide +kernel, tw849⟩
theorem dL_best_0 : decode cL_best 0 = .ok (.aload_n 2, 1) := by decide +kernel
theorem dL_best_1 : decode cL_best 1 = .ok (.iconst 0, 1) := by decide +kernel
theorem dL_best_2 : decode cL_best 2 = .ok (.aload_n 0, 1) := by decide +kernel
theorem dL_best_3 : decode cL_best 3 = .ok (.iload_n 1, 1) := by decide +kernel
theorem dL_best_4 : decode cL_best 4 = .ok (.invokevirtual 92, 3) := by decide +kernel
theorem dL_best_7 : decode cL_best 7 = .ok (.i2l, 1) := by decide +kernel
theorem dL_best_8 : decode cL_best 8 = .ok (.lastore, 1) := by decide +kernel
theorem dL_best_9 : decode cL_best 9 = .ok (.goto 6, 3) := by decide +kernel
theorem dL_best_12 : decode cL_best 12 = .ok (.astore_n 3, 1) := by decide +kernel
theorem dL_best_13 : decode cL_best 13 = .ok (.iconst 1, 1) := by decide +kernel
theorem dL_best_14 : decode cL_best 14 = .ok (.ireturn, 1) := by decide +kernel
theorem dL_best_15 : decode cL_best 15 = .ok (.iconst 0, 1) := by decide +kernel
theorem dL_best_16 : decode cL_best 16 = .ok (.ireturn, 1) := by decide +kernel
set_option maxRecDepth 100000 in
set_option maxHeartbeats 4000000 in
theorem c_L_best (l : Launch) (G : GT) (n : Nat) (h : AH) (hl : l.stackTraces = false) (x : Nat) (y : Nat → Nat) (k : Nat) (D S : Nat → Nat → Nat) (sv : Nat → Bool) (N : Nat) (T : Nat → Nat) (hS : SysC x y k D S sv N T h) (hI : SI y k D S sv N T) (p1 : Int32) (o : Nat) (f : Nat → Int64) (hof : h o = some (.inl (3, 1, .inr (.inl f)))) (ho : o < x ∨ x + 619 ≤ o) : CW l yL_best cL_best 4 (some .int) [((0 : Nat), (9 : Nat), (12 : Nat), (28 : Nat))] 8 4 24 G n h [.ref x, .int p1, .ref o] (PoW x o h (if ix p1 (y 3) then 0 else 1) (nI (bestk y (z p1) (y 4))) y k D S sv N T) := by
  obtain ⟨w0, -⟩ := id hS
  refine CW_of mL_best (Nat.le_of_ble_eq_true rfl) ?_
  intro p₀ e₀ s₀ m₀ as₀ bl₀ me₀ c₀ C hT
  refine V_Le (L' := [(0, .ref x), (1, .int p1), (2, .ref o)]) rfl ?_
  refine V_aload_n 1 C dL_best_0 rfl rfl ?_
  refine V_iconst 2 C dL_best_1 rfl ic0 ?_
  refine V_aload_n 3 C dL_best_2 rfl rfl ?_
  refine V_iload_n 4 C dL_best_3 rfl rfl ?_
  refine V_callVXH 7 C hT dL_best_4 rfl mX9_best tw851 fcX9 w0 (c_X9_best l G _ _ hl x y k D S sv N T hS hI p1) rfl rfl (by decide) ⟨by omega, by omega⟩ (Nat.le_of_ble_eq_true rfl) (fun E h1 e1 => ?_) ?_
  · obtain ⟨g0, g1, gS, gF⟩ := e1
    obtain ⟨gk, rfl⟩ := ex_1 g0 g1
    have hz0 : ∀ z ∈ ([] : List (Nat × Nat × Nat × Nat)), z.2.2.2 ≠ 0 ∧ ∃ nm : String, Cond.classLink RL z.2.2.2 nm ∈ TB ∧ (ioE, nm) ∈ ncL := fun z hz => by cases hz
    refine ⟨12, ⟨[], (0, 9, 12, 28), [], rfl, hz0, by decide, by decide, tw575, by decide +kernel, rfl⟩, fun n1 q1 => ?_⟩
    refine V_astore_n 13 C dL_best_12 rfl (by decide) (L' := [(0, _), (1, _), (2, _), (3, _)]) rfl ?_
    refine V_iconst 14 C dL_best_13 rfl ic1 ?_
    refine V_ireturn C dL_best_14 rfl rfl (by omega) (by omega) ?_
    exact PoW_x gk g0 gS gF hof ho
  · rintro _ n1 h1 ⟨g0, rfl, gS, gF⟩
    refine V_i2l 8 C dL_best_7 rfl  ?_
    refine V_last (j := 0) 9 C dL_best_8 rfl ((gF o ho).trans hof) rfl (by omega) (by omega) ?_
    refine V_goto 15 C dL_best_9 (by decide) ?_
    refine V_iconst 16 C dL_best_15 rfl ic0 ?_
    refine V_ireturn C dL_best_16 rfl rfl (by omega) (by omega) ?_
    exact PoW_0 g0 gS gF ho

theorem mL_runScript : MW yL_runScript cL_runScript 6 (some .int) [((0 : Nat), (11 : Nat), (14 : Nat), (13 : Nat))] 4 := ⟨tw865, tw0, ⟨by decide +kernel, by decide +kernel⟩, by decide +kernel, by decide, by decide +kernel, tw864⟩
theorem dL_runScript_0 : decode cL_runScript 0 = .ok (.aload 4, 2) := by decide +kernel
theorem dL_runScript_2 : decode cL_runScript 2 = .ok (.iconst 0, 1) := by decide +kernel
theorem dL_runScript_3 : decode cL_runScript 3 = .ok (.aload_n 0, 1) := by decide +kernel
theorem dL_runScript_4 : decode cL_runScript 4 = .ok (.iload_n 1, 1) := by decide +kernel
theorem dL_runScript_5 : decode cL_runScript 5 = .ok (.lload_n 2, 1) := by decide +kernel
theorem dL_runScript_6 : decode cL_runScript 6 = .ok (.invokevirtual 95, 3) := by decide +kernel
theorem dL_runScript_9 : decode cL_runScript 9 = .ok (.i2l, 1) := by decide +kernel
theorem dL_runScript_10 : decode cL_runScript 10 = .ok (.lastore, 1) := by decide +kernel
theorem dL_runScript_11 : decode cL_runScript 11 = .ok (.goto 7, 3) := by decide +kernel
theorem dL_runScript_14 : decode cL_runScript 14 = .ok (.astore 5, 2) := by decide +kernel
theorem dL_runScript_16 : decode cL_runScript 16 = .ok (.iconst 1, 1) := by decide +kernel
theorem dL_runScript_17 : decode cL_runScript 17 = .ok (.ireturn, 1) := by decide +kernel
theorem dL_runScript_18 : decode cL_runScript 18 = .ok (.iconst 0, 1) := by decide +kernel
theorem dL_runScript_19 : decode cL_runScript 19 = .ok (.ireturn, 1) := by decide +kernel
set_option maxRecDepth 100000 in
set_option maxHeartbeats 4000000 in
theorem c_L_runScript (l : Launch) (G : GT) (n : Nat) (h : AH) (hl : l.stackTraces = false) (x : Nat) (y : Nat → Nat) (k : Nat) (D S : Nat → Nat → Nat) (sv : Nat → Bool) (N : Nat) (T : Nat → Nat) (hS : SysC x y k D S sv N T h) (hI : SI y k D S sv N T) (p1 : Int32) (p2 : Int64) (o : Nat) (f : Nat → Int64) (hof : h o = some (.inl (3, 1, .inr (.inl f)))) (ho : o < x ∨ x + 619 ≤ o) : CW l yL_runScript cL_runScript 6 (some .int) [((0 : Nat), (11 : Nat), (14 : Nat), (13 : Nat))] 9 4 24 G n h [.ref x, .int p1, .long p2, .ref o] (PoW x o h (if (1 ≤ p1.toInt ∧ p1.toInt ≤ 3) ∧ (0 ≤ p2.toInt ∧ wz p2 < 100000 ^ z p1) then 0 else 1) (nI (scr (wz p2) (z p1) (z p1) 0 y)) y k D S sv N T) := by
  obtain ⟨w0, -⟩ := id hS
  refine CW_of mL_runScript (Nat.le_of_ble_eq_true rfl) ?_
  intro p₀ e₀ s₀ m₀ as₀ bl₀ me₀ c₀ C hT
  refine V_Le (L' := [(0, .ref x), (1, .int p1), (2, .long p2), (4, .ref o)]) rfl ?_
  refine V_aload 2 C dL_runScript_0 rfl rfl ?_
  refine V_iconst 3 C dL_runScript_2 rfl ic0 ?_
  refine V_aload_n 4 C dL_runScript_3 rfl rfl ?_
  refine V_iload_n 5 C dL_runScript_4 rfl rfl ?_
  refine V_lload_n 6 C dL_runScript_5 rfl rfl ?_
  refine V_callVXH 9 C hT dL_runScript_6 rfl mX9_runScript tw866 fcX9 w0 (c_X9_runScript l G _ _ hl x y k D S sv N T hS hI p1 p2) rfl rfl (by decide) ⟨by omega, by omega⟩ (Nat.le_of_ble_eq_true rfl) (fun E h1 e1 => ?_) ?_
  · obtain ⟨g0, g1, gS, gF⟩ := e1
    obtain ⟨gk, rfl⟩ := ex_1 g0 g1
    have hz0 : ∀ z ∈ ([] : List (Nat × Nat × Nat × Nat)), z.2.2.2 ≠ 0 ∧ ∃ nm : String, Cond.classLink RL z.2.2.2 nm ∈ TB ∧ (iaE, nm) ∈ ncL := fun z hz => by cases hz
    refine ⟨14, ⟨[], (0, 11, 14, 13), [], rfl, hz0, by decide, by decide, tw294, by decide +kernel, rfl⟩, fun n1 q1 => ?_⟩
    refine V_astore 16 C dL_runScript_14 rfl (by decide) (L' := [(0, _), (1, _), (2, _), (4, _), (5, _)]) rfl ?_
    refine V_iconst 17 C dL_runScript_16 rfl ic1 ?_
    refine V_ireturn C dL_runScript_17 rfl rfl (by omega) (by omega) ?_
    exact PoW_x gk g0 gS gF hof ho
  · rintro _ n1 h1 ⟨g0, rfl, gS, gF⟩
    refine V_i2l 10 C dL_runScript_9 rfl  ?_
    refine V_last (j := 0) 11 C dL_runScript_10 rfl ((gF o ho).trans hof) rfl (by omega) (by omega) ?_
    refine V_goto 18 C dL_runScript_11 (by decide) ?_
    refine V_iconst 19 C dL_runScript_18 rfl ic0 ?_
    refine V_ireturn C dL_runScript_19 rfl rfl (by omega) (by omega) ?_
    exact PoW_0 g0 gS gF ho

theorem mL_simulate : MW yL_simulate cL_simulate 6 (some .int) [((0 : Nat), (11 : Nat), (14 : Nat), (13 : Nat))] 4 := ⟨tw896, tw0, ⟨by decide +kernel, by decide +kernel⟩, by decide +kernel, by decide, by decide +kernel, tw895⟩
theorem dL_simulate_0 : decode cL_simulate 0 = .ok (.aload 4, 2) := by decide +kernel
theorem dL_simulate_2 : decode cL_simulate 2 = .ok (.iconst 0, 1) := by decide +kernel
theorem dL_simulate_3 : decode cL_simulate 3 = .ok (.aload_n 0, 1) := by decide +kernel
theorem dL_simulate_4 : decode cL_simulate 4 = .ok (.lload_n 1, 1) := by decide +kernel
theorem dL_simulate_5 : decode cL_simulate 5 = .ok (.iload_n 3, 1) := by decide +kernel
theorem dL_simulate_6 : decode cL_simulate 6 = .ok (.invokevirtual 99, 3) := by decide +kernel
theorem dL_simulate_9 : decode cL_simulate 9 = .ok (.i2l, 1) := by decide +kernel
theorem dL_simulate_10 : decode cL_simulate 10 = .ok (.lastore, 1) := by decide +kernel
theorem dL_simulate_11 : decode cL_simulate 11 = .ok (.goto 7, 3) := by decide +kernel
theorem dL_simulate_14 : decode cL_simulate 14 = .ok (.astore 5, 2) := by decide +kernel
theorem dL_simulate_16 : decode cL_simulate 16 = .ok (.iconst 1, 1) := by decide +kernel
theorem dL_simulate_17 : decode cL_simulate 17 = .ok (.ireturn, 1) := by decide +kernel
theorem dL_simulate_18 : decode cL_simulate 18 = .ok (.iconst 0, 1) := by decide +kernel
theorem dL_simulate_19 : decode cL_simulate 19 = .ok (.ireturn, 1) := by decide +kernel
set_option maxRecDepth 100000 in
set_option maxHeartbeats 4000000 in
theorem c_L_simulate (l : Launch) (G : GT) (n : Nat) (h : AH) (hl : l.stackTraces = false) (x : Nat) (y : Nat → Nat) (k : Nat) (D S : Nat → Nat → Nat) (sv : Nat → Bool) (N : Nat) (T : Nat → Nat) (hS : SysC x y k D S sv N T h) (hI : SI y k D S sv N T) (p1 : Int64) (p2 : Int32) (o : Nat) (f : Nat → Int64) (hof : h o = some (.inl (3, 1, .inr (.inl f)))) (ho : o < x ∨ x + 619 ≤ o) : CW l yL_simulate cL_simulate 6 (some .int) [((0 : Nat), (11 : Nat), (14 : Nat), (13 : Nat))] 8 4 24 G n h [.ref x, .long p1, .int p2, .ref o] (PoW x o h (if 1 ≤ p2.toInt ∧ p2.toInt ≤ 60 then 0 else 1) (nI (smA (trk p1 y (z p2)))) y k D S sv N T) := by
  obtain ⟨w0, -⟩ := id hS
  refine CW_of mL_simulate (Nat.le_of_ble_eq_true rfl) ?_
  intro p₀ e₀ s₀ m₀ as₀ bl₀ me₀ c₀ C hT
  refine V_Le (L' := [(0, .ref x), (1, .long p1), (3, .int p2), (4, .ref o)]) rfl ?_
  refine V_aload 2 C dL_simulate_0 rfl rfl ?_
  refine V_iconst 3 C dL_simulate_2 rfl ic0 ?_
  refine V_aload_n 4 C dL_simulate_3 rfl rfl ?_
  refine V_lload_n 5 C dL_simulate_4 rfl rfl ?_
  refine V_iload_n 6 C dL_simulate_5 rfl rfl ?_
  refine V_callVXH 9 C hT dL_simulate_6 rfl mX9_simulate tw897 fcX9 w0 (c_X9_simulate l G _ _ hl x y k D S sv N T hS hI p1 p2) rfl rfl (by decide) ⟨by omega, by omega⟩ (Nat.le_of_ble_eq_true rfl) (fun E h1 e1 => ?_) ?_
  · obtain ⟨g0, g1, gS, gF⟩ := e1
    obtain ⟨gk, rfl⟩ := ex_1 g0 g1
    have hz0 : ∀ z ∈ ([] : List (Nat × Nat × Nat × Nat)), z.2.2.2 ≠ 0 ∧ ∃ nm : String, Cond.classLink RL z.2.2.2 nm ∈ TB ∧ (iaE, nm) ∈ ncL := fun z hz => by cases hz
    refine ⟨14, ⟨[], (0, 11, 14, 13), [], rfl, hz0, by decide, by decide, tw294, by decide +kernel, rfl⟩, fun n1 q1 => ?_⟩
    refine V_astore 16 C dL_simulate_14 rfl (by decide) (L' := [(0, _), (1, _), (3, _), (4, _), (5, _)]) rfl ?_
    refine V_iconst 17 C dL_simulate_16 rfl ic1 ?_
    refine V_ireturn C dL_simulate_17 rfl rfl (by omega) (by omega) ?_
    exact PoW_x gk g0 gS gF hof ho
  · rintro _ n1 h1 ⟨g0, rfl, gS, gF⟩
    refine V_i2l 10 C dL_simulate_9 rfl  ?_
    refine V_last (j := 0) 11 C dL_simulate_10 rfl ((gF o ho).trans hof) rfl (by omega) (by omega) ?_
    refine V_goto 18 C dL_simulate_11 (by decide) ?_
    refine V_iconst 19 C dL_simulate_18 rfl ic0 ?_
    refine V_ireturn C dL_simulate_19 rfl rfl (by omega) (by omega) ?_
    exact PoW_0 g0 gS gF ho

theorem mL_save : MW yL_save cL_save 4 (some .int) [((0 : Nat), (9 : Nat), (12 : Nat), (28 : Nat))] 3 := ⟨tw914, tw0, ⟨by decide +kernel, by decide +kernel⟩, by decide +kernel, by decide, by decide +kernel, tw913⟩
theorem dL_save_0 : decode cL_save 0 = .ok (.aload_n 2, 1) := by decide +kernel
theorem dL_save_1 : decode cL_save 1 = .ok (.iconst 0, 1) := by decide +kernel
theorem dL_save_2 : decode cL_save 2 = .ok (.aload_n 0, 1) := by decide +kernel
theorem dL_save_3 : decode cL_save 3 = .ok (.iload_n 1, 1) := by decide +kernel
theorem dL_save_4 : decode cL_save 4 = .ok (.invokevirtual 103, 3) := by decide +kernel
theorem dL_save_7 : decode cL_save 7 = .ok (.i2l, 1) := by decide +kernel
theorem dL_save_8 : decode cL_save 8 = .ok (.lastore, 1) := by decide +kernel
theorem dL_save_9 : decode cL_save 9 = .ok (.goto 6, 3) := by decide +kernel
theorem dL_save_12 : decode cL_save 12 = .ok (.astore_n 3, 1) := by decide +kernel
theorem dL_save_13 : decode cL_save 13 = .ok (.iconst 1, 1) := by decide +kernel
theorem dL_save_14 : decode cL_save 14 = .ok (.ireturn, 1) := by decide +kernel
theorem dL_save_15 : decode cL_save 15 = .ok (.iconst 0, 1) := by decide +kernel
theorem dL_save_16 : decode cL_save 16 = .ok (.ireturn, 1) := by decide +kernel
set_option maxRecDepth 100000 in
set_option maxHeartbeats 4000000 in
theorem c_L_save (l : Launch) (G : GT) (n : Nat) (h : AH) (hl : l.stackTraces = false) (x : Nat) (y : Nat → Nat) (k : Nat) (D S : Nat → Nat → Nat) (sv : Nat → Bool) (N : Nat) (T : Nat → Nat) (hS : SysC x y k D S sv N T h) (hI : SI y k D S sv N T) (p1 : Int32) (o : Nat) (f : Nat → Int64) (hof : h o = some (.inl (3, 1, .inr (.inl f)))) (ho : o < x ∨ x + 619 ≤ o) : CW l yL_save cL_save 4 (some .int) [((0 : Nat), (9 : Nat), (12 : Nat), (28 : Nat))] 8 4 24 G n h [.ref x, .int p1, .ref o] (PoW x o h (if ix p1 2 then 0 else 1) (nI (y 5)) y k D (sA (if ix p1 2 then 0 else 1) (z p1) y S) (sB (if ix p1 2 then 0 else 1) (z p1) sv) N T) := by
  obtain ⟨w0, -⟩ := id hS
  refine CW_of mL_save (Nat.le_of_ble_eq_true rfl) ?_
  intro p₀ e₀ s₀ m₀ as₀ bl₀ me₀ c₀ C hT
  refine V_Le (L' := [(0, .ref x), (1, .int p1), (2, .ref o)]) rfl ?_
  refine V_aload_n 1 C dL_save_0 rfl rfl ?_
  refine V_iconst 2 C dL_save_1 rfl ic0 ?_
  refine V_aload_n 3 C dL_save_2 rfl rfl ?_
  refine V_iload_n 4 C dL_save_3 rfl rfl ?_
  refine V_callVXH 7 C hT dL_save_4 rfl mX9_save tw915 fcX9 w0 (c_X9_save l G _ _ hl x y k D S sv N T hS hI p1) rfl rfl (by decide) ⟨by omega, by omega⟩ (Nat.le_of_ble_eq_true rfl) (fun E h1 e1 => ?_) ?_
  · obtain ⟨g0, g1, gS, gF⟩ := e1
    obtain ⟨gk, rfl⟩ := ex_1 g0 g1
    have hz0 : ∀ z ∈ ([] : List (Nat × Nat × Nat × Nat)), z.2.2.2 ≠ 0 ∧ ∃ nm : String, Cond.classLink RL z.2.2.2 nm ∈ TB ∧ (ioE, nm) ∈ ncL := fun z hz => by cases hz
    refine ⟨12, ⟨[], (0, 9, 12, 28), [], rfl, hz0, by decide, by decide, tw575, by decide +kernel, rfl⟩, fun n1 q1 => ?_⟩
    refine V_astore_n 13 C dL_save_12 rfl (by decide) (L' := [(0, _), (1, _), (2, _), (3, _)]) rfl ?_
    refine V_iconst 14 C dL_save_13 rfl ic1 ?_
    refine V_ireturn C dL_save_14 rfl rfl (by omega) (by omega) ?_
    exact PoW_x gk g0 gS gF hof ho
  · rintro _ n1 h1 ⟨g0, rfl, gS, gF⟩
    refine V_i2l 8 C dL_save_7 rfl  ?_
    refine V_last (j := 0) 9 C dL_save_8 rfl ((gF o ho).trans hof) rfl (by omega) (by omega) ?_
    refine V_goto 15 C dL_save_9 (by decide) ?_
    refine V_iconst 16 C dL_save_15 rfl ic0 ?_
    refine V_ireturn C dL_save_16 rfl rfl (by omega) (by omega) ?_
    exact PoW_0 g0 gS gF ho

theorem mL_restore : MW yL_restore cL_restore 4 (some .int) [((0 : Nat), (9 : Nat), (12 : Nat), (28 : Nat)), ((0 : Nat), (9 : Nat), (15 : Nat), (15 : Nat))] 3 := ⟨tw921, tw0, ⟨by decide +kernel, by decide +kernel⟩, by decide +kernel, by decide, by decide +kernel, tw920⟩
theorem dL_restore_0 : decode cL_restore 0 = .ok (.aload_n 2, 1) := by decide +kernel
theorem dL_restore_1 : decode cL_restore 1 = .ok (.iconst 0, 1) := by decide +kernel
theorem dL_restore_2 : decode cL_restore 2 = .ok (.aload_n 0, 1) := by decide +kernel
theorem dL_restore_3 : decode cL_restore 3 = .ok (.iload_n 1, 1) := by decide +kernel
theorem dL_restore_4 : decode cL_restore 4 = .ok (.invokevirtual 106, 3) := by decide +kernel
theorem dL_restore_7 : decode cL_restore 7 = .ok (.i2l, 1) := by decide +kernel
theorem dL_restore_8 : decode cL_restore 8 = .ok (.lastore, 1) := by decide +kernel
theorem dL_restore_9 : decode cL_restore 9 = .ok (.goto 9, 3) := by decide +kernel
theorem dL_restore_12 : decode cL_restore 12 = .ok (.astore_n 3, 1) := by decide +kernel
theorem dL_restore_13 : decode cL_restore 13 = .ok (.iconst 1, 1) := by decide +kernel
theorem dL_restore_14 : decode cL_restore 14 = .ok (.ireturn, 1) := by decide +kernel
theorem dL_restore_15 : decode cL_restore 15 = .ok (.astore_n 3, 1) := by decide +kernel
theorem dL_restore_16 : decode cL_restore 16 = .ok (.iconst 2, 1) := by decide +kernel
theorem dL_restore_17 : decode cL_restore 17 = .ok (.ireturn, 1) := by decide +kernel
theorem dL_restore_18 : decode cL_restore 18 = .ok (.iconst 0, 1) := by decide +kernel
theorem dL_restore_19 : decode cL_restore 19 = .ok (.ireturn, 1) := by decide +kernel
set_option maxRecDepth 100000 in
set_option maxHeartbeats 4000000 in
theorem c_L_restore (l : Launch) (G : GT) (n : Nat) (h : AH) (hl : l.stackTraces = false) (x : Nat) (y : Nat → Nat) (k : Nat) (D S : Nat → Nat → Nat) (sv : Nat → Bool) (N : Nat) (T : Nat → Nat) (hS : SysC x y k D S sv N T h) (hI : SI y k D S sv N T) (p1 : Int32) (o : Nat) (f : Nat → Int64) (hof : h o = some (.inl (3, 1, .inr (.inl f)))) (ho : o < x ∨ x + 619 ≤ o) : CW l yL_restore cL_restore 4 (some .int) [((0 : Nat), (9 : Nat), (12 : Nat), (28 : Nat)), ((0 : Nat), (9 : Nat), (15 : Nat), (15 : Nat))] 8 4 24 G n h [.ref x, .int p1, .ref o] (PoW x o h (if ix p1 2 then (if sv (z p1) = true then 0 else 2) else 1) (nI (S (z p1) 5)) (if (if ix p1 2 then (if sv (z p1) = true then 0 else 2) else 1) = 0 then S (z p1) else y) (if (if ix p1 2 then (if sv (z p1) = true then 0 else 2) else 1) = 0 then 0 else k) D S sv N T) := by
  obtain ⟨w0, -⟩ := id hS
  refine CW_of mL_restore (Nat.le_of_ble_eq_true rfl) ?_
  intro p₀ e₀ s₀ m₀ as₀ bl₀ me₀ c₀ C hT
  refine V_Le (L' := [(0, .ref x), (1, .int p1), (2, .ref o)]) rfl ?_
  refine V_aload_n 1 C dL_restore_0 rfl rfl ?_
  refine V_iconst 2 C dL_restore_1 rfl ic0 ?_
  refine V_aload_n 3 C dL_restore_2 rfl rfl ?_
  refine V_iload_n 4 C dL_restore_3 rfl rfl ?_
  refine V_callVXH 7 C hT dL_restore_4 rfl mX9_restore tw922 fcX9 w0 (c_X9_restore l G _ _ hl x y k D S sv N T hS hI p1) rfl rfl (by decide) ⟨by omega, by omega⟩ (Nat.le_of_ble_eq_true rfl) (fun E h1 e1 => ?_) ?_
  · obtain ⟨g0, g1, gS, gF⟩ := e1
    rcases ex_2 g0 g1 with ⟨gk, rfl⟩ | ⟨gk, rfl⟩
    · skip
      have hz0 : ∀ z ∈ ([] : List (Nat × Nat × Nat × Nat)), z.2.2.2 ≠ 0 ∧ ∃ nm : String, Cond.classLink RL z.2.2.2 nm ∈ TB ∧ (ioE, nm) ∈ ncL := fun z hz => by cases hz
      refine ⟨12, ⟨[], (0, 9, 12, 28), [(0, 9, 15, 15)], rfl, hz0, by decide, by decide, tw575, by decide +kernel, rfl⟩, fun n1 q1 => ?_⟩
      refine V_astore_n 13 C dL_restore_12 rfl (by decide) (L' := [(0, _), (1, _), (2, _), (3, _)]) rfl ?_
      refine V_iconst 14 C dL_restore_13 rfl ic1 ?_
      refine V_ireturn C dL_restore_14 rfl rfl (by omega) (by omega) ?_
      exact PoW_x gk g0 gS gF hof ho
    · skip
      have hz1 : ∀ z ∈ ([(0, 9, 12, 28)] : List (Nat × Nat × Nat × Nat)), z.2.2.2 ≠ 0 ∧ ∃ nm : String, Cond.classLink RL z.2.2.2 nm ∈ TB ∧ (isE, nm) ∈ ncL := fun z hz => by
        rcases List.mem_cons.mp hz with rfl | hz
        · exact ⟨by decide, _, tw575, by decide +kernel⟩
        cases hz
      refine ⟨15, ⟨[(0, 9, 12, 28)], (0, 9, 15, 15), [], rfl, hz1, by decide, by decide, tw295, by decide +kernel, rfl⟩, fun n1 q1 => ?_⟩
      refine V_astore_n 16 C dL_restore_15 rfl (by decide) (L' := [(0, _), (1, _), (2, _), (3, _)]) rfl ?_
      refine V_iconst 17 C dL_restore_16 rfl ic2 ?_
      refine V_ireturn C dL_restore_17 rfl rfl (by omega) (by omega) ?_
      exact PoW_x gk g0 gS gF hof ho
  · rintro _ n1 h1 ⟨g0, rfl, gS, gF⟩
    refine V_i2l 8 C dL_restore_7 rfl  ?_
    refine V_last (j := 0) 9 C dL_restore_8 rfl ((gF o ho).trans hof) rfl (by omega) (by omega) ?_
    refine V_goto 18 C dL_restore_9 (by decide) ?_
    refine V_iconst 19 C dL_restore_18 rfl ic0 ?_
    refine V_ireturn C dL_restore_19 rfl rfl (by omega) (by omega) ?_
    exact PoW_0 g0 gS gF ho

