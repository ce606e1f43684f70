/-! THE LAW'S WRAPPERS: each answers the number, or a code for what was thrown -/
abbrev eI : Int32 := -9999001
abbrev eA : Int32 := -9999002
abbrev eS : Int32 := -9999003
def rv (kk : Nat) (ans : Int32) (cs : List Int32) : Int32 := if kk = 0 then ans else cs.getD (kk - 1) 0
def PoL (x : Nat) (h : AH) (v : Int32) (y : Nat → Nat) (k : Nat) (D S : Nat → Nat → Nat) (sv : Nat → Bool) (N : Nat) (T : Nat → Nat) : Option Value → Nat → AH → Prop := fun r _ h' => r = some (.int v) ∧ SysC x y k D S sv N T h' ∧ FX x h h'
theorem PoL_x {x n kk j : Nat} {h h1 : AH} {ans v : Int32} {cs : List Int32} {y : Nat → Nat} {k : Nat} {D S : Nat → Nat → Nat} {sv : Nat → Bool} {N : Nat} {T : Nat → Nat} (hj : kk = j) (h0 : kk ≠ 0) (hv : cs.getD (j - 1) 0 = v) (hS : SysC x y k D S sv N T h1) (hF : FX x h h1) : PoL x h (rv kk ans cs) y k D S sv N T (some (.int v)) n h1 := ⟨by unfold rv; rw [if_neg h0, hj, hv], hS, hF⟩
theorem PoL_0 {x n kk : Nat} {h h1 : AH} {ans : Int32} {cs : List Int32} {y : Nat → Nat} {k : Nat} {D S : Nat → Nat → Nat} {sv : Nat → Bool} {N : Nat} {T : Nat → Nat} (h0 : kk = 0) (hS : SysC x y k D S sv N T h1) (hF : FX x h h1) : PoL x h (rv kk ans cs) y k D S sv N T (some (.int ans)) n h1 := ⟨by unfold rv; rw [if_pos h0], hS, hF⟩
theorem mL_tryAppend : MW yL_tryAppend cL_tryAppend 3 (some .int) [((0 : Nat), (5 : Nat), (6 : Nat), (16 : Nat)), ((0 : Nat), (5 : Nat), (10 : Nat), (31 : Nat))] 2 := ⟨tw255, tw0, ⟨by decide +kernel, by decide +kernel⟩, by decide +kernel, by decide, by decide +kernel, tw254⟩
theorem dL_tryAppend_0 : decode cL_tryAppend 0 = .ok (.aload_n 0, 1) := by decide +kernel
theorem dL_tryAppend_1 : decode cL_tryAppend 1 = .ok (.iload_n 1, 1) := by decide +kernel
theorem dL_tryAppend_2 : decode cL_tryAppend 2 = .ok (.invokevirtual 27, 3) := by decide +kernel
theorem dL_tryAppend_5 : decode cL_tryAppend 5 = .ok (.ireturn, 1) := by decide +kernel
theorem dL_tryAppend_6 : decode cL_tryAppend 6 = .ok (.astore_n 2, 1) := by decide +kernel
theorem dL_tryAppend_7 : decode cL_tryAppend 7 = .ok (.ldc 18, 2) := by decide +kernel
theorem dL_tryAppend_9 : decode cL_tryAppend 9 = .ok (.ireturn, 1) := by decide +kernel
theorem dL_tryAppend_10 : decode cL_tryAppend 10 = .ok (.astore_n 2, 1) := by decide +kernel
theorem dL_tryAppend_11 : decode cL_tryAppend 11 = .ok (.ldc 33, 2) := by decide +kernel
theorem dL_tryAppend_13 : decode cL_tryAppend 13 = .ok (.ireturn, 1) := by decide +kernel
set_option maxRecDepth 100000 in
set_option maxHeartbeats 4000000 in
theorem c_L_tryAppend (l : Launch) (G : GT) (n : Nat) (h : AH) (hl : l.stackTraces = false) (x : Nat) (y : Nat → Nat) (k : Nat) (D S : Nat → Nat → Nat) (sv : Nat → Bool) (N : Nat) (T : Nat → Nat) (hS : SysC x y k D S sv N T h) (hI : SI y k D S sv N T) (p1 : Int32) : CW l yL_tryAppend cL_tryAppend 3 (some .int) [((0 : Nat), (5 : Nat), (6 : Nat), (16 : Nat)), ((0 : Nat), (5 : Nat), (10 : Nat), (31 : Nat))] 8 4 24 G n h [.ref x, .int p1] (PoL x h (rv (if ix p1 256 then (if N < 120 then 0 else 2) else 1) (nI (N + 1)) [eA, eS]) y k D S sv (aN (if ix p1 256 then (if N < 120 then 0 else 2) else 1) N) (aTx (if ix p1 256 then (if N < 120 then 0 else 2) else 1) N T (z p1))) := by
  obtain ⟨w0, -⟩ := id hS
  refine CW_of mL_tryAppend (Nat.le_of_ble_eq_true rfl) ?_
  intro p₀ e₀ s₀ m₀ as₀ bl₀ me₀ c₀ C hT
  refine V_Le (L' := [(0, .ref x), (1, .int p1)]) rfl ?_
  refine V_aload_n 1 C dL_tryAppend_0 rfl rfl ?_
  refine V_iload_n 2 C dL_tryAppend_1 rfl rfl ?_
  refine V_callVXH 5 C hT dL_tryAppend_2 rfl mX9_append tw258 fcX9 w0 (c_X9_append l G _ _ hl x y k D S sv N T hS hI p1) rfl rfl (by decide) ⟨by omega, by omega⟩ (Nat.le_of_ble_eq_true rfl) (fun E h1 e1 => ?_) ?_
  · obtain ⟨g0, g1, gS, gF⟩ := e1
    rcases ex_2 g0 g1 with ⟨gk, rfl⟩ | ⟨gk, rfl⟩
    · skip
      have hz0 : ∀ z ∈ ([] : List (Nat × Nat × Nat × Nat)), z.2.2.2 ≠ 0 ∧ ∃ nm : String, Cond.classLink RL z.2.2.2 nm ∈ TB ∧ (iaE, nm) ∈ ncL := fun z hz => by cases hz
      refine ⟨6, ⟨[], (0, 5, 6, 16), [(0, 5, 10, 31)], rfl, hz0, by decide, by decide, tw256, by decide +kernel, rfl⟩, fun n1 q1 => ?_⟩
      refine V_astore_n 7 C dL_tryAppend_6 rfl (by decide) (L' := [(0, _), (1, _), (2, _)]) rfl ?_
      refine V_ldc 9 C dL_tryAppend_7 rfl tw360 ?_
      refine V_ireturn C dL_tryAppend_9 rfl rfl (by omega) (by omega) ?_
      exact PoL_x gk g0 rfl gS gF
    · skip
      have hz1 : ∀ z ∈ ([(0, 5, 6, 16)] : List (Nat × Nat × Nat × Nat)), z.2.2.2 ≠ 0 ∧ ∃ nm : String, Cond.classLink RL z.2.2.2 nm ∈ TB ∧ (isE, nm) ∈ ncL := fun z hz => by
        rcases List.mem_cons.mp hz with rfl | hz
        · exact ⟨by decide, _, tw256, by decide +kernel⟩
        cases hz
      refine ⟨10, ⟨[(0, 5, 6, 16)], (0, 5, 10, 31), [], rfl, hz1, by decide, by decide, tw257, by decide +kernel, rfl⟩, fun n1 q1 => ?_⟩
      refine V_astore_n 11 C dL_tryAppend_10 rfl (by decide) (L' := [(0, _), (1, _), (2, _)]) rfl ?_
      refine V_ldc 13 C dL_tryAppend_11 rfl tw361 ?_
      refine V_ireturn C dL_tryAppend_13 rfl rfl (by omega) (by omega) ?_
      exact PoL_x gk g0 rfl gS gF
  · rintro _ n1 h1 ⟨g0, rfl, gS, gF⟩
    refine V_ireturn C dL_tryAppend_5 rfl rfl (by omega) (by omega) ?_
    exact PoL_0 g0 gS gF

theorem mL_tryAbout : MW yL_tryAbout cL_tryAbout 3 (some .int) [((0 : Nat), (5 : Nat), (6 : Nat), (16 : Nat))] 2 := ⟨tw536, tw0, ⟨by decide +kernel, by decide +kernel⟩, by decide +kernel, by decide, by decide +kernel, tw535⟩
theorem dL_tryAbout_0 : decode cL_tryAbout 0 = .ok (.aload_n 0, 1) := by decide +kernel
theorem dL_tryAbout_1 : decode cL_tryAbout 1 = .ok (.iload_n 1, 1) := by decide +kernel
theorem dL_tryAbout_2 : decode cL_tryAbout 2 = .ok (.invokevirtual 38, 3) := by decide +kernel
theorem dL_tryAbout_5 : decode cL_tryAbout 5 = .ok (.ireturn, 1) := by decide +kernel
theorem dL_tryAbout_6 : decode cL_tryAbout 6 = .ok (.astore_n 2, 1) := by decide +kernel
theorem dL_tryAbout_7 : decode cL_tryAbout 7 = .ok (.ldc 18, 2) := by decide +kernel
theorem dL_tryAbout_9 : decode cL_tryAbout 9 = .ok (.ireturn, 1) := by decide +kernel
set_option maxRecDepth 100000 in
set_option maxHeartbeats 4000000 in
theorem c_L_tryAbout (l : Launch) (G : GT) (n : Nat) (h : AH) (hl : l.stackTraces = false) (x : Nat) (y : Nat → Nat) (k : Nat) (D S : Nat → Nat → Nat) (sv : Nat → Bool) (N : Nat) (T : Nat → Nat) (hS : SysC x y k D S sv N T h) (hI : SI y k D S sv N T) (p1 : Int32) : CW l yL_tryAbout cL_tryAbout 3 (some .int) [((0 : Nat), (5 : Nat), (6 : Nat), (16 : Nat))] 8 4 24 G n h [.ref x, .int p1] (PoL x h (rv (if ix p1 10 then 0 else 1) (nI (qAbout y (z p1))) [eA]) y k D S sv N T) := by
  obtain ⟨w0, -⟩ := id hS
  refine CW_of mL_tryAbout (Nat.le_of_ble_eq_true rfl) ?_
  intro p₀ e₀ s₀ m₀ as₀ bl₀ me₀ c₀ C hT
  refine V_Le (L' := [(0, .ref x), (1, .int p1)]) rfl ?_
  refine V_aload_n 1 C dL_tryAbout_0 rfl rfl ?_
  refine V_iload_n 2 C dL_tryAbout_1 rfl rfl ?_
  refine V_callVXH 5 C hT dL_tryAbout_2 rfl mX9_about tw537 fcX9 w0 (c_X9_about l G _ _ hl x y k D S sv N T hS hI p1) rfl rfl (by decide) ⟨by omega, by omega⟩ (Nat.le_of_ble_eq_true rfl) (fun E h1 e1 => ?_) ?_
  · obtain ⟨g0, g1, gS, gF⟩ := e1
    obtain ⟨gk, rfl⟩ := ex_1 g0 g1
    have hz0 : ∀ z ∈ ([] : List (Nat × Nat × Nat × Nat)), z.2.2.2 ≠ 0 ∧ ∃ nm : String, Cond.classLink RL z.2.2.2 nm ∈ TB ∧ (iaE, nm) ∈ ncL := fun z hz => by cases hz
    refine ⟨6, ⟨[], (0, 5, 6, 16), [], rfl, hz0, by decide, by decide, tw256, by decide +kernel, rfl⟩, fun n1 q1 => ?_⟩
    refine V_astore_n 7 C dL_tryAbout_6 rfl (by decide) (L' := [(0, _), (1, _), (2, _)]) rfl ?_
    refine V_ldc 9 C dL_tryAbout_7 rfl tw360 ?_
    refine V_ireturn C dL_tryAbout_9 rfl rfl (by omega) (by omega) ?_
    exact PoL_x gk g0 rfl gS gF
  · rintro _ n1 h1 ⟨g0, rfl, gS, gF⟩
    refine V_ireturn C dL_tryAbout_5 rfl rfl (by omega) (by omega) ?_
    exact PoL_0 g0 gS gF

theorem mL_tryWay : MW yL_tryWay cL_tryWay 4 (some .int) [((0 : Nat), (6 : Nat), (7 : Nat), (13 : Nat)), ((0 : Nat), (6 : Nat), (11 : Nat), (16 : Nat))] 3 := ⟨tw566, tw0, ⟨by decide +kernel, by decide +kernel⟩, by decide +kernel, by decide, by decide +kernel, tw565⟩
theorem dL_tryWay_0 : decode cL_tryWay 0 = .ok (.aload_n 0, 1) := by decide +kernel
theorem dL_tryWay_1 : decode cL_tryWay 1 = .ok (.iload_n 1, 1) := by decide +kernel
theorem dL_tryWay_2 : decode cL_tryWay 2 = .ok (.iload_n 2, 1) := by decide +kernel
theorem dL_tryWay_3 : decode cL_tryWay 3 = .ok (.invokevirtual 41, 3) := by decide +kernel
theorem dL_tryWay_6 : decode cL_tryWay 6 = .ok (.ireturn, 1) := by decide +kernel
theorem dL_tryWay_7 : decode cL_tryWay 7 = .ok (.astore_n 3, 1) := by decide +kernel
theorem dL_tryWay_8 : decode cL_tryWay 8 = .ok (.ldc 15, 2) := by decide +kernel
theorem dL_tryWay_10 : decode cL_tryWay 10 = .ok (.ireturn, 1) := by decide +kernel
theorem dL_tryWay_11 : decode cL_tryWay 11 = .ok (.astore_n 3, 1) := by decide +kernel
theorem dL_tryWay_12 : decode cL_tryWay 12 = .ok (.ldc 18, 2) := by decide +kernel
theorem dL_tryWay_14 : decode cL_tryWay 14 = .ok (.ireturn, 1) := by decide +kernel
set_option maxRecDepth 100000 in
set_option maxHeartbeats 4000000 in
theorem c_L_tryWay (l : Launch) (G : GT) (n : Nat) (h : AH) (hl : l.stackTraces = false) (x : Nat) (y : Nat → Nat) (k : Nat) (D S : Nat → Nat → Nat) (sv : Nat → Bool) (N : Nat) (T : Nat → Nat) (hS : SysC x y k D S sv N T h) (hI : SI y k D S sv N T) (p1 : Int32) (p2 : Int32) : CW l yL_tryWay cL_tryWay 4 (some .int) [((0 : Nat), (6 : Nat), (7 : Nat), (13 : Nat)), ((0 : Nat), (6 : Nat), (11 : Nat), (16 : Nat))] 8 4 24 G n h [.ref x, .int p1, .int p2] (PoL x h (rv (if ix p1 (y 1) then (if ix p2 3 then 0 else 2) else 1) (nI (y (7 + 3 * z p1 + z p2))) [eI, eA]) y k D S sv N T) := by
  obtain ⟨w0, -⟩ := id hS
  refine CW_of mL_tryWay (Nat.le_of_ble_eq_true rfl) ?_
  intro p₀ e₀ s₀ m₀ as₀ bl₀ me₀ c₀ C hT
  refine V_Le (L' := [(0, .ref x), (1, .int p1), (2, .int p2)]) rfl ?_
  refine V_aload_n 1 C dL_tryWay_0 rfl rfl ?_
  refine V_iload_n 2 C dL_tryWay_1 rfl rfl ?_
  refine V_iload_n 3 C dL_tryWay_2 rfl rfl ?_
  refine V_callVXH 6 C hT dL_tryWay_3 rfl mX9_roadOf tw568 fcX9 w0 (c_X9_roadOf l G _ _ hl x y k D S sv N T hS hI p1 p2) rfl rfl (by decide) ⟨by omega, by omega⟩ (Nat.le_of_ble_eq_true rfl) (fun E h1 e1 => ?_) ?_
  · obtain ⟨g0, g1, gS, gF⟩ := e1
    rcases ex_2 g0 g1 with ⟨gk, rfl⟩ | ⟨gk, rfl⟩
    · skip
      have hz0 : ∀ z ∈ ([] : List (Nat × Nat × Nat × Nat)), z.2.2.2 ≠ 0 ∧ ∃ nm : String, Cond.classLink RL z.2.2.2 nm ∈ TB ∧ (ioE, nm) ∈ ncL := fun z hz => by cases hz
      refine ⟨7, ⟨[], (0, 6, 7, 13), [(0, 6, 11, 16)], rfl, hz0, by decide, by decide, tw567, by decide +kernel, rfl⟩, fun n1 q1 => ?_⟩
      refine V_astore_n 8 C dL_tryWay_7 rfl (by decide) (L' := [(0, _), (1, _), (2, _), (3, _)]) rfl ?_
      refine V_ldc 10 C dL_tryWay_8 rfl tw593 ?_
      refine V_ireturn C dL_tryWay_10 rfl rfl (by omega) (by omega) ?_
      exact PoL_x gk g0 rfl gS gF
    · skip
      have hz1 : ∀ z ∈ ([(0, 6, 7, 13)] : List (Nat × Nat × Nat × Nat)), z.2.2.2 ≠ 0 ∧ ∃ nm : String, Cond.classLink RL z.2.2.2 nm ∈ TB ∧ (iaE, nm) ∈ ncL := fun z hz => by
        rcases List.mem_cons.mp hz with rfl | hz
        · exact ⟨by decide, _, tw567, by decide +kernel⟩
        cases hz
      refine ⟨11, ⟨[(0, 6, 7, 13)], (0, 6, 11, 16), [], rfl, hz1, by decide, by decide, tw256, by decide +kernel, rfl⟩, fun n1 q1 => ?_⟩
      refine V_astore_n 12 C dL_tryWay_11 rfl (by decide) (L' := [(0, _), (1, _), (2, _), (3, _)]) rfl ?_
      refine V_ldc 14 C dL_tryWay_12 rfl tw360 ?_
      refine V_ireturn C dL_tryWay_14 rfl rfl (by omega) (by omega) ?_
      exact PoL_x gk g0 rfl gS gF
  · rintro _ n1 h1 ⟨g0, rfl, gS, gF⟩
    refine V_ireturn C dL_tryWay_6 rfl rfl (by omega) (by omega) ?_
    exact PoL_0 g0 gS gF

theorem mL_tryCarrier : MW yL_tryCarrier cL_tryCarrier 4 (some .int) [((0 : Nat), (6 : Nat), (7 : Nat), (13 : Nat)), ((0 : Nat), (6 : Nat), (11 : Nat), (16 : Nat))] 3 := ⟨tw596, tw0, ⟨by decide +kernel, by decide +kernel⟩, by decide +kernel, by decide, by decide +kernel, tw595⟩
theorem dL_tryCarrier_0 : decode cL_tryCarrier 0 = .ok (.aload_n 0, 1) := by decide +kernel
theorem dL_tryCarrier_1 : decode cL_tryCarrier 1 = .ok (.iload_n 1, 1) := by decide +kernel
theorem dL_tryCarrier_2 : decode cL_tryCarrier 2 = .ok (.iload_n 2, 1) := by decide +kernel
theorem dL_tryCarrier_3 : decode cL_tryCarrier 3 = .ok (.invokevirtual 45, 3) := by decide +kernel
theorem dL_tryCarrier_6 : decode cL_tryCarrier 6 = .ok (.ireturn, 1) := by decide +kernel
theorem dL_tryCarrier_7 : decode cL_tryCarrier 7 = .ok (.astore_n 3, 1) := by decide +kernel
theorem dL_tryCarrier_8 : decode cL_tryCarrier 8 = .ok (.ldc 15, 2) := by decide +kernel
theorem dL_tryCarrier_10 : decode cL_tryCarrier 10 = .ok (.ireturn, 1) := by decide +kernel
theorem dL_tryCarrier_11 : decode cL_tryCarrier 11 = .ok (.astore_n 3, 1) := by decide +kernel
theorem dL_tryCarrier_12 : decode cL_tryCarrier 12 = .ok (.ldc 18, 2) := by decide +kernel
theorem dL_tryCarrier_14 : decode cL_tryCarrier 14 = .ok (.ireturn, 1) := by decide +kernel
set_option maxRecDepth 100000 in
set_option maxHeartbeats 4000000 in
theorem c_L_tryCarrier (l : Launch) (G : GT) (n : Nat) (h : AH) (hl : l.stackTraces = false) (x : Nat) (y : Nat → Nat) (k : Nat) (D S : Nat → Nat → Nat) (sv : Nat → Bool) (N : Nat) (T : Nat → Nat) (hS : SysC x y k D S sv N T h) (hI : SI y k D S sv N T) (p1 : Int32) (p2 : Int32) : CW l yL_tryCarrier cL_tryCarrier 4 (some .int) [((0 : Nat), (6 : Nat), (7 : Nat), (13 : Nat)), ((0 : Nat), (6 : Nat), (11 : Nat), (16 : Nat))] 8 4 24 G n h [.ref x, .int p1, .int p2] (PoL x h (rv (if ix p1 (y 2) then (if ix p2 4 then 0 else 2) else 1) (nI (qRunner y (z p1) (z p2))) [eI, eA]) y k D S sv N T) := by
  obtain ⟨w0, -⟩ := id hS
  refine CW_of mL_tryCarrier (Nat.le_of_ble_eq_true rfl) ?_
  intro p₀ e₀ s₀ m₀ as₀ bl₀ me₀ c₀ C hT
  refine V_Le (L' := [(0, .ref x), (1, .int p1), (2, .int p2)]) rfl ?_
  refine V_aload_n 1 C dL_tryCarrier_0 rfl rfl ?_
  refine V_iload_n 2 C dL_tryCarrier_1 rfl rfl ?_
  refine V_iload_n 3 C dL_tryCarrier_2 rfl rfl ?_
  refine V_callVXH 6 C hT dL_tryCarrier_3 rfl mX9_runnerOf tw597 fcX9 w0 (c_X9_runnerOf l G _ _ hl x y k D S sv N T hS hI p1 p2) rfl rfl (by decide) ⟨by omega, by omega⟩ (Nat.le_of_ble_eq_true rfl) (fun E h1 e1 => ?_) ?_
  · obtain ⟨g0, g1, gS, gF⟩ := e1
    rcases ex_2 g0 g1 with ⟨gk, rfl⟩ | ⟨gk, rfl⟩
    · skip
      have hz0 : ∀ z ∈ ([] : List (Nat × Nat × Nat × Nat)), z.2.2.2 ≠ 0 ∧ ∃ nm : String, Cond.classLink RL z.2.2.2 nm ∈ TB ∧ (ioE, nm) ∈ ncL := fun z hz => by cases hz
      refine ⟨7, ⟨[], (0, 6, 7, 13), [(0, 6, 11, 16)], rfl, hz0, by decide, by decide, tw567, by decide +kernel, rfl⟩, fun n1 q1 => ?_⟩
      refine V_astore_n 8 C dL_tryCarrier_7 rfl (by decide) (L' := [(0, _), (1, _), (2, _), (3, _)]) rfl ?_
      refine V_ldc 10 C dL_tryCarrier_8 rfl tw593 ?_
      refine V_ireturn C dL_tryCarrier_10 rfl rfl (by omega) (by omega) ?_
      exact PoL_x gk g0 rfl gS gF
    · skip
      have hz1 : ∀ z ∈ ([(0, 6, 7, 13)] : List (Nat × Nat × Nat × Nat)), z.2.2.2 ≠ 0 ∧ ∃ nm : String, Cond.classLink RL z.2.2.2 nm ∈ TB ∧ (iaE, nm) ∈ ncL := fun z hz => by
        rcases List.mem_cons.mp hz with rfl | hz
        · exact ⟨by decide, _, tw567, by decide +kernel⟩
        cases hz
      refine ⟨11, ⟨[(0, 6, 7, 13)], (0, 6, 11, 16), [], rfl, hz1, by decide, by decide, tw256, by decide +kernel, rfl⟩, fun n1 q1 => ?_⟩
      refine V_astore_n 12 C dL_tryCarrier_11 rfl (by decide) (L' := [(0, _), (1, _), (2, _), (3, _)]) rfl ?_
      refine V_ldc 14 C dL_tryCarrier_12 rfl tw360 ?_
      refine V_ireturn C dL_tryCarrier_14 rfl rfl (by omega) (by omega) ?_
      exact PoL_x gk g0 rfl gS gF
  · rintro _ n1 h1 ⟨g0, rfl, gS, gF⟩
    refine V_ireturn C dL_tryCarrier_6 rfl rfl (by omega) (by omega) ?_
    exact PoL_0 g0 gS gF

theorem mL_trySheet : MW yL_trySheet cL_trySheet 4 (some .int) [((0 : Nat), (6 : Nat), (7 : Nat), (13 : Nat)), ((0 : Nat), (6 : Nat), (11 : Nat), (16 : Nat))] 3 := ⟨tw606, tw0, ⟨by decide +kernel, by decide +kernel⟩, by decide +kernel, by decide, by decide +kernel, tw605⟩
theorem dL_trySheet_0 : decode cL_trySheet 0 = .ok (.aload_n 0, 1) := by decide +kernel
theorem dL_trySheet_1 : decode cL_trySheet 1 = .ok (.iload_n 1, 1) := by decide +kernel
theorem dL_trySheet_2 : decode cL_trySheet 2 = .ok (.iload_n 2, 1) := by decide +kernel
theorem dL_trySheet_3 : decode cL_trySheet 3 = .ok (.invokevirtual 48, 3) := by decide +kernel
theorem dL_trySheet_6 : decode cL_trySheet 6 = .ok (.ireturn, 1) := by decide +kernel
theorem dL_trySheet_7 : decode cL_trySheet 7 = .ok (.astore_n 3, 1) := by decide +kernel
theorem dL_trySheet_8 : decode cL_trySheet 8 = .ok (.ldc 15, 2) := by decide +kernel
theorem dL_trySheet_10 : decode cL_trySheet 10 = .ok (.ireturn, 1) := by decide +kernel
theorem dL_trySheet_11 : decode cL_trySheet 11 = .ok (.astore_n 3, 1) := by decide +kernel
theorem dL_trySheet_12 : decode cL_trySheet 12 = .ok (.ldc 18, 2) := by decide +kernel
theorem dL_trySheet_14 : decode cL_trySheet 14 = .ok (.ireturn, 1) := by decide +kernel
set_option maxRecDepth 100000 in
set_option maxHeartbeats 4000000 in
theorem c_L_trySheet (l : Launch) (G : GT) (n : Nat) (h : AH) (hl : l.stackTraces = false) (x : Nat) (y : Nat → Nat) (k : Nat) (D S : Nat → Nat → Nat) (sv : Nat → Bool) (N : Nat) (T : Nat → Nat) (hS : SysC x y k D S sv N T h) (hI : SI y k D S sv N T) (p1 : Int32) (p2 : Int32) : CW l yL_trySheet cL_trySheet 4 (some .int) [((0 : Nat), (6 : Nat), (7 : Nat), (13 : Nat)), ((0 : Nat), (6 : Nat), (11 : Nat), (16 : Nat))] 8 4 24 G n h [.ref x, .int p1, .int p2] (PoL x h (rv (if ix p1 (y 4) then (if ix p2 8 then 0 else 2) else 1) (nI (qSheet y (z p1) (z p2))) [eI, eA]) y k D S sv N T) := by
  obtain ⟨w0, -⟩ := id hS
  refine CW_of mL_trySheet (Nat.le_of_ble_eq_true rfl) ?_
  intro p₀ e₀ s₀ m₀ as₀ bl₀ me₀ c₀ C hT
  refine V_Le (L' := [(0, .ref x), (1, .int p1), (2, .int p2)]) rfl ?_
  refine V_aload_n 1 C dL_trySheet_0 rfl rfl ?_
  refine V_iload_n 2 C dL_trySheet_1 rfl rfl ?_
  refine V_iload_n 3 C dL_trySheet_2 rfl rfl ?_
  refine V_callVXH 6 C hT dL_trySheet_3 rfl mX9_sheetOf tw607 fcX9 w0 (c_X9_sheetOf l G _ _ hl x y k D S sv N T hS hI p1 p2) rfl rfl (by decide) ⟨by omega, by omega⟩ (Nat.le_of_ble_eq_true rfl) (fun E h1 e1 => ?_) ?_
  · obtain ⟨g0, g1, gS, gF⟩ := e1
    rcases ex_2 g0 g1 with ⟨gk, rfl⟩ | ⟨gk, rfl⟩
    · skip
      have hz0 : ∀ z ∈ ([] : List (Nat × Nat × Nat × Nat)), z.2.2.2 ≠ 0 ∧ ∃ nm : String, Cond.classLink RL z.2.2.2 nm ∈ TB ∧ (ioE, nm) ∈ ncL := fun z hz => by cases hz
      refine ⟨7, ⟨[], (0, 6, 7, 13), [(0, 6, 11, 16)], rfl, hz0, by decide, by decide, tw567, by decide +kernel, rfl⟩, fun n1 q1 => ?_⟩
      refine V_astore_n 8 C dL_trySheet_7 rfl (by decide) (L' := [(0, _), (1, _), (2, _), (3, _)]) rfl ?_
      refine V_ldc 10 C dL_trySheet_8 rfl tw593 ?_
      refine V_ireturn C dL_trySheet_10 rfl rfl (by omega) (by omega) ?_
      exact PoL_x gk g0 rfl gS gF
    · skip
      have hz1 : ∀ z ∈ ([(0, 6, 7, 13)] : List (Nat × Nat × Nat × Nat)), z.2.2.2 ≠ 0 ∧ ∃ nm : String, Cond.classLink RL z.2.2.2 nm ∈ TB ∧ (iaE, nm) ∈ ncL := fun z hz => by
        rcases List.mem_cons.mp hz with rfl | hz
        · exact ⟨by decide, _, tw567, by decide +kernel⟩
        cases hz
      refine ⟨11, ⟨[(0, 6, 7, 13)], (0, 6, 11, 16), [], rfl, hz1, by decide, by decide, tw256, by decide +kernel, rfl⟩, fun n1 q1 => ?_⟩
      refine V_astore_n 12 C dL_trySheet_11 rfl (by decide) (L' := [(0, _), (1, _), (2, _), (3, _)]) rfl ?_
      refine V_ldc 14 C dL_trySheet_12 rfl tw360 ?_
      refine V_ireturn C dL_trySheet_14 rfl rfl (by omega) (by omega) ?_
      exact PoL_x gk g0 rfl gS gF
  · rintro _ n1 h1 ⟨g0, rfl, gS, gF⟩
    refine V_ireturn C dL_trySheet_6 rfl rfl (by omega) (by omega) ?_
    exact PoL_0 g0 gS gF

theorem mL_tryTold : MW yL_tryTold cL_tryTold 3 (some .int) [((0 : Nat), (5 : Nat), (6 : Nat), (13 : Nat))] 2 := ⟨tw618, tw0, ⟨by decide +kernel, by decide +kernel⟩, by decide +kernel, by decide, by decide +kernel, tw617⟩
theorem dL_tryTold_0 : decode cL_tryTold 0 = .ok (.aload_n 0, 1) := by decide +kernel
theorem dL_tryTold_1 : decode cL_tryTold 1 = .ok (.iload_n 1, 1) := by decide +kernel
theorem dL_tryTold_2 : decode cL_tryTold 2 = .ok (.invokevirtual 51, 3) := by decide +kernel
theorem dL_tryTold_5 : decode cL_tryTold 5 = .ok (.ireturn, 1) := by decide +kernel
theorem dL_tryTold_6 : decode cL_tryTold 6 = .ok (.astore_n 2, 1) := by decide +kernel
theorem dL_tryTold_7 : decode cL_tryTold 7 = .ok (.ldc 15, 2) := by decide +kernel
theorem dL_tryTold_9 : decode cL_tryTold 9 = .ok (.ireturn, 1) := by decide +kernel
set_option maxRecDepth 100000 in
set_option maxHeartbeats 4000000 in
theorem c_L_tryTold (l : Launch) (G : GT) (n : Nat) (h : AH) (hl : l.stackTraces = false) (x : Nat) (y : Nat → Nat) (k : Nat) (D S : Nat → Nat → Nat) (sv : Nat → Bool) (N : Nat) (T : Nat → Nat) (hS : SysC x y k D S sv N T h) (hI : SI y k D S sv N T) (p1 : Int32) : CW l yL_tryTold cL_tryTold 3 (some .int) [((0 : Nat), (5 : Nat), (6 : Nat), (13 : Nat))] 8 4 24 G n h [.ref x, .int p1] (PoL x h (rv (if ix p1 (y 3) then 0 else 1) (nI (y (52 + z p1))) [eI]) y k D S sv N T) := by
  obtain ⟨w0, -⟩ := id hS
  refine CW_of mL_tryTold (Nat.le_of_ble_eq_true rfl) ?_
  intro p₀ e₀ s₀ m₀ as₀ bl₀ me₀ c₀ C hT
  refine V_Le (L' := [(0, .ref x), (1, .int p1)]) rfl ?_
  refine V_aload_n 1 C dL_tryTold_0 rfl rfl ?_
  refine V_iload_n 2 C dL_tryTold_1 rfl rfl ?_
  refine V_callVXH 5 C hT dL_tryTold_2 rfl mX9_message tw619 fcX9 w0 (c_X9_message l G _ _ hl x y k D S sv N T hS hI p1) rfl rfl (by decide) ⟨by omega, by omega⟩ (Nat.le_of_ble_eq_true rfl) (fun E h1 e1 => ?_) ?_
  · obtain ⟨g0, g1, gS, gF⟩ := e1
    obtain ⟨gk, rfl⟩ := ex_1 g0 g1
    have hz0 : ∀ z ∈ ([] : List (Nat × Nat × Nat × Nat)), z.2.2.2 ≠ 0 ∧ ∃ nm : String, Cond.classLink RL z.2.2.2 nm ∈ TB ∧ (ioE, nm) ∈ ncL := fun z hz => by cases hz
    refine ⟨6, ⟨[], (0, 5, 6, 13), [], rfl, hz0, by decide, by decide, tw567, by decide +kernel, rfl⟩, fun n1 q1 => ?_⟩
    refine V_astore_n 7 C dL_tryTold_6 rfl (by decide) (L' := [(0, _), (1, _), (2, _)]) rfl ?_
    refine V_ldc 9 C dL_tryTold_7 rfl tw593 ?_
    refine V_ireturn C dL_tryTold_9 rfl rfl (by omega) (by omega) ?_
    exact PoL_x gk g0 rfl gS gF
  · rintro _ n1 h1 ⟨g0, rfl, gS, gF⟩
    refine V_ireturn C dL_tryTold_5 rfl rfl (by omega) (by omega) ?_
    exact PoL_0 g0 gS gF

theorem mL_tryTown : MW yL_tryTown cL_tryTown 2 (some .int) [((0 : Nat), (4 : Nat), (5 : Nat), (31 : Nat))] 1 := ⟨tw629, tw0, ⟨by decide +kernel, by decide +kernel⟩, by decide +kernel, by decide, by decide +kernel, tw628⟩
theorem dL_tryTown_0 : decode cL_tryTown 0 = .ok (.aload_n 0, 1) := by decide +kernel
theorem dL_tryTown_1 : decode cL_tryTown 1 = .ok (.invokevirtual 54, 3) := by decide +kernel
theorem dL_tryTown_4 : decode cL_tryTown 4 = .ok (.ireturn, 1) := by decide +kernel
theorem dL_tryTown_5 : decode cL_tryTown 5 = .ok (.astore_n 1, 1) := by decide +kernel
theorem dL_tryTown_6 : decode cL_tryTown 6 = .ok (.ldc 33, 2) := by decide +kernel
theorem dL_tryTown_8 : decode cL_tryTown 8 = .ok (.ireturn, 1) := by decide +kernel
set_option maxRecDepth 100000 in
set_option maxHeartbeats 4000000 in
theorem c_L_tryTown (l : Launch) (G : GT) (n : Nat) (h : AH) (hl : l.stackTraces = false) (x : Nat) (y : Nat → Nat) (k : Nat) (D S : Nat → Nat → Nat) (sv : Nat → Bool) (N : Nat) (T : Nat → Nat) (hS : SysC x y k D S sv N T h) (hI : SI y k D S sv N T) : CW l yL_tryTown cL_tryTown 2 (some .int) [((0 : Nat), (4 : Nat), (5 : Nat), (31 : Nat))] 9 4 24 G n h [.ref x] (PoL x h (rv (kA 1 1 1 (aTw y).1) ((aTw y).1) [eS]) (aTw y).2 (aK (kA 1 1 1 (aTw y).1) k) (aD (kA 1 1 1 (aTw y).1) k D y) S sv N T) := by
  obtain ⟨w0, -⟩ := id hS
  refine CW_of mL_tryTown (Nat.le_of_ble_eq_true rfl) ?_
  intro p₀ e₀ s₀ m₀ as₀ bl₀ me₀ c₀ C hT
  refine V_Le (L' := [(0, .ref x)]) rfl ?_
  refine V_aload_n 1 C dL_tryTown_0 rfl rfl ?_
  refine V_callVXH 4 C hT dL_tryTown_1 rfl mX9_town tw630 fcX9 w0 (c_X9_town l G _ _ hl x y k D S sv N T hS hI) rfl rfl (by decide) ⟨by omega, by omega⟩ (Nat.le_of_ble_eq_true rfl) (fun E h1 e1 => ?_) ?_
  · obtain ⟨g0, g1, gS, gF⟩ := e1
    obtain ⟨gk, rfl⟩ := ex_1 g0 g1
    have hz0 : ∀ z ∈ ([] : List (Nat × Nat × Nat × Nat)), z.2.2.2 ≠ 0 ∧ ∃ nm : String, Cond.classLink RL z.2.2.2 nm ∈ TB ∧ (isE, nm) ∈ ncL := fun z hz => by cases hz
    refine ⟨5, ⟨[], (0, 4, 5, 31), [], rfl, hz0, by decide, by decide, tw257, by decide +kernel, rfl⟩, fun n1 q1 => ?_⟩
    refine V_astore_n 6 C dL_tryTown_5 rfl (by decide) (L' := [(0, _), (1, _)]) rfl ?_
    refine V_ldc 8 C dL_tryTown_6 rfl tw361 ?_
    refine V_ireturn C dL_tryTown_8 rfl rfl (by omega) (by omega) ?_
    exact PoL_x gk g0 rfl gS gF
  · rintro _ n1 h1 ⟨g0, rfl, gS, gF⟩
    refine V_ireturn C dL_tryTown_4 rfl rfl (by omega) (by omega) ?_
    exact PoL_0 g0 gS gF

theorem mL_tryRoad : MW yL_tryRoad cL_tryRoad 5 (some .int) [((0 : Nat), (7 : Nat), (8 : Nat), (13 : Nat)), ((0 : Nat), (7 : Nat), (13 : Nat), (16 : Nat)), ((0 : Nat), (7 : Nat), (18 : Nat), (31 : Nat))] 4 := ⟨tw666, tw0, ⟨by decide +kernel, by decide +kernel⟩, by decide +kernel, by decide, by decide +kernel, tw665⟩
theorem dL_tryRoad_0 : decode cL_tryRoad 0 = .ok (.aload_n 0, 1) := by decide +kernel
theorem dL_tryRoad_1 : decode cL_tryRoad 1 = .ok (.iload_n 1, 1) := by decide +kernel
theorem dL_tryRoad_2 : decode cL_tryRoad 2 = .ok (.iload_n 2, 1) := by decide +kernel
theorem dL_tryRoad_3 : decode cL_tryRoad 3 = .ok (.iload_n 3, 1) := by decide +kernel
theorem dL_tryRoad_4 : decode cL_tryRoad 4 = .ok (.invokevirtual 57, 3) := by decide +kernel
theorem dL_tryRoad_7 : decode cL_tryRoad 7 = .ok (.ireturn, 1) := by decide +kernel
theorem dL_tryRoad_8 : decode cL_tryRoad 8 = .ok (.astore 4, 2) := by decide +kernel
theorem dL_tryRoad_10 : decode cL_tryRoad 10 = .ok (.ldc 15, 2) := by decide +kernel
theorem dL_tryRoad_12 : decode cL_tryRoad 12 = .ok (.ireturn, 1) := by decide +kernel
theorem dL_tryRoad_13 : decode cL_tryRoad 13 = .ok (.astore 4, 2) := by decide +kernel
theorem dL_tryRoad_15 : decode cL_tryRoad 15 = .ok (.ldc 18, 2) := by decide +kernel
theorem dL_tryRoad_17 : decode cL_tryRoad 17 = .ok (.ireturn, 1) := by decide +kernel
theorem dL_tryRoad_18 : decode cL_tryRoad 18 = .ok (.astore 4, 2) := by decide +kernel
theorem dL_tryRoad_20 : decode cL_tryRoad 20 = .ok (.ldc 33, 2) := by decide +kernel
theorem dL_tryRoad_22 : decode cL_tryRoad 22 = .ok (.ireturn, 1) := by decide +kernel
set_option maxRecDepth 100000 in
set_option maxHeartbeats 4000000 in
theorem c_L_tryRoad (l : Launch) (G : GT) (n : Nat) (h : AH) (hl : l.stackTraces = false) (x : Nat) (y : Nat → Nat) (k : Nat) (D S : Nat → Nat → Nat) (sv : Nat → Bool) (N : Nat) (T : Nat → Nat) (hS : SysC x y k D S sv N T h) (hI : SI y k D S sv N T) (p1 : Int32) (p2 : Int32) (p3 : Int32) : CW l yL_tryRoad cL_tryRoad 5 (some .int) [((0 : Nat), (7 : Nat), (8 : Nat), (13 : Nat)), ((0 : Nat), (7 : Nat), (13 : Nat), (16 : Nat)), ((0 : Nat), (7 : Nat), (18 : Nat), (31 : Nat))] 9 4 24 G n h [.ref x, .int p1, .int p2, .int p3] (PoL x h (rv (kA 1 2 3 (aRd y p1 p2 p3).1) ((aRd y p1 p2 p3).1) [eI, eA, eS]) (aRd y p1 p2 p3).2 (aK (kA 1 2 3 (aRd y p1 p2 p3).1) k) (aD (kA 1 2 3 (aRd y p1 p2 p3).1) k D y) S sv N T) := by
  obtain ⟨w0, -⟩ := id hS
  refine CW_of mL_tryRoad (Nat.le_of_ble_eq_true rfl) ?_
  intro p₀ e₀ s₀ m₀ as₀ bl₀ me₀ c₀ C hT
  refine V_Le (L' := [(0, .ref x), (1, .int p1), (2, .int p2), (3, .int p3)]) rfl ?_
  refine V_aload_n 1 C dL_tryRoad_0 rfl rfl ?_
  refine V_iload_n 2 C dL_tryRoad_1 rfl rfl ?_
  refine V_iload_n 3 C dL_tryRoad_2 rfl rfl ?_
  refine V_iload_n 4 C dL_tryRoad_3 rfl rfl ?_
  refine V_callVXH 7 C hT dL_tryRoad_4 rfl mX9_road tw667 fcX9 w0 (c_X9_road l G _ _ hl x y k D S sv N T hS hI p1 p2 p3) rfl rfl (by decide) ⟨by omega, by omega⟩ (Nat.le_of_ble_eq_true rfl) (fun E h1 e1 => ?_) ?_
  · obtain ⟨g0, g1, gS, gF⟩ := e1
    rcases ex_3 g0 g1 with ⟨gk, rfl⟩ | ⟨gk, rfl⟩ | ⟨gk, rfl⟩
    · skip
      have hz0 : ∀ z ∈ ([] : List (Nat × Nat × Nat × Nat)), z.2.2.2 ≠ 0 ∧ ∃ nm : String, Cond.classLink RL z.2.2.2 nm ∈ TB ∧ (ioE, nm) ∈ ncL := fun z hz => by cases hz
      refine ⟨8, ⟨[], (0, 7, 8, 13), [(0, 7, 13, 16), (0, 7, 18, 31)], rfl, hz0, by decide, by decide, tw567, by decide +kernel, rfl⟩, fun n1 q1 => ?_⟩
      refine V_astore 10 C dL_tryRoad_8 rfl (by decide) (L' := [(0, _), (1, _), (2, _), (3, _), (4, _)]) rfl ?_
      refine V_ldc 12 C dL_tryRoad_10 rfl tw593 ?_
      refine V_ireturn C dL_tryRoad_12 rfl rfl (by omega) (by omega) ?_
      exact PoL_x gk g0 rfl gS gF
    · skip
      have hz1 : ∀ z ∈ ([(0, 7, 8, 13)] : List (Nat × Nat × Nat × Nat)), z.2.2.2 ≠ 0 ∧ ∃ nm : String, Cond.classLink RL z.2.2.2 nm ∈ TB ∧ (iaE, nm) ∈ ncL := fun z hz => by
        rcases List.mem_cons.mp hz with rfl | hz
        · exact ⟨by decide, _, tw567, by decide +kernel⟩
        cases hz
      refine ⟨13, ⟨[(0, 7, 8, 13)], (0, 7, 13, 16), [(0, 7, 18, 31)], rfl, hz1, by decide, by decide, tw256, by decide +kernel, rfl⟩, fun n1 q1 => ?_⟩
      refine V_astore 15 C dL_tryRoad_13 rfl (by decide) (L' := [(0, _), (1, _), (2, _), (3, _), (4, _)]) rfl ?_
      refine V_ldc 17 C dL_tryRoad_15 rfl tw360 ?_
      refine V_ireturn C dL_tryRoad_17 rfl rfl (by omega) (by omega) ?_
      exact PoL_x gk g0 rfl gS gF
    · skip
      have hz2 : ∀ z ∈ ([(0, 7, 8, 13), (0, 7, 13, 16)] : List (Nat × Nat × Nat × Nat)), z.2.2.2 ≠ 0 ∧ ∃ nm : String, Cond.classLink RL z.2.2.2 nm ∈ TB ∧ (isE, nm) ∈ ncL := fun z hz => by
        rcases List.mem_cons.mp hz with rfl | hz
        · exact ⟨by decide, _, tw567, by decide +kernel⟩
        rcases List.mem_cons.mp hz with rfl | hz
        · exact ⟨by decide, _, tw256, by decide +kernel⟩
        cases hz
      refine ⟨18, ⟨[(0, 7, 8, 13), (0, 7, 13, 16)], (0, 7, 18, 31), [], rfl, hz2, by decide, by decide, tw257, by decide +kernel, rfl⟩, fun n1 q1 => ?_⟩
      refine V_astore 20 C dL_tryRoad_18 rfl (by decide) (L' := [(0, _), (1, _), (2, _), (3, _), (4, _)]) rfl ?_
      refine V_ldc 22 C dL_tryRoad_20 rfl tw361 ?_
      refine V_ireturn C dL_tryRoad_22 rfl rfl (by omega) (by omega) ?_
      exact PoL_x gk g0 rfl gS gF
  · rintro _ n1 h1 ⟨g0, rfl, gS, gF⟩
    refine V_ireturn C dL_tryRoad_7 rfl rfl (by omega) (by omega) ?_
    exact PoL_0 g0 gS gF

theorem mL_tryRunner : MW yL_tryRunner cL_tryRunner 3 (some .int) [((0 : Nat), (5 : Nat), (6 : Nat), (13 : Nat)), ((0 : Nat), (5 : Nat), (10 : Nat), (31 : Nat))] 2 := ⟨tw674, tw0, ⟨by decide +kernel, by decide +kernel⟩, by decide +kernel, by decide, by decide +kernel, tw673⟩
theorem dL_tryRunner_0 : decode cL_tryRunner 0 = .ok (.aload_n 0, 1) := by decide +kernel
theorem dL_tryRunner_1 : decode cL_tryRunner 1 = .ok (.iload_n 1, 1) := by decide +kernel
theorem dL_tryRunner_2 : decode cL_tryRunner 2 = .ok (.invokevirtual 61, 3) := by decide +kernel
theorem dL_tryRunner_5 : decode cL_tryRunner 5 = .ok (.ireturn, 1) := by decide +kernel
theorem dL_tryRunner_6 : decode cL_tryRunner 6 = .ok (.astore_n 2, 1) := by decide +kernel
theorem dL_tryRunner_7 : decode cL_tryRunner 7 = .ok (.ldc 15, 2) := by decide +kernel
theorem dL_tryRunner_9 : decode cL_tryRunner 9 = .ok (.ireturn, 1) := by decide +kernel
theorem dL_tryRunner_10 : decode cL_tryRunner 10 = .ok (.astore_n 2, 1) := by decide +kernel
theorem dL_tryRunner_11 : decode cL_tryRunner 11 = .ok (.ldc 33, 2) := by decide +kernel
theorem dL_tryRunner_13 : decode cL_tryRunner 13 = .ok (.ireturn, 1) := by decide +kernel
set_option maxRecDepth 100000 in
set_option maxHeartbeats 4000000 in
theorem c_L_tryRunner (l : Launch) (G : GT) (n : Nat) (h : AH) (hl : l.stackTraces = false) (x : Nat) (y : Nat → Nat) (k : Nat) (D S : Nat → Nat → Nat) (sv : Nat → Bool) (N : Nat) (T : Nat → Nat) (hS : SysC x y k D S sv N T h) (hI : SI y k D S sv N T) (p1 : Int32) : CW l yL_tryRunner cL_tryRunner 3 (some .int) [((0 : Nat), (5 : Nat), (6 : Nat), (13 : Nat)), ((0 : Nat), (5 : Nat), (10 : Nat), (31 : Nat))] 9 4 24 G n h [.ref x, .int p1] (PoL x h (rv (kA 1 1 2 (aRu y p1).1) ((aRu y p1).1) [eI, eS]) (aRu y p1).2 (aK (kA 1 1 2 (aRu y p1).1) k) (aD (kA 1 1 2 (aRu y p1).1) k D y) S sv N T) := by
  obtain ⟨w0, -⟩ := id hS
  refine CW_of mL_tryRunner (Nat.le_of_ble_eq_true rfl) ?_
  intro p₀ e₀ s₀ m₀ as₀ bl₀ me₀ c₀ C hT
  refine V_Le (L' := [(0, .ref x), (1, .int p1)]) rfl ?_
  refine V_aload_n 1 C dL_tryRunner_0 rfl rfl ?_
  refine V_iload_n 2 C dL_tryRunner_1 rfl rfl ?_
  refine V_callVXH 5 C hT dL_tryRunner_2 rfl mX9_runner tw675 fcX9 w0 (c_X9_runner l G _ _ hl x y k D S sv N T hS hI p1) rfl rfl (by decide) ⟨by omega, by omega⟩ (Nat.le_of_ble_eq_true rfl) (fun E h1 e1 => ?_) ?_
  · obtain ⟨g0, g1, gS, gF⟩ := e1
    rcases ex_2 g0 g1 with ⟨gk, rfl⟩ | ⟨gk, rfl⟩
    · skip
      have hz0 : ∀ z ∈ ([] : List (Nat × Nat × Nat × Nat)), z.2.2.2 ≠ 0 ∧ ∃ nm : String, Cond.classLink RL z.2.2.2 nm ∈ TB ∧ (ioE, nm) ∈ ncL := fun z hz => by cases hz
      refine ⟨6, ⟨[], (0, 5, 6, 13), [(0, 5, 10, 31)], rfl, hz0, by decide, by decide, tw567, by decide +kernel, rfl⟩, fun n1 q1 => ?_⟩
      refine V_astore_n 7 C dL_tryRunner_6 rfl (by decide) (L' := [(0, _), (1, _), (2, _)]) rfl ?_
      refine V_ldc 9 C dL_tryRunner_7 rfl tw593 ?_
      refine V_ireturn C dL_tryRunner_9 rfl rfl (by omega) (by omega) ?_
      exact PoL_x gk g0 rfl gS gF
    · skip
      have hz1 : ∀ z ∈ ([(0, 5, 6, 13)] : List (Nat × Nat × Nat × Nat)), z.2.2.2 ≠ 0 ∧ ∃ nm : String, Cond.classLink RL z.2.2.2 nm ∈ TB ∧ (isE, nm) ∈ ncL := fun z hz => by
        rcases List.mem_cons.mp hz with rfl | hz
        · exact ⟨by decide, _, tw567, by decide +kernel⟩
        cases hz
      refine ⟨10, ⟨[(0, 5, 6, 13)], (0, 5, 10, 31), [], rfl, hz1, by decide, by decide, tw257, by decide +kernel, rfl⟩, fun n1 q1 => ?_⟩
      refine V_astore_n 11 C dL_tryRunner_10 rfl (by decide) (L' := [(0, _), (1, _), (2, _)]) rfl ?_
      refine V_ldc 13 C dL_tryRunner_11 rfl tw361 ?_
      refine V_ireturn C dL_tryRunner_13 rfl rfl (by omega) (by omega) ?_
      exact PoL_x gk g0 rfl gS gF
  · rintro _ n1 h1 ⟨g0, rfl, gS, gF⟩
    refine V_ireturn C dL_tryRunner_5 rfl rfl (by omega) (by omega) ?_
    exact PoL_0 g0 gS gF

theorem mL_tryWrite : MW yL_tryWrite cL_tryWrite 5 (some .int) [((0 : Nat), (7 : Nat), (8 : Nat), (13 : Nat)), ((0 : Nat), (7 : Nat), (13 : Nat), (16 : Nat)), ((0 : Nat), (7 : Nat), (18 : Nat), (31 : Nat))] 4 := ⟨tw682, tw0, ⟨by decide +kernel, by decide +kernel⟩, by decide +kernel, by decide, by decide +kernel, tw681⟩
theorem dL_tryWrite_0 : decode cL_tryWrite 0 = .ok (.aload_n 0, 1) := by decide +kernel
theorem dL_tryWrite_1 : decode cL_tryWrite 1 = .ok (.iload_n 1, 1) := by decide +kernel
theorem dL_tryWrite_2 : decode cL_tryWrite 2 = .ok (.iload_n 2, 1) := by decide +kernel
theorem dL_tryWrite_3 : decode cL_tryWrite 3 = .ok (.iload_n 3, 1) := by decide +kernel
theorem dL_tryWrite_4 : decode cL_tryWrite 4 = .ok (.invokevirtual 64, 3) := by decide +kernel
theorem dL_tryWrite_7 : decode cL_tryWrite 7 = .ok (.ireturn, 1) := by decide +kernel
theorem dL_tryWrite_8 : decode cL_tryWrite 8 = .ok (.astore 4, 2) := by decide +kernel
theorem dL_tryWrite_10 : decode cL_tryWrite 10 = .ok (.ldc 15, 2) := by decide +kernel
theorem dL_tryWrite_12 : decode cL_tryWrite 12 = .ok (.ireturn, 1) := by decide +kernel
theorem dL_tryWrite_13 : decode cL_tryWrite 13 = .ok (.astore 4, 2) := by decide +kernel
theorem dL_tryWrite_15 : decode cL_tryWrite 15 = .ok (.ldc 18, 2) := by decide +kernel
theorem dL_tryWrite_17 : decode cL_tryWrite 17 = .ok (.ireturn, 1) := by decide +kernel
theorem dL_tryWrite_18 : decode cL_tryWrite 18 = .ok (.astore 4, 2) := by decide +kernel
theorem dL_tryWrite_20 : decode cL_tryWrite 20 = .ok (.ldc 33, 2) := by decide +kernel
theorem dL_tryWrite_22 : decode cL_tryWrite 22 = .ok (.ireturn, 1) := by decide +kernel
set_option maxRecDepth 100000 in
set_option maxHeartbeats 4000000 in
theorem c_L_tryWrite (l : Launch) (G : GT) (n : Nat) (h : AH) (hl : l.stackTraces = false) (x : Nat) (y : Nat → Nat) (k : Nat) (D S : Nat → Nat → Nat) (sv : Nat → Bool) (N : Nat) (T : Nat → Nat) (hS : SysC x y k D S sv N T h) (hI : SI y k D S sv N T) (p1 : Int32) (p2 : Int32) (p3 : Int32) : CW l yL_tryWrite cL_tryWrite 5 (some .int) [((0 : Nat), (7 : Nat), (8 : Nat), (13 : Nat)), ((0 : Nat), (7 : Nat), (13 : Nat), (16 : Nat)), ((0 : Nat), (7 : Nat), (18 : Nat), (31 : Nat))] 9 4 24 G n h [.ref x, .int p1, .int p2, .int p3] (PoL x h (rv (kA 1 2 3 (aWr y p1 p2 p3).1) ((aWr y p1 p2 p3).1) [eI, eA, eS]) (aWr y p1 p2 p3).2 (aK (kA 1 2 3 (aWr y p1 p2 p3).1) k) (aD (kA 1 2 3 (aWr y p1 p2 p3).1) k D y) S sv N T) := by
  obtain ⟨w0, -⟩ := id hS
  refine CW_of mL_tryWrite (Nat.le_of_ble_eq_true rfl) ?_
  intro p₀ e₀ s₀ m₀ as₀ bl₀ me₀ c₀ C hT
  refine V_Le (L' := [(0, .ref x), (1, .int p1), (2, .int p2), (3, .int p3)]) rfl ?_
  refine V_aload_n 1 C dL_tryWrite_0 rfl rfl ?_
  refine V_iload_n 2 C dL_tryWrite_1 rfl rfl ?_
  refine V_iload_n 3 C dL_tryWrite_2 rfl rfl ?_
  refine V_iload_n 4 C dL_tryWrite_3 rfl rfl ?_
  refine V_callVXH 7 C hT dL_tryWrite_4 rfl mX9_write tw683 fcX9 w0 (c_X9_write l G _ _ hl x y k D S sv N T hS hI p1 p2 p3) rfl rfl (by decide) ⟨by omega, by omega⟩ (Nat.le_of_ble_eq_true rfl) (fun E h1 e1 => ?_) ?_
  · obtain ⟨g0, g1, gS, gF⟩ := e1
    rcases ex_3 g0 g1 with ⟨gk, rfl⟩ | ⟨gk, rfl⟩ | ⟨gk, rfl⟩
    · skip
      have hz0 : ∀ z ∈ ([] : List (Nat × Nat × Nat × Nat)), z.2.2.2 ≠ 0 ∧ ∃ nm : String, Cond.classLink RL z.2.2.2 nm ∈ TB ∧ (ioE, nm) ∈ ncL := fun z hz => by cases hz
      refine ⟨8, ⟨[], (0, 7, 8, 13), [(0, 7, 13, 16), (0, 7, 18, 31)], rfl, hz0, by decide, by decide, tw567, by decide +kernel, rfl⟩, fun n1 q1 => ?_⟩
      refine V_astore 10 C dL_tryWrite_8 rfl (by decide) (L' := [(0, _), (1, _), (2, _), (3, _), (4, _)]) rfl ?_
      refine V_ldc 12 C dL_tryWrite_10 rfl tw593 ?_
      refine V_ireturn C dL_tryWrite_12 rfl rfl (by omega) (by omega) ?_
      exact PoL_x gk g0 rfl gS gF
    · skip
      have hz1 : ∀ z ∈ ([(0, 7, 8, 13)] : List (Nat × Nat × Nat × Nat)), z.2.2.2 ≠ 0 ∧ ∃ nm : String, Cond.classLink RL z.2.2.2 nm ∈ TB ∧ (iaE, nm) ∈ ncL := fun z hz => by
        rcases List.mem_cons.mp hz with rfl | hz
        · exact ⟨by decide, _, tw567, by decide +kernel⟩
        cases hz
      refine ⟨13, ⟨[(0, 7, 8, 13)], (0, 7, 13, 16), [(0, 7, 18, 31)], rfl, hz1, by decide, by decide, tw256, by decide +kernel, rfl⟩, fun n1 q1 => ?_⟩
      refine V_astore 15 C dL_tryWrite_13 rfl (by decide) (L' := [(0, _), (1, _), (2, _), (3, _), (4, _)]) rfl ?_
      refine V_ldc 17 C dL_tryWrite_15 rfl tw360 ?_
      refine V_ireturn C dL_tryWrite_17 rfl rfl (by omega) (by omega) ?_
      exact PoL_x gk g0 rfl gS gF
    · skip
      have hz2 : ∀ z ∈ ([(0, 7, 8, 13), (0, 7, 13, 16)] : List (Nat × Nat × Nat × Nat)), z.2.2.2 ≠ 0 ∧ ∃ nm : String, Cond.classLink RL z.2.2.2 nm ∈ TB ∧ (isE, nm) ∈ ncL := fun z hz => by
        rcases List.mem_cons.mp hz with rfl | hz
        · exact ⟨by decide, _, tw567, by decide +kernel⟩
        rcases List.mem_cons.mp hz with rfl | hz
        · exact ⟨by decide, _, tw256, by decide +kernel⟩
        cases hz
      refine ⟨18, ⟨[(0, 7, 8, 13), (0, 7, 13, 16)], (0, 7, 18, 31), [], rfl, hz2, by decide, by decide, tw257, by decide +kernel, rfl⟩, fun n1 q1 => ?_⟩
      refine V_astore 20 C dL_tryWrite_18 rfl (by decide) (L' := [(0, _), (1, _), (2, _), (3, _), (4, _)]) rfl ?_
      refine V_ldc 22 C dL_tryWrite_20 rfl tw361 ?_
      refine V_ireturn C dL_tryWrite_22 rfl rfl (by omega) (by omega) ?_
      exact PoL_x gk g0 rfl gS gF
  · rintro _ n1 h1 ⟨g0, rfl, gS, gF⟩
    refine V_ireturn C dL_tryWrite_7 rfl rfl (by omega) (by omega) ?_
    exact PoL_0 g0 gS gF

theorem mL_tryTake : MW yL_tryTake cL_tryTake 4 (some .int) [((0 : Nat), (6 : Nat), (7 : Nat), (13 : Nat)), ((0 : Nat), (6 : Nat), (11 : Nat), (31 : Nat))] 3 := ⟨tw690, tw0, ⟨by decide +kernel, by decide +kernel⟩, by decide +kernel, by decide, by decide +kernel, tw689⟩
theorem dL_tryTake_0 : decode cL_tryTake 0 = .ok (.aload_n 0, 1) := by decide +kernel
theorem dL_tryTake_1 : decode cL_tryTake 1 = .ok (.iload_n 1, 1) := by decide +kernel
theorem dL_tryTake_2 : decode cL_tryTake 2 = .ok (.iload_n 2, 1) := by decide +kernel
theorem dL_tryTake_3 : decode cL_tryTake 3 = .ok (.invokevirtual 67, 3) := by decide +kernel
theorem dL_tryTake_6 : decode cL_tryTake 6 = .ok (.ireturn, 1) := by decide +kernel
theorem dL_tryTake_7 : decode cL_tryTake 7 = .ok (.astore_n 3, 1) := by decide +kernel
theorem dL_tryTake_8 : decode cL_tryTake 8 = .ok (.ldc 15, 2) := by decide +kernel
theorem dL_tryTake_10 : decode cL_tryTake 10 = .ok (.ireturn, 1) := by decide +kernel
theorem dL_tryTake_11 : decode cL_tryTake 11 = .ok (.astore_n 3, 1) := by decide +kernel
theorem dL_tryTake_12 : decode cL_tryTake 12 = .ok (.ldc 33, 2) := by decide +kernel
theorem dL_tryTake_14 : decode cL_tryTake 14 = .ok (.ireturn, 1) := by decide +kernel
set_option maxRecDepth 100000 in
set_option maxHeartbeats 4000000 in
theorem c_L_tryTake (l : Launch) (G : GT) (n : Nat) (h : AH) (hl : l.stackTraces = false) (x : Nat) (y : Nat → Nat) (k : Nat) (D S : Nat → Nat → Nat) (sv : Nat → Bool) (N : Nat) (T : Nat → Nat) (hS : SysC x y k D S sv N T h) (hI : SI y k D S sv N T) (p1 : Int32) (p2 : Int32) : CW l yL_tryTake cL_tryTake 4 (some .int) [((0 : Nat), (6 : Nat), (7 : Nat), (13 : Nat)), ((0 : Nat), (6 : Nat), (11 : Nat), (31 : Nat))] 9 4 24 G n h [.ref x, .int p1, .int p2] (PoL x h (rv (kA 1 1 2 (aTk y p1 p2).1) ((aTk y p1 p2).1) [eI, eS]) (aTk y p1 p2).2 (aK (kA 1 1 2 (aTk y p1 p2).1) k) (aD (kA 1 1 2 (aTk y p1 p2).1) k D y) S sv N T) := by
  obtain ⟨w0, -⟩ := id hS
  refine CW_of mL_tryTake (Nat.le_of_ble_eq_true rfl) ?_
  intro p₀ e₀ s₀ m₀ as₀ bl₀ me₀ c₀ C hT
  refine V_Le (L' := [(0, .ref x), (1, .int p1), (2, .int p2)]) rfl ?_
  refine V_aload_n 1 C dL_tryTake_0 rfl rfl ?_
  refine V_iload_n 2 C dL_tryTake_1 rfl rfl ?_
  refine V_iload_n 3 C dL_tryTake_2 rfl rfl ?_
  refine V_callVXH 6 C hT dL_tryTake_3 rfl mX9_take tw691 fcX9 w0 (c_X9_take l G _ _ hl x y k D S sv N T hS hI p1 p2) rfl rfl (by decide) ⟨by omega, by omega⟩ (Nat.le_of_ble_eq_true rfl) (fun E h1 e1 => ?_) ?_
  · obtain ⟨g0, g1, gS, gF⟩ := e1
    rcases ex_2 g0 g1 with ⟨gk, rfl⟩ | ⟨gk, rfl⟩
    · skip
      have hz0 : ∀ z ∈ ([] : List (Nat × Nat × Nat × Nat)), z.2.2.2 ≠ 0 ∧ ∃ nm : String, Cond.classLink RL z.2.2.2 nm ∈ TB ∧ (ioE, nm) ∈ ncL := fun z hz => by cases hz
      refine ⟨7, ⟨[], (0, 6, 7, 13), [(0, 6, 11, 31)], rfl, hz0, by decide, by decide, tw567, by decide +kernel, rfl⟩, fun n1 q1 => ?_⟩
      refine V_astore_n 8 C dL_tryTake_7 rfl (by decide) (L' := [(0, _), (1, _), (2, _), (3, _)]) rfl ?_
      refine V_ldc 10 C dL_tryTake_8 rfl tw593 ?_
      refine V_ireturn C dL_tryTake_10 rfl rfl (by omega) (by omega) ?_
      exact PoL_x gk g0 rfl gS gF
    · skip
      have hz1 : ∀ z ∈ ([(0, 6, 7, 13)] : List (Nat × Nat × Nat × Nat)), z.2.2.2 ≠ 0 ∧ ∃ nm : String, Cond.classLink RL z.2.2.2 nm ∈ TB ∧ (isE, nm) ∈ ncL := fun z hz => by
        rcases List.mem_cons.mp hz with rfl | hz
        · exact ⟨by decide, _, tw567, by decide +kernel⟩
        cases hz
      refine ⟨11, ⟨[(0, 6, 7, 13)], (0, 6, 11, 31), [], rfl, hz1, by decide, by decide, tw257, by decide +kernel, rfl⟩, fun n1 q1 => ?_⟩
      refine V_astore_n 12 C dL_tryTake_11 rfl (by decide) (L' := [(0, _), (1, _), (2, _), (3, _)]) rfl ?_
      refine V_ldc 14 C dL_tryTake_12 rfl tw361 ?_
      refine V_ireturn C dL_tryTake_14 rfl rfl (by omega) (by omega) ?_
      exact PoL_x gk g0 rfl gS gF
  · rintro _ n1 h1 ⟨g0, rfl, gS, gF⟩
    refine V_ireturn C dL_tryTake_6 rfl rfl (by omega) (by omega) ?_
    exact PoL_0 g0 gS gF

theorem mL_tryLay : MW yL_tryLay cL_tryLay 3 (some .int) [((0 : Nat), (5 : Nat), (6 : Nat), (13 : Nat)), ((0 : Nat), (5 : Nat), (10 : Nat), (31 : Nat))] 2 := ⟨tw698, tw0, ⟨by decide +kernel, by decide +kernel⟩, by decide +kernel, by decide, by decide +kernel, tw697⟩
theorem dL_tryLay_0 : decode cL_tryLay 0 = .ok (.aload_n 0, 1) := by decide +kernel
theorem dL_tryLay_1 : decode cL_tryLay 1 = .ok (.iload_n 1, 1) := by decide +kernel
theorem dL_tryLay_2 : decode cL_tryLay 2 = .ok (.invokevirtual 70, 3) := by decide +kernel
theorem dL_tryLay_5 : decode cL_tryLay 5 = .ok (.ireturn, 1) := by decide +kernel
theorem dL_tryLay_6 : decode cL_tryLay 6 = .ok (.astore_n 2, 1) := by decide +kernel
theorem dL_tryLay_7 : decode cL_tryLay 7 = .ok (.ldc 15, 2) := by decide +kernel
theorem dL_tryLay_9 : decode cL_tryLay 9 = .ok (.ireturn, 1) := by decide +kernel
theorem dL_tryLay_10 : decode cL_tryLay 10 = .ok (.astore_n 2, 1) := by decide +kernel
theorem dL_tryLay_11 : decode cL_tryLay 11 = .ok (.ldc 33, 2) := by decide +kernel
theorem dL_tryLay_13 : decode cL_tryLay 13 = .ok (.ireturn, 1) := by decide +kernel
set_option maxRecDepth 100000 in
set_option maxHeartbeats 4000000 in
theorem c_L_tryLay (l : Launch) (G : GT) (n : Nat) (h : AH) (hl : l.stackTraces = false) (x : Nat) (y : Nat → Nat) (k : Nat) (D S : Nat → Nat → Nat) (sv : Nat → Bool) (N : Nat) (T : Nat → Nat) (hS : SysC x y k D S sv N T h) (hI : SI y k D S sv N T) (p1 : Int32) : CW l yL_tryLay cL_tryLay 3 (some .int) [((0 : Nat), (5 : Nat), (6 : Nat), (13 : Nat)), ((0 : Nat), (5 : Nat), (10 : Nat), (31 : Nat))] 9 4 24 G n h [.ref x, .int p1] (PoL x h (rv (kA 1 1 2 (aLy y p1).1) ((aLy y p1).1) [eI, eS]) (aLy y p1).2 (aK (kA 1 1 2 (aLy y p1).1) k) (aD (kA 1 1 2 (aLy y p1).1) k D y) S sv N T) := by
  obtain ⟨w0, -⟩ := id hS
  refine CW_of mL_tryLay (Nat.le_of_ble_eq_true rfl) ?_
  intro p₀ e₀ s₀ m₀ as₀ bl₀ me₀ c₀ C hT
  refine V_Le (L' := [(0, .ref x), (1, .int p1)]) rfl ?_
  refine V_aload_n 1 C dL_tryLay_0 rfl rfl ?_
  refine V_iload_n 2 C dL_tryLay_1 rfl rfl ?_
  refine V_callVXH 5 C hT dL_tryLay_2 rfl mX9_lay tw699 fcX9 w0 (c_X9_lay l G _ _ hl x y k D S sv N T hS hI p1) rfl rfl (by decide) ⟨by omega, by omega⟩ (Nat.le_of_ble_eq_true rfl) (fun E h1 e1 => ?_) ?_
  · obtain ⟨g0, g1, gS, gF⟩ := e1
    rcases ex_2 g0 g1 with ⟨gk, rfl⟩ | ⟨gk, rfl⟩
    · skip
      have hz0 : ∀ z ∈ ([] : List (Nat × Nat × Nat × Nat)), z.2.2.2 ≠ 0 ∧ ∃ nm : String, Cond.classLink RL z.2.2.2 nm ∈ TB ∧ (ioE, nm) ∈ ncL := fun z hz => by cases hz
      refine ⟨6, ⟨[], (0, 5, 6, 13), [(0, 5, 10, 31)], rfl, hz0, by decide, by decide, tw567, by decide +kernel, rfl⟩, fun n1 q1 => ?_⟩
      refine V_astore_n 7 C dL_tryLay_6 rfl (by decide) (L' := [(0, _), (1, _), (2, _)]) rfl ?_
      refine V_ldc 9 C dL_tryLay_7 rfl tw593 ?_
      refine V_ireturn C dL_tryLay_9 rfl rfl (by omega) (by omega) ?_
      exact PoL_x gk g0 rfl gS gF
    · skip
      have hz1 : ∀ z ∈ ([(0, 5, 6, 13)] : List (Nat × Nat × Nat × Nat)), z.2.2.2 ≠ 0 ∧ ∃ nm : String, Cond.classLink RL z.2.2.2 nm ∈ TB ∧ (isE, nm) ∈ ncL := fun z hz => by
        rcases List.mem_cons.mp hz with rfl | hz
        · exact ⟨by decide, _, tw567, by decide +kernel⟩
        cases hz
      refine ⟨10, ⟨[(0, 5, 6, 13)], (0, 5, 10, 31), [], rfl, hz1, by decide, by decide, tw257, by decide +kernel, rfl⟩, fun n1 q1 => ?_⟩
      refine V_astore_n 11 C dL_tryLay_10 rfl (by decide) (L' := [(0, _), (1, _), (2, _)]) rfl ?_
      refine V_ldc 13 C dL_tryLay_11 rfl tw361 ?_
      refine V_ireturn C dL_tryLay_13 rfl rfl (by omega) (by omega) ?_
      exact PoL_x gk g0 rfl gS gF
  · rintro _ n1 h1 ⟨g0, rfl, gS, gF⟩
    refine V_ireturn C dL_tryLay_5 rfl rfl (by omega) (by omega) ?_
    exact PoL_0 g0 gS gF

theorem mL_tryGo : MW yL_tryGo cL_tryGo 4 (some .int) [((0 : Nat), (6 : Nat), (7 : Nat), (13 : Nat)), ((0 : Nat), (6 : Nat), (11 : Nat), (31 : Nat))] 3 := ⟨tw706, tw0, ⟨by decide +kernel, by decide +kernel⟩, by decide +kernel, by decide, by decide +kernel, tw705⟩
theorem dL_tryGo_0 : decode cL_tryGo 0 = .ok (.aload_n 0, 1) := by decide +kernel
theorem dL_tryGo_1 : decode cL_tryGo 1 = .ok (.iload_n 1, 1) := by decide +kernel
theorem dL_tryGo_2 : decode cL_tryGo 2 = .ok (.iload_n 2, 1) := by decide +kernel
theorem dL_tryGo_3 : decode cL_tryGo 3 = .ok (.invokevirtual 73, 3) := by decide +kernel
theorem dL_tryGo_6 : decode cL_tryGo 6 = .ok (.ireturn, 1) := by decide +kernel
theorem dL_tryGo_7 : decode cL_tryGo 7 = .ok (.astore_n 3, 1) := by decide +kernel
theorem dL_tryGo_8 : decode cL_tryGo 8 = .ok (.ldc 15, 2) := by decide +kernel
theorem dL_tryGo_10 : decode cL_tryGo 10 = .ok (.ireturn, 1) := by decide +kernel
theorem dL_tryGo_11 : decode cL_tryGo 11 = .ok (.astore_n 3, 1) := by decide +kernel
theorem dL_tryGo_12 : decode cL_tryGo 12 = .ok (.ldc 33, 2) := by decide +kernel
theorem dL_tryGo_14 : decode cL_tryGo 14 = .ok (.ireturn, 1) := by decide +kernel
set_option maxRecDepth 100000 in
set_option maxHeartbeats 4000000 in
theorem c_L_tryGo (l : Launch) (G : GT) (n : Nat) (h : AH) (hl : l.stackTraces = false) (x : Nat) (y : Nat → Nat) (k : Nat) (D S : Nat → Nat → Nat) (sv : Nat → Bool) (N : Nat) (T : Nat → Nat) (hS : SysC x y k D S sv N T h) (hI : SI y k D S sv N T) (p1 : Int32) (p2 : Int32) : CW l yL_tryGo cL_tryGo 4 (some .int) [((0 : Nat), (6 : Nat), (7 : Nat), (13 : Nat)), ((0 : Nat), (6 : Nat), (11 : Nat), (31 : Nat))] 9 4 24 G n h [.ref x, .int p1, .int p2] (PoL x h (rv (kA 1 1 2 (aGo y p1 p2).1) ((aGo y p1 p2).1) [eI, eS]) (aGo y p1 p2).2 (aK (kA 1 1 2 (aGo y p1 p2).1) k) (aD (kA 1 1 2 (aGo y p1 p2).1) k D y) S sv N T) := by
  obtain ⟨w0, -⟩ := id hS
  refine CW_of mL_tryGo (Nat.le_of_ble_eq_true rfl) ?_
  intro p₀ e₀ s₀ m₀ as₀ bl₀ me₀ c₀ C hT
  refine V_Le (L' := [(0, .ref x), (1, .int p1), (2, .int p2)]) rfl ?_
  refine V_aload_n 1 C dL_tryGo_0 rfl rfl ?_
  refine V_iload_n 2 C dL_tryGo_1 rfl rfl ?_
  refine V_iload_n 3 C dL_tryGo_2 rfl rfl ?_
  refine V_callVXH 6 C hT dL_tryGo_3 rfl mX9_go tw707 fcX9 w0 (c_X9_go l G _ _ hl x y k D S sv N T hS hI p1 p2) rfl rfl (by decide) ⟨by omega, by omega⟩ (Nat.le_of_ble_eq_true rfl) (fun E h1 e1 => ?_) ?_
  · obtain ⟨g0, g1, gS, gF⟩ := e1
    rcases ex_2 g0 g1 with ⟨gk, rfl⟩ | ⟨gk, rfl⟩
    · skip
      have hz0 : ∀ z ∈ ([] : List (Nat × Nat × Nat × Nat)), z.2.2.2 ≠ 0 ∧ ∃ nm : String, Cond.classLink RL z.2.2.2 nm ∈ TB ∧ (ioE, nm) ∈ ncL := fun z hz => by cases hz
      refine ⟨7, ⟨[], (0, 6, 7, 13), [(0, 6, 11, 31)], rfl, hz0, by decide, by decide, tw567, by decide +kernel, rfl⟩, fun n1 q1 => ?_⟩
      refine V_astore_n 8 C dL_tryGo_7 rfl (by decide) (L' := [(0, _), (1, _), (2, _), (3, _)]) rfl ?_
      refine V_ldc 10 C dL_tryGo_8 rfl tw593 ?_
      refine V_ireturn C dL_tryGo_10 rfl rfl (by omega) (by omega) ?_
      exact PoL_x gk g0 rfl gS gF
    · skip
      have hz1 : ∀ z ∈ ([(0, 6, 7, 13)] : List (Nat × Nat × Nat × Nat)), z.2.2.2 ≠ 0 ∧ ∃ nm : String, Cond.classLink RL z.2.2.2 nm ∈ TB ∧ (isE, nm) ∈ ncL := fun z hz => by
        rcases List.mem_cons.mp hz with rfl | hz
        · exact ⟨by decide, _, tw567, by decide +kernel⟩
        cases hz
      refine ⟨11, ⟨[(0, 6, 7, 13)], (0, 6, 11, 31), [], rfl, hz1, by decide, by decide, tw257, by decide +kernel, rfl⟩, fun n1 q1 => ?_⟩
      refine V_astore_n 12 C dL_tryGo_11 rfl (by decide) (L' := [(0, _), (1, _), (2, _), (3, _)]) rfl ?_
      refine V_ldc 14 C dL_tryGo_12 rfl tw361 ?_
      refine V_ireturn C dL_tryGo_14 rfl rfl (by omega) (by omega) ?_
      exact PoL_x gk g0 rfl gS gF
  · rintro _ n1 h1 ⟨g0, rfl, gS, gF⟩
    refine V_ireturn C dL_tryGo_6 rfl rfl (by omega) (by omega) ?_
    exact PoL_0 g0 gS gF

theorem mL_tryCopy : MW yL_tryCopy cL_tryCopy 4 (some .int) [((0 : Nat), (6 : Nat), (7 : Nat), (13 : Nat)), ((0 : Nat), (6 : Nat), (11 : Nat), (16 : Nat))] 3 := ⟨tw714, tw0, ⟨by decide +kernel, by decide +kernel⟩, by decide +kernel, by decide, by decide +kernel, tw713⟩
theorem dL_tryCopy_0 : decode cL_tryCopy 0 = .ok (.aload_n 0, 1) := by decide +kernel
theorem dL_tryCopy_1 : decode cL_tryCopy 1 = .ok (.iload_n 1, 1) := by decide +kernel
theorem dL_tryCopy_2 : decode cL_tryCopy 2 = .ok (.iload_n 2, 1) := by decide +kernel
theorem dL_tryCopy_3 : decode cL_tryCopy 3 = .ok (.invokevirtual 76, 3) := by decide +kernel
theorem dL_tryCopy_6 : decode cL_tryCopy 6 = .ok (.ireturn, 1) := by decide +kernel
theorem dL_tryCopy_7 : decode cL_tryCopy 7 = .ok (.astore_n 3, 1) := by decide +kernel
theorem dL_tryCopy_8 : decode cL_tryCopy 8 = .ok (.ldc 15, 2) := by decide +kernel
theorem dL_tryCopy_10 : decode cL_tryCopy 10 = .ok (.ireturn, 1) := by decide +kernel
theorem dL_tryCopy_11 : decode cL_tryCopy 11 = .ok (.astore_n 3, 1) := by decide +kernel
theorem dL_tryCopy_12 : decode cL_tryCopy 12 = .ok (.ldc 18, 2) := by decide +kernel
theorem dL_tryCopy_14 : decode cL_tryCopy 14 = .ok (.ireturn, 1) := by decide +kernel
set_option maxRecDepth 100000 in
set_option maxHeartbeats 4000000 in
theorem c_L_tryCopy (l : Launch) (G : GT) (n : Nat) (h : AH) (hl : l.stackTraces = false) (x : Nat) (y : Nat → Nat) (k : Nat) (D S : Nat → Nat → Nat) (sv : Nat → Bool) (N : Nat) (T : Nat → Nat) (hS : SysC x y k D S sv N T h) (hI : SI y k D S sv N T) (p1 : Int32) (p2 : Int32) : CW l yL_tryCopy cL_tryCopy 4 (some .int) [((0 : Nat), (6 : Nat), (7 : Nat), (13 : Nat)), ((0 : Nat), (6 : Nat), (11 : Nat), (16 : Nat))] 9 4 24 G n h [.ref x, .int p1, .int p2] (PoL x h (rv (kA 1 2 1 (aCp y p1 p2).1) ((aCp y p1 p2).1) [eI, eA]) (cnt (aCp y p1 p2)) (aK (kA 1 2 1 (aCp y p1 p2).1) k) (aD (kA 1 2 1 (aCp y p1 p2).1) k D y) S sv N T) := by
  obtain ⟨w0, -⟩ := id hS
  refine CW_of mL_tryCopy (Nat.le_of_ble_eq_true rfl) ?_
  intro p₀ e₀ s₀ m₀ as₀ bl₀ me₀ c₀ C hT
  refine V_Le (L' := [(0, .ref x), (1, .int p1), (2, .int p2)]) rfl ?_
  refine V_aload_n 1 C dL_tryCopy_0 rfl rfl ?_
  refine V_iload_n 2 C dL_tryCopy_1 rfl rfl ?_
  refine V_iload_n 3 C dL_tryCopy_2 rfl rfl ?_
  refine V_callVXH 6 C hT dL_tryCopy_3 rfl mX9_copy tw715 fcX9 w0 (c_X9_copy l G _ _ hl x y k D S sv N T hS hI p1 p2) rfl rfl (by decide) ⟨by omega, by omega⟩ (Nat.le_of_ble_eq_true rfl) (fun E h1 e1 => ?_) ?_
  · obtain ⟨g0, g1, gS, gF⟩ := e1
    rcases ex_2 g0 g1 with ⟨gk, rfl⟩ | ⟨gk, rfl⟩
    · skip
      have hz0 : ∀ z ∈ ([] : List (Nat × Nat × Nat × Nat)), z.2.2.2 ≠ 0 ∧ ∃ nm : String, Cond.classLink RL z.2.2.2 nm ∈ TB ∧ (ioE, nm) ∈ ncL := fun z hz => by cases hz
      refine ⟨7, ⟨[], (0, 6, 7, 13), [(0, 6, 11, 16)], rfl, hz0, by decide, by decide, tw567, by decide +kernel, rfl⟩, fun n1 q1 => ?_⟩
      refine V_astore_n 8 C dL_tryCopy_7 rfl (by decide) (L' := [(0, _), (1, _), (2, _), (3, _)]) rfl ?_
      refine V_ldc 10 C dL_tryCopy_8 rfl tw593 ?_
      refine V_ireturn C dL_tryCopy_10 rfl rfl (by omega) (by omega) ?_
      exact PoL_x gk g0 rfl gS gF
    · skip
      have hz1 : ∀ z ∈ ([(0, 6, 7, 13)] : List (Nat × Nat × Nat × Nat)), z.2.2.2 ≠ 0 ∧ ∃ nm : String, Cond.classLink RL z.2.2.2 nm ∈ TB ∧ (iaE, nm) ∈ ncL := fun z hz => by
        rcases List.mem_cons.mp hz with rfl | hz
        · exact ⟨by decide, _, tw567, by decide +kernel⟩
        cases hz
      refine ⟨11, ⟨[(0, 6, 7, 13)], (0, 6, 11, 16), [], rfl, hz1, by decide, by decide, tw256, by decide +kernel, rfl⟩, fun n1 q1 => ?_⟩
      refine V_astore_n 12 C dL_tryCopy_11 rfl (by decide) (L' := [(0, _), (1, _), (2, _), (3, _)]) rfl ?_
      refine V_ldc 14 C dL_tryCopy_12 rfl tw360 ?_
      refine V_ireturn C dL_tryCopy_14 rfl rfl (by omega) (by omega) ?_
      exact PoL_x gk g0 rfl gS gF
  · rintro _ n1 h1 ⟨g0, rfl, gS, gF⟩
    refine V_ireturn C dL_tryCopy_6 rfl rfl (by omega) (by omega) ?_
    exact PoL_0 g0 gS gF

theorem mL_proofs : MW yL_proofs cL_proofs 6 (some .int) [((0 : Nat), (9 : Nat), (10 : Nat), (13 : Nat)), ((0 : Nat), (9 : Nat), (15 : Nat), (16 : Nat))] 5 := ⟨tw865, tw0, ⟨by decide +kernel, by decide +kernel⟩, by decide +kernel, by decide, by decide +kernel, tw864⟩
theorem dL_proofs_0 : decode cL_proofs 0 = .ok (.aload_n 0, 1) := by decide +kernel
theorem dL_proofs_1 : decode cL_proofs 1 = .ok (.iload_n 1, 1) := by decide +kernel
theorem dL_proofs_2 : decode cL_proofs 2 = .ok (.iload_n 2, 1) := by decide +kernel
theorem dL_proofs_3 : decode cL_proofs 3 = .ok (.iload_n 3, 1) := by decide +kernel
theorem dL_proofs_4 : decode cL_proofs 4 = .ok (.iload 4, 2) := by decide +kernel
theorem dL_proofs_6 : decode cL_proofs 6 = .ok (.invokevirtual 7, 3) := by decide +kernel
theorem dL_proofs_9 : decode cL_proofs 9 = .ok (.ireturn, 1) := by decide +kernel
theorem dL_proofs_10 : decode cL_proofs 10 = .ok (.astore 5, 2) := by decide +kernel
theorem dL_proofs_12 : decode cL_proofs 12 = .ok (.ldc 15, 2) := by decide +kernel
theorem dL_proofs_14 : decode cL_proofs 14 = .ok (.ireturn, 1) := by decide +kernel
theorem dL_proofs_15 : decode cL_proofs 15 = .ok (.astore 5, 2) := by decide +kernel
theorem dL_proofs_17 : decode cL_proofs 17 = .ok (.ldc 18, 2) := by decide +kernel
theorem dL_proofs_19 : decode cL_proofs 19 = .ok (.ireturn, 1) := by decide +kernel
set_option maxRecDepth 100000 in
set_option maxHeartbeats 4000000 in
theorem c_L_proofs (l : Launch) (G : GT) (n : Nat) (h : AH) (hl : l.stackTraces = false) (x : Nat) (y : Nat → Nat) (k : Nat) (D S : Nat → Nat → Nat) (sv : Nat → Bool) (N : Nat) (T : Nat → Nat) (hS : SysC x y k D S sv N T h) (hI : SI y k D S sv N T) (p1 : Int32) (p2 : Int32) (p3 : Int32) (p4 : Int32) : CW l yL_proofs cL_proofs 6 (some .int) [((0 : Nat), (9 : Nat), (10 : Nat), (13 : Nat)), ((0 : Nat), (9 : Nat), (15 : Nat), (16 : Nat))] 9 4 24 G n h [.ref x, .int p1, .int p2, .int p3, .int p4] (PoL x h (rv (kA 1 2 1 (aPr y p1 p2 p3 p4).1) ((aPr y p1 p2 p3 p4).1) [eI, eA]) (cnt (aPr y p1 p2 p3 p4)) (aK (kA 1 2 1 (aPr y p1 p2 p3 p4).1) k) (aD (kA 1 2 1 (aPr y p1 p2 p3 p4).1) k D y) S sv N T) := by
  obtain ⟨w0, -⟩ := id hS
  refine CW_of mL_proofs (Nat.le_of_ble_eq_true rfl) ?_
  intro p₀ e₀ s₀ m₀ as₀ bl₀ me₀ c₀ C hT
  refine V_Le (L' := [(0, .ref x), (1, .int p1), (2, .int p2), (3, .int p3), (4, .int p4)]) rfl ?_
  refine V_aload_n 1 C dL_proofs_0 rfl rfl ?_
  refine V_iload_n 2 C dL_proofs_1 rfl rfl ?_
  refine V_iload_n 3 C dL_proofs_2 rfl rfl ?_
  refine V_iload_n 4 C dL_proofs_3 rfl rfl ?_
  refine V_iload 6 C dL_proofs_4 rfl rfl ?_
  refine V_callVXH 9 C hT dL_proofs_6 rfl mX9_proof tw866 fcX9 w0 (c_X9_proof l G _ _ hl x y k D S sv N T hS hI p1 p2 p3 p4) rfl rfl (by decide) ⟨by omega, by omega⟩ (Nat.le_of_ble_eq_true rfl) (fun E h1 e1 => ?_) ?_
  · obtain ⟨g0, g1, gS, gF⟩ := e1
    rcases ex_2 g0 g1 with ⟨gk, rfl⟩ | ⟨gk, rfl⟩
    · skip
      have hz0 : ∀ z ∈ ([] : List (Nat × Nat × Nat × Nat)), z.2.2.2 ≠ 0 ∧ ∃ nm : String, Cond.classLink RL z.2.2.2 nm ∈ TB ∧ (ioE, nm) ∈ ncL := fun z hz => by cases hz
      refine ⟨10, ⟨[], (0, 9, 10, 13), [(0, 9, 15, 16)], rfl, hz0, by decide, by decide, tw567, by decide +kernel, rfl⟩, fun n1 q1 => ?_⟩
      refine V_astore 12 C dL_proofs_10 rfl (by decide) (L' := [(0, _), (1, _), (2, _), (3, _), (4, _), (5, _)]) rfl ?_
      refine V_ldc 14 C dL_proofs_12 rfl tw593 ?_
      refine V_ireturn C dL_proofs_14 rfl rfl (by omega) (by omega) ?_
      exact PoL_x gk g0 rfl gS gF
    · skip
      have hz1 : ∀ z ∈ ([(0, 9, 10, 13)] : List (Nat × Nat × Nat × Nat)), z.2.2.2 ≠ 0 ∧ ∃ nm : String, Cond.classLink RL z.2.2.2 nm ∈ TB ∧ (iaE, nm) ∈ ncL := fun z hz => by
        rcases List.mem_cons.mp hz with rfl | hz
        · exact ⟨by decide, _, tw567, by decide +kernel⟩
        cases hz
      refine ⟨15, ⟨[(0, 9, 10, 13)], (0, 9, 15, 16), [], rfl, hz1, by decide, by decide, tw256, by decide +kernel, rfl⟩, fun n1 q1 => ?_⟩
      refine V_astore 17 C dL_proofs_15 rfl (by decide) (L' := [(0, _), (1, _), (2, _), (3, _), (4, _), (5, _)]) rfl ?_
      refine V_ldc 19 C dL_proofs_17 rfl tw360 ?_
      refine V_ireturn C dL_proofs_19 rfl rfl (by omega) (by omega) ?_
      exact PoL_x gk g0 rfl gS gF
  · rintro _ n1 h1 ⟨g0, rfl, gS, gF⟩
    refine V_ireturn C dL_proofs_9 rfl rfl (by omega) (by omega) ?_
    exact PoL_0 g0 gS gF

theorem mL_tryHours : MW yL_tryHours cL_tryHours 3 (some .int) [((0 : Nat), (5 : Nat), (6 : Nat), (16 : Nat))] 2 := ⟨tw726, tw0, ⟨by decide +kernel, by decide +kernel⟩, by decide +kernel, by decide, by decide +kernel, tw725⟩
theorem dL_tryHours_0 : decode cL_tryHours 0 = .ok (.aload_n 0, 1) := by decide +kernel
theorem dL_tryHours_1 : decode cL_tryHours 1 = .ok (.iload_n 1, 1) := by decide +kernel
theorem dL_tryHours_2 : decode cL_tryHours 2 = .ok (.invokevirtual 79, 3) := by decide +kernel
theorem dL_tryHours_5 : decode cL_tryHours 5 = .ok (.ireturn, 1) := by decide +kernel
theorem dL_tryHours_6 : decode cL_tryHours 6 = .ok (.astore_n 2, 1) := by decide +kernel
theorem dL_tryHours_7 : decode cL_tryHours 7 = .ok (.ldc 18, 2) := by decide +kernel
theorem dL_tryHours_9 : decode cL_tryHours 9 = .ok (.ireturn, 1) := by decide +kernel
set_option maxRecDepth 100000 in
set_option maxHeartbeats 4000000 in
theorem c_L_tryHours (l : Launch) (G : GT) (n : Nat) (h : AH) (hl : l.stackTraces = false) (x : Nat) (y : Nat → Nat) (k : Nat) (D S : Nat → Nat → Nat) (sv : Nat → Bool) (N : Nat) (T : Nat → Nat) (hS : SysC x y k D S sv N T h) (hI : SI y k D S sv N T) (p1 : Int32) : CW l yL_tryHours cL_tryHours 3 (some .int) [((0 : Nat), (5 : Nat), (6 : Nat), (16 : Nat))] 9 4 24 G n h [.ref x, .int p1] (PoL x h (rv (kA 1 1 1 (aHr y p1).1) ((aHr y p1).1) [eA]) (aHr y p1).2 (aK (kA 1 1 1 (aHr y p1).1) k) (aD (kA 1 1 1 (aHr y p1).1) k D y) S sv N T) := by
  obtain ⟨w0, -⟩ := id hS
  refine CW_of mL_tryHours (Nat.le_of_ble_eq_true rfl) ?_
  intro p₀ e₀ s₀ m₀ as₀ bl₀ me₀ c₀ C hT
  refine V_Le (L' := [(0, .ref x), (1, .int p1)]) rfl ?_
  refine V_aload_n 1 C dL_tryHours_0 rfl rfl ?_
  refine V_iload_n 2 C dL_tryHours_1 rfl rfl ?_
  refine V_callVXH 5 C hT dL_tryHours_2 rfl mX9_hours tw727 fcX9 w0 (c_X9_hours l G _ _ hl x y k D S sv N T hS hI p1) rfl rfl (by decide) ⟨by omega, by omega⟩ (Nat.le_of_ble_eq_true rfl) (fun E h1 e1 => ?_) ?_
  · obtain ⟨g0, g1, gS, gF⟩ := e1
    obtain ⟨gk, rfl⟩ := ex_1 g0 g1
    have hz0 : ∀ z ∈ ([] : List (Nat × Nat × Nat × Nat)), z.2.2.2 ≠ 0 ∧ ∃ nm : String, Cond.classLink RL z.2.2.2 nm ∈ TB ∧ (iaE, nm) ∈ ncL := fun z hz => by cases hz
    refine ⟨6, ⟨[], (0, 5, 6, 16), [], rfl, hz0, by decide, by decide, tw256, by decide +kernel, rfl⟩, fun n1 q1 => ?_⟩
    refine V_astore_n 7 C dL_tryHours_6 rfl (by decide) (L' := [(0, _), (1, _), (2, _)]) rfl ?_
    refine V_ldc 9 C dL_tryHours_7 rfl tw360 ?_
    refine V_ireturn C dL_tryHours_9 rfl rfl (by omega) (by omega) ?_
    exact PoL_x gk g0 rfl gS gF
  · rintro _ n1 h1 ⟨g0, rfl, gS, gF⟩
    refine V_ireturn C dL_tryHours_5 rfl rfl (by omega) (by omega) ?_
    exact PoL_0 g0 gS gF

theorem mL_tryUndo : MW yL_tryUndo cL_tryUndo 2 (some .int) [((0 : Nat), (4 : Nat), (5 : Nat), (31 : Nat))] 1 := ⟨tw734, tw0, ⟨by decide +kernel, by decide +kernel⟩, by decide +kernel, by decide, by decide +kernel, tw733⟩
theorem dL_tryUndo_0 : decode cL_tryUndo 0 = .ok (.aload_n 0, 1) := by decide +kernel
theorem dL_tryUndo_1 : decode cL_tryUndo 1 = .ok (.invokevirtual 82, 3) := by decide +kernel
theorem dL_tryUndo_4 : decode cL_tryUndo 4 = .ok (.ireturn, 1) := by decide +kernel
theorem dL_tryUndo_5 : decode cL_tryUndo 5 = .ok (.astore_n 1, 1) := by decide +kernel
theorem dL_tryUndo_6 : decode cL_tryUndo 6 = .ok (.ldc 33, 2) := by decide +kernel
theorem dL_tryUndo_8 : decode cL_tryUndo 8 = .ok (.ireturn, 1) := by decide +kernel
set_option maxRecDepth 100000 in
set_option maxHeartbeats 4000000 in
theorem c_L_tryUndo (l : Launch) (G : GT) (n : Nat) (h : AH) (hl : l.stackTraces = false) (x : Nat) (y : Nat → Nat) (k : Nat) (D S : Nat → Nat → Nat) (sv : Nat → Bool) (N : Nat) (T : Nat → Nat) (hS : SysC x y k D S sv N T h) (hI : SI y k D S sv N T) : CW l yL_tryUndo cL_tryUndo 2 (some .int) [((0 : Nat), (4 : Nat), (5 : Nat), (31 : Nat))] 8 4 24 G n h [.ref x] (PoL x h (rv (if k = 0 then 1 else 0) (nI (k - 1)) [eS]) (if k = 0 then y else D (k - 1)) (k - 1) D S sv N T) := by
  obtain ⟨w0, -⟩ := id hS
  refine CW_of mL_tryUndo (Nat.le_of_ble_eq_true rfl) ?_
  intro p₀ e₀ s₀ m₀ as₀ bl₀ me₀ c₀ C hT
  refine V_Le (L' := [(0, .ref x)]) rfl ?_
  refine V_aload_n 1 C dL_tryUndo_0 rfl rfl ?_
  refine V_callVXH 4 C hT dL_tryUndo_1 rfl mX9_undo tw735 fcX9 w0 (c_X9_undo l G _ _ hl x y k D S sv N T hS hI) rfl rfl (by decide) ⟨by omega, by omega⟩ (Nat.le_of_ble_eq_true rfl) (fun E h1 e1 => ?_) ?_
  · obtain ⟨g0, g1, gS, gF⟩ := e1
    obtain ⟨gk, rfl⟩ := ex_1 g0 g1
    have hz0 : ∀ z ∈ ([] : List (Nat × Nat × Nat × Nat)), z.2.2.2 ≠ 0 ∧ ∃ nm : String, Cond.classLink RL z.2.2.2 nm ∈ TB ∧ (isE, nm) ∈ ncL := fun z hz => by cases hz
    refine ⟨5, ⟨[], (0, 4, 5, 31), [], rfl, hz0, by decide, by decide, tw257, by decide +kernel, rfl⟩, fun n1 q1 => ?_⟩
    refine V_astore_n 6 C dL_tryUndo_5 rfl (by decide) (L' := [(0, _), (1, _)]) rfl ?_
    refine V_ldc 8 C dL_tryUndo_6 rfl tw361 ?_
    refine V_ireturn C dL_tryUndo_8 rfl rfl (by omega) (by omega) ?_
    exact PoL_x gk g0 rfl gS gF
  · rintro _ n1 h1 ⟨g0, rfl, gS, gF⟩
    refine V_ireturn C dL_tryUndo_4 rfl rfl (by omega) (by omega) ?_
    exact PoL_0 g0 gS gF

theorem mL_tryWhy : MW yL_tryWhy cL_tryWhy 3 (some .int) [((0 : Nat), (5 : Nat), (6 : Nat), (13 : Nat))] 2 := ⟨tw746, tw0, ⟨by decide +kernel, by decide +kernel⟩, by decide +kernel, by decide, by decide +kernel, tw745⟩
theorem dL_tryWhy_0 : decode cL_tryWhy 0 = .ok (.aload_n 0, 1) := by decide +kernel
theorem dL_tryWhy_1 : decode cL_tryWhy 1 = .ok (.iload_n 1, 1) := by decide +kernel
theorem dL_tryWhy_2 : decode cL_tryWhy 2 = .ok (.invokevirtual 85, 3) := by decide +kernel
theorem dL_tryWhy_5 : decode cL_tryWhy 5 = .ok (.ireturn, 1) := by decide +kernel
theorem dL_tryWhy_6 : decode cL_tryWhy 6 = .ok (.astore_n 2, 1) := by decide +kernel
theorem dL_tryWhy_7 : decode cL_tryWhy 7 = .ok (.ldc 15, 2) := by decide +kernel
theorem dL_tryWhy_9 : decode cL_tryWhy 9 = .ok (.ireturn, 1) := by decide +kernel
set_option maxRecDepth 100000 in
set_option maxHeartbeats 4000000 in
theorem c_L_tryWhy (l : Launch) (G : GT) (n : Nat) (h : AH) (hl : l.stackTraces = false) (x : Nat) (y : Nat → Nat) (k : Nat) (D S : Nat → Nat → Nat) (sv : Nat → Bool) (N : Nat) (T : Nat → Nat) (hS : SysC x y k D S sv N T h) (hI : SI y k D S sv N T) (p1 : Int32) : CW l yL_tryWhy cL_tryWhy 3 (some .int) [((0 : Nat), (5 : Nat), (6 : Nat), (13 : Nat))] 8 4 24 G n h [.ref x, .int p1] (PoL x h (rv (if ix p1 (y 4) then 0 else 1) (nI (crs y (z p1))) [eI]) y k D S sv N T) := by
  obtain ⟨w0, -⟩ := id hS
  refine CW_of mL_tryWhy (Nat.le_of_ble_eq_true rfl) ?_
  intro p₀ e₀ s₀ m₀ as₀ bl₀ me₀ c₀ C hT
  refine V_Le (L' := [(0, .ref x), (1, .int p1)]) rfl ?_
  refine V_aload_n 1 C dL_tryWhy_0 rfl rfl ?_
  refine V_iload_n 2 C dL_tryWhy_1 rfl rfl ?_
  refine V_callVXH 5 C hT dL_tryWhy_2 rfl mX9_why tw747 fcX9 w0 (c_X9_why l G _ _ hl x y k D S sv N T hS hI p1) rfl rfl (by decide) ⟨by omega, by omega⟩ (Nat.le_of_ble_eq_true rfl) (fun E h1 e1 => ?_) ?_
  · obtain ⟨g0, g1, gS, gF⟩ := e1
    obtain ⟨gk, rfl⟩ := ex_1 g0 g1
    have hz0 : ∀ z ∈ ([] : List (Nat × Nat × Nat × Nat)), z.2.2.2 ≠ 0 ∧ ∃ nm : String, Cond.classLink RL z.2.2.2 nm ∈ TB ∧ (ioE, nm) ∈ ncL := fun z hz => by cases hz
    refine ⟨6, ⟨[], (0, 5, 6, 13), [], rfl, hz0, by decide, by decide, tw567, by decide +kernel, rfl⟩, fun n1 q1 => ?_⟩
    refine V_astore_n 7 C dL_tryWhy_6 rfl (by decide) (L' := [(0, _), (1, _), (2, _)]) rfl ?_
    refine V_ldc 9 C dL_tryWhy_7 rfl tw593 ?_
    refine V_ireturn C dL_tryWhy_9 rfl rfl (by omega) (by omega) ?_
    exact PoL_x gk g0 rfl gS gF
  · rintro _ n1 h1 ⟨g0, rfl, gS, gF⟩
    refine V_ireturn C dL_tryWhy_5 rfl rfl (by omega) (by omega) ?_
    exact PoL_0 g0 gS gF

theorem mL_tryLater : MW yL_tryLater cL_tryLater 4 (some .int) [((0 : Nat), (6 : Nat), (7 : Nat), (13 : Nat)), ((0 : Nat), (6 : Nat), (11 : Nat), (16 : Nat))] 3 := ⟨tw754, tw0, ⟨by decide +kernel, by decide +kernel⟩, by decide +kernel, by decide, by decide +kernel, tw753⟩
theorem dL_tryLater_0 : decode cL_tryLater 0 = .ok (.aload_n 0, 1) := by decide +kernel
theorem dL_tryLater_1 : decode cL_tryLater 1 = .ok (.iload_n 1, 1) := by decide +kernel
theorem dL_tryLater_2 : decode cL_tryLater 2 = .ok (.iload_n 2, 1) := by decide +kernel
theorem dL_tryLater_3 : decode cL_tryLater 3 = .ok (.invokevirtual 88, 3) := by decide +kernel
theorem dL_tryLater_6 : decode cL_tryLater 6 = .ok (.ireturn, 1) := by decide +kernel
theorem dL_tryLater_7 : decode cL_tryLater 7 = .ok (.astore_n 3, 1) := by decide +kernel
theorem dL_tryLater_8 : decode cL_tryLater 8 = .ok (.ldc 15, 2) := by decide +kernel
theorem dL_tryLater_10 : decode cL_tryLater 10 = .ok (.ireturn, 1) := by decide +kernel
theorem dL_tryLater_11 : decode cL_tryLater 11 = .ok (.astore_n 3, 1) := by decide +kernel
theorem dL_tryLater_12 : decode cL_tryLater 12 = .ok (.ldc 18, 2) := by decide +kernel
theorem dL_tryLater_14 : decode cL_tryLater 14 = .ok (.ireturn, 1) := by decide +kernel
set_option maxRecDepth 100000 in
set_option maxHeartbeats 4000000 in
theorem c_L_tryLater (l : Launch) (G : GT) (n : Nat) (h : AH) (hl : l.stackTraces = false) (x : Nat) (y : Nat → Nat) (k : Nat) (D S : Nat → Nat → Nat) (sv : Nat → Bool) (N : Nat) (T : Nat → Nat) (hS : SysC x y k D S sv N T h) (hI : SI y k D S sv N T) (p1 : Int32) (p2 : Int32) : CW l yL_tryLater cL_tryLater 4 (some .int) [((0 : Nat), (6 : Nat), (7 : Nat), (13 : Nat)), ((0 : Nat), (6 : Nat), (11 : Nat), (16 : Nat))] 8 4 24 G n h [.ref x, .int p1, .int p2] (PoL x h (rv (if ix p1 (y 4) then (if ix p2 201 then 0 else 2) else 1) (nI (ers y (z p1) (z p2))) [eI, eA]) y k D S sv N T) := by
  obtain ⟨w0, -⟩ := id hS
  refine CW_of mL_tryLater (Nat.le_of_ble_eq_true rfl) ?_
  intro p₀ e₀ s₀ m₀ as₀ bl₀ me₀ c₀ C hT
  refine V_Le (L' := [(0, .ref x), (1, .int p1), (2, .int p2)]) rfl ?_
  refine V_aload_n 1 C dL_tryLater_0 rfl rfl ?_
  refine V_iload_n 2 C dL_tryLater_1 rfl rfl ?_
  refine V_iload_n 3 C dL_tryLater_2 rfl rfl ?_
  refine V_callVXH 6 C hT dL_tryLater_3 rfl mX9_errorsIn tw755 fcX9 w0 (c_X9_errorsIn l G _ _ hl x y k D S sv N T hS hI p1 p2) rfl rfl (by decide) ⟨by omega, by omega⟩ (Nat.le_of_ble_eq_true rfl) (fun E h1 e1 => ?_) ?_
  · obtain ⟨g0, g1, gS, gF⟩ := e1
    rcases ex_2 g0 g1 with ⟨gk, rfl⟩ | ⟨gk, rfl⟩
    · skip
      have hz0 : ∀ z ∈ ([] : List (Nat × Nat × Nat × Nat)), z.2.2.2 ≠ 0 ∧ ∃ nm : String, Cond.classLink RL z.2.2.2 nm ∈ TB ∧ (ioE, nm) ∈ ncL := fun z hz => by cases hz
      refine ⟨7, ⟨[], (0, 6, 7, 13), [(0, 6, 11, 16)], rfl, hz0, by decide, by decide, tw567, by decide +kernel, rfl⟩, fun n1 q1 => ?_⟩
      refine V_astore_n 8 C dL_tryLater_7 rfl (by decide) (L' := [(0, _), (1, _), (2, _), (3, _)]) rfl ?_
      refine V_ldc 10 C dL_tryLater_8 rfl tw593 ?_
      refine V_ireturn C dL_tryLater_10 rfl rfl (by omega) (by omega) ?_
      exact PoL_x gk g0 rfl gS gF
    · skip
      have hz1 : ∀ z ∈ ([(0, 6, 7, 13)] : List (Nat × Nat × Nat × Nat)), z.2.2.2 ≠ 0 ∧ ∃ nm : String, Cond.classLink RL z.2.2.2 nm ∈ TB ∧ (iaE, nm) ∈ ncL := fun z hz => by
        rcases List.mem_cons.mp hz with rfl | hz
        · exact ⟨by decide, _, tw567, by decide +kernel⟩
        cases hz
      refine ⟨11, ⟨[(0, 6, 7, 13)], (0, 6, 11, 16), [], rfl, hz1, by decide, by decide, tw256, by decide +kernel, rfl⟩, fun n1 q1 => ?_⟩
      refine V_astore_n 12 C dL_tryLater_11 rfl (by decide) (L' := [(0, _), (1, _), (2, _), (3, _)]) rfl ?_
      refine V_ldc 14 C dL_tryLater_12 rfl tw360 ?_
      refine V_ireturn C dL_tryLater_14 rfl rfl (by omega) (by omega) ?_
      exact PoL_x gk g0 rfl gS gF
  · rintro _ n1 h1 ⟨g0, rfl, gS, gF⟩
    refine V_ireturn C dL_tryLater_6 rfl rfl (by omega) (by omega) ?_
    exact PoL_0 g0 gS gF

theorem mL_tryRight : MW yL_tryRight cL_tryRight 3 (some .int) [((0 : Nat), (5 : Nat), (6 : Nat), (13 : Nat))] 2 := ⟨tw761, tw0, ⟨by decide +kernel, by decide +kernel⟩, by decide +kernel, by decide, by decide +kernel, tw760⟩
theorem dL_tryRight_0 : decode cL_tryRight 0 = .ok (.aload_n 0, 1) := by decide +kernel
theorem dL_tryRight_1 : decode cL_tryRight 1 = .ok (.iload_n 1, 1) := by decide +kernel
theorem dL_tryRight_2 : decode cL_tryRight 2 = .ok (.invokevirtual 91, 3) := by decide +kernel
theorem dL_tryRight_5 : decode cL_tryRight 5 = .ok (.ireturn, 1) := by decide +kernel
theorem dL_tryRight_6 : decode cL_tryRight 6 = .ok (.astore_n 2, 1) := by decide +kernel
theorem dL_tryRight_7 : decode cL_tryRight 7 = .ok (.ldc 15, 2) := by decide +kernel
theorem dL_tryRight_9 : decode cL_tryRight 9 = .ok (.ireturn, 1) := by decide +kernel
set_option maxRecDepth 100000 in
set_option maxHeartbeats 4000000 in
theorem c_L_tryRight (l : Launch) (G : GT) (n : Nat) (h : AH) (hl : l.stackTraces = false) (x : Nat) (y : Nat → Nat) (k : Nat) (D S : Nat → Nat → Nat) (sv : Nat → Bool) (N : Nat) (T : Nat → Nat) (hS : SysC x y k D S sv N T h) (hI : SI y k D S sv N T) (p1 : Int32) : CW l yL_tryRight cL_tryRight 3 (some .int) [((0 : Nat), (5 : Nat), (6 : Nat), (13 : Nat))] 8 4 24 G n h [.ref x, .int p1] (PoL x h (rv (if ix p1 (y 4) then 0 else 1) (nI (rgt y (z p1) 200 1)) [eI]) y k D S sv N T) := by
  obtain ⟨w0, -⟩ := id hS
  refine CW_of mL_tryRight (Nat.le_of_ble_eq_true rfl) ?_
  intro p₀ e₀ s₀ m₀ as₀ bl₀ me₀ c₀ C hT
  refine V_Le (L' := [(0, .ref x), (1, .int p1)]) rfl ?_
  refine V_aload_n 1 C dL_tryRight_0 rfl rfl ?_
  refine V_iload_n 2 C dL_tryRight_1 rfl rfl ?_
  refine V_callVXH 5 C hT dL_tryRight_2 rfl mX9_rightFor tw762 fcX9 w0 (c_X9_rightFor l G _ _ hl x y k D S sv N T hS hI p1) rfl rfl (by decide) ⟨by omega, by omega⟩ (Nat.le_of_ble_eq_true rfl) (fun E h1 e1 => ?_) ?_
  · obtain ⟨g0, g1, gS, gF⟩ := e1
    obtain ⟨gk, rfl⟩ := ex_1 g0 g1
    have hz0 : ∀ z ∈ ([] : List (Nat × Nat × Nat × Nat)), z.2.2.2 ≠ 0 ∧ ∃ nm : String, Cond.classLink RL z.2.2.2 nm ∈ TB ∧ (ioE, nm) ∈ ncL := fun z hz => by cases hz
    refine ⟨6, ⟨[], (0, 5, 6, 13), [], rfl, hz0, by decide, by decide, tw567, by decide +kernel, rfl⟩, fun n1 q1 => ?_⟩
    refine V_astore_n 7 C dL_tryRight_6 rfl (by decide) (L' := [(0, _), (1, _), (2, _)]) rfl ?_
    refine V_ldc 9 C dL_tryRight_7 rfl tw593 ?_
    refine V_ireturn C dL_tryRight_9 rfl rfl (by omega) (by omega) ?_
    exact PoL_x gk g0 rfl gS gF
  · rintro _ n1 h1 ⟨g0, rfl, gS, gF⟩
    refine V_ireturn C dL_tryRight_5 rfl rfl (by omega) (by omega) ?_
    exact PoL_0 g0 gS gF

theorem mL_tryRoute : MW yL_tryRoute cL_tryRoute 5 (some .int) [((0 : Nat), (7 : Nat), (8 : Nat), (13 : Nat)), ((0 : Nat), (7 : Nat), (13 : Nat), (16 : Nat))] 4 := ⟨tw768, tw0, ⟨by decide +kernel, by decide +kernel⟩, by decide +kernel, by decide, by decide +kernel, tw767⟩
theorem dL_tryRoute_0 : decode cL_tryRoute 0 = .ok (.aload_n 0, 1) := by decide +kernel
theorem dL_tryRoute_1 : decode cL_tryRoute 1 = .ok (.iload_n 1, 1) := by decide +kernel
theorem dL_tryRoute_2 : decode cL_tryRoute 2 = .ok (.iload_n 2, 1) := by decide +kernel
theorem dL_tryRoute_3 : decode cL_tryRoute 3 = .ok (.iload_n 3, 1) := by decide +kernel
theorem dL_tryRoute_4 : decode cL_tryRoute 4 = .ok (.invokevirtual 94, 3) := by decide +kernel
theorem dL_tryRoute_7 : decode cL_tryRoute 7 = .ok (.ireturn, 1) := by decide +kernel
theorem dL_tryRoute_8 : decode cL_tryRoute 8 = .ok (.astore 4, 2) := by decide +kernel
theorem dL_tryRoute_10 : decode cL_tryRoute 10 = .ok (.ldc 15, 2) := by decide +kernel
theorem dL_tryRoute_12 : decode cL_tryRoute 12 = .ok (.ireturn, 1) := by decide +kernel
theorem dL_tryRoute_13 : decode cL_tryRoute 13 = .ok (.astore 4, 2) := by decide +kernel
theorem dL_tryRoute_15 : decode cL_tryRoute 15 = .ok (.ldc 18, 2) := by decide +kernel
theorem dL_tryRoute_17 : decode cL_tryRoute 17 = .ok (.ireturn, 1) := by decide +kernel
set_option maxRecDepth 100000 in
set_option maxHeartbeats 4000000 in
theorem c_L_tryRoute (l : Launch) (G : GT) (n : Nat) (h : AH) (hl : l.stackTraces = false) (x : Nat) (y : Nat → Nat) (k : Nat) (D S : Nat → Nat → Nat) (sv : Nat → Bool) (N : Nat) (T : Nat → Nat) (hS : SysC x y k D S sv N T h) (hI : SI y k D S sv N T) (p1 : Int32) (p2 : Int32) (p3 : Int32) : CW l yL_tryRoute cL_tryRoute 5 (some .int) [((0 : Nat), (7 : Nat), (8 : Nat), (13 : Nat)), ((0 : Nat), (7 : Nat), (13 : Nat), (16 : Nat))] 8 4 24 G n h [.ref x, .int p1, .int p2, .int p3] (PoL x h (rv (if ix p1 (y 0) ∧ ix p2 (y 0) then (if ix p3 2 then 0 else 2) else 1) (nI (mo (dst y (z p1) (z p2)))) [eI, eA]) y k D S sv N T) := by
  obtain ⟨w0, -⟩ := id hS
  refine CW_of mL_tryRoute (Nat.le_of_ble_eq_true rfl) ?_
  intro p₀ e₀ s₀ m₀ as₀ bl₀ me₀ c₀ C hT
  refine V_Le (L' := [(0, .ref x), (1, .int p1), (2, .int p2), (3, .int p3)]) rfl ?_
  refine V_aload_n 1 C dL_tryRoute_0 rfl rfl ?_
  refine V_iload_n 2 C dL_tryRoute_1 rfl rfl ?_
  refine V_iload_n 3 C dL_tryRoute_2 rfl rfl ?_
  refine V_iload_n 4 C dL_tryRoute_3 rfl rfl ?_
  refine V_callVXH 7 C hT dL_tryRoute_4 rfl mX9_route tw769 fcX9 w0 (c_X9_route l G _ _ hl x y k D S sv N T hS hI p1 p2 p3) rfl rfl (by decide) ⟨by omega, by omega⟩ (Nat.le_of_ble_eq_true rfl) (fun E h1 e1 => ?_) ?_
  · obtain ⟨g0, g1, gS, gF⟩ := e1
    rcases ex_2 g0 g1 with ⟨gk, rfl⟩ | ⟨gk, rfl⟩
    · skip
      have hz0 : ∀ z ∈ ([] : List (Nat × Nat × Nat × Nat)), z.2.2.2 ≠ 0 ∧ ∃ nm : String, Cond.classLink RL z.2.2.2 nm ∈ TB ∧ (ioE, nm) ∈ ncL := fun z hz => by cases hz
      refine ⟨8, ⟨[], (0, 7, 8, 13), [(0, 7, 13, 16)], rfl, hz0, by decide, by decide, tw567, by decide +kernel, rfl⟩, fun n1 q1 => ?_⟩
      refine V_astore 10 C dL_tryRoute_8 rfl (by decide) (L' := [(0, _), (1, _), (2, _), (3, _), (4, _)]) rfl ?_
      refine V_ldc 12 C dL_tryRoute_10 rfl tw593 ?_
      refine V_ireturn C dL_tryRoute_12 rfl rfl (by omega) (by omega) ?_
      exact PoL_x gk g0 rfl gS gF
    · skip
      have hz1 : ∀ z ∈ ([(0, 7, 8, 13)] : List (Nat × Nat × Nat × Nat)), z.2.2.2 ≠ 0 ∧ ∃ nm : String, Cond.classLink RL z.2.2.2 nm ∈ TB ∧ (iaE, nm) ∈ ncL := fun z hz => by
        rcases List.mem_cons.mp hz with rfl | hz
        · exact ⟨by decide, _, tw567, by decide +kernel⟩
        cases hz
      refine ⟨13, ⟨[(0, 7, 8, 13)], (0, 7, 13, 16), [], rfl, hz1, by decide, by decide, tw256, by decide +kernel, rfl⟩, fun n1 q1 => ?_⟩
      refine V_astore 15 C dL_tryRoute_13 rfl (by decide) (L' := [(0, _), (1, _), (2, _), (3, _), (4, _)]) rfl ?_
      refine V_ldc 17 C dL_tryRoute_15 rfl tw360 ?_
      refine V_ireturn C dL_tryRoute_17 rfl rfl (by omega) (by omega) ?_
      exact PoL_x gk g0 rfl gS gF
  · rintro _ n1 h1 ⟨g0, rfl, gS, gF⟩
    refine V_ireturn C dL_tryRoute_7 rfl rfl (by omega) (by omega) ?_
    exact PoL_0 g0 gS gF

theorem mL_tryNext : MW yL_tryNext cL_tryNext 4 (some .int) [((0 : Nat), (6 : Nat), (7 : Nat), (13 : Nat))] 3 := ⟨tw807, tw0, ⟨by decide +kernel, by decide +kernel⟩, by decide +kernel, by decide, by decide +kernel, tw806⟩
theorem dL_tryNext_0 : decode cL_tryNext 0 = .ok (.aload_n 0, 1) := by decide +kernel
theorem dL_tryNext_1 : decode cL_tryNext 1 = .ok (.iload_n 1, 1) := by decide +kernel
theorem dL_tryNext_2 : decode cL_tryNext 2 = .ok (.iload_n 2, 1) := by decide +kernel
theorem dL_tryNext_3 : decode cL_tryNext 3 = .ok (.invokevirtual 97, 3) := by decide +kernel
theorem dL_tryNext_6 : decode cL_tryNext 6 = .ok (.ireturn, 1) := by decide +kernel
theorem dL_tryNext_7 : decode cL_tryNext 7 = .ok (.astore_n 3, 1) := by decide +kernel
theorem dL_tryNext_8 : decode cL_tryNext 8 = .ok (.ldc 15, 2) := by decide +kernel
theorem dL_tryNext_10 : decode cL_tryNext 10 = .ok (.ireturn, 1) := by decide +kernel
set_option maxRecDepth 100000 in
set_option maxHeartbeats 4000000 in
theorem c_L_tryNext (l : Launch) (G : GT) (n : Nat) (h : AH) (hl : l.stackTraces = false) (x : Nat) (y : Nat → Nat) (k : Nat) (D S : Nat → Nat → Nat) (sv : Nat → Bool) (N : Nat) (T : Nat → Nat) (hS : SysC x y k D S sv N T h) (hI : SI y k D S sv N T) (p1 : Int32) (p2 : Int32) : CW l yL_tryNext cL_tryNext 4 (some .int) [((0 : Nat), (6 : Nat), (7 : Nat), (13 : Nat))] 8 4 24 G n h [.ref x, .int p1, .int p2] (PoL x h (rv (if ix p1 (y 0) ∧ ix p2 (y 0) then 0 else 1) (nI (rto y (z p1) (z p2))) [eI]) y k D S sv N T) := by
  obtain ⟨w0, -⟩ := id hS
  refine CW_of mL_tryNext (Nat.le_of_ble_eq_true rfl) ?_
  intro p₀ e₀ s₀ m₀ as₀ bl₀ me₀ c₀ C hT
  refine V_Le (L' := [(0, .ref x), (1, .int p1), (2, .int p2)]) rfl ?_
  refine V_aload_n 1 C dL_tryNext_0 rfl rfl ?_
  refine V_iload_n 2 C dL_tryNext_1 rfl rfl ?_
  refine V_iload_n 3 C dL_tryNext_2 rfl rfl ?_
  refine V_callVXH 6 C hT dL_tryNext_3 rfl mX9_roadTo tw808 fcX9 w0 (c_X9_roadTo l G _ _ hl x y k D S sv N T hS hI p1 p2) rfl rfl (by decide) ⟨by omega, by omega⟩ (Nat.le_of_ble_eq_true rfl) (fun E h1 e1 => ?_) ?_
  · obtain ⟨g0, g1, gS, gF⟩ := e1
    obtain ⟨gk, rfl⟩ := ex_1 g0 g1
    have hz0 : ∀ z ∈ ([] : List (Nat × Nat × Nat × Nat)), z.2.2.2 ≠ 0 ∧ ∃ nm : String, Cond.classLink RL z.2.2.2 nm ∈ TB ∧ (ioE, nm) ∈ ncL := fun z hz => by cases hz
    refine ⟨7, ⟨[], (0, 6, 7, 13), [], rfl, hz0, by decide, by decide, tw567, by decide +kernel, rfl⟩, fun n1 q1 => ?_⟩
    refine V_astore_n 8 C dL_tryNext_7 rfl (by decide) (L' := [(0, _), (1, _), (2, _), (3, _)]) rfl ?_
    refine V_ldc 10 C dL_tryNext_8 rfl tw593 ?_
    refine V_ireturn C dL_tryNext_10 rfl rfl (by omega) (by omega) ?_
    exact PoL_x gk g0 rfl gS gF
  · rintro _ n1 h1 ⟨g0, rfl, gS, gF⟩
    refine V_ireturn C dL_tryNext_6 rfl rfl (by omega) (by omega) ?_
    exact PoL_0 g0 gS gF

theorem mL_tryBring : MW yL_tryBring cL_tryBring 4 (some .int) [((0 : Nat), (6 : Nat), (7 : Nat), (13 : Nat))] 3 := ⟨tw818, tw0, ⟨by decide +kernel, by decide +kernel⟩, by decide +kernel, by decide, by decide +kernel, tw817⟩
theorem dL_tryBring_0 : decode cL_tryBring 0 = .ok (.aload_n 0, 1) := by decide +kernel
theorem dL_tryBring_1 : decode cL_tryBring 1 = .ok (.iload_n 1, 1) := by decide +kernel
theorem dL_tryBring_2 : decode cL_tryBring 2 = .ok (.iload_n 2, 1) := by decide +kernel
theorem dL_tryBring_3 : decode cL_tryBring 3 = .ok (.invokevirtual 100, 3) := by decide +kernel
theorem dL_tryBring_6 : decode cL_tryBring 6 = .ok (.ireturn, 1) := by decide +kernel
theorem dL_tryBring_7 : decode cL_tryBring 7 = .ok (.astore_n 3, 1) := by decide +kernel
theorem dL_tryBring_8 : decode cL_tryBring 8 = .ok (.ldc 15, 2) := by decide +kernel
theorem dL_tryBring_10 : decode cL_tryBring 10 = .ok (.ireturn, 1) := by decide +kernel
set_option maxRecDepth 100000 in
set_option maxHeartbeats 4000000 in
theorem c_L_tryBring (l : Launch) (G : GT) (n : Nat) (h : AH) (hl : l.stackTraces = false) (x : Nat) (y : Nat → Nat) (k : Nat) (D S : Nat → Nat → Nat) (sv : Nat → Bool) (N : Nat) (T : Nat → Nat) (hS : SysC x y k D S sv N T h) (hI : SI y k D S sv N T) (p1 : Int32) (p2 : Int32) : CW l yL_tryBring cL_tryBring 4 (some .int) [((0 : Nat), (6 : Nat), (7 : Nat), (13 : Nat))] 8 4 24 G n h [.ref x, .int p1, .int p2] (PoL x h (rv (if ix p1 (y 4) ∧ ix p2 (y 0) then 0 else 1) (nI (qIb y (z p1) (z p2))) [eI]) y k D S sv N T) := by
  obtain ⟨w0, -⟩ := id hS
  refine CW_of mL_tryBring (Nat.le_of_ble_eq_true rfl) ?_
  intro p₀ e₀ s₀ m₀ as₀ bl₀ me₀ c₀ C hT
  refine V_Le (L' := [(0, .ref x), (1, .int p1), (2, .int p2)]) rfl ?_
  refine V_aload_n 1 C dL_tryBring_0 rfl rfl ?_
  refine V_iload_n 2 C dL_tryBring_1 rfl rfl ?_
  refine V_iload_n 3 C dL_tryBring_2 rfl rfl ?_
  refine V_callVXH 6 C hT dL_tryBring_3 rfl mX9_ifBrought tw819 fcX9 w0 (c_X9_ifBrought l G _ _ hl x y k D S sv N T hS hI p1 p2) rfl rfl (by decide) ⟨by omega, by omega⟩ (Nat.le_of_ble_eq_true rfl) (fun E h1 e1 => ?_) ?_
  · obtain ⟨g0, g1, gS, gF⟩ := e1
    obtain ⟨gk, rfl⟩ := ex_1 g0 g1
    have hz0 : ∀ z ∈ ([] : List (Nat × Nat × Nat × Nat)), z.2.2.2 ≠ 0 ∧ ∃ nm : String, Cond.classLink RL z.2.2.2 nm ∈ TB ∧ (ioE, nm) ∈ ncL := fun z hz => by cases hz
    refine ⟨7, ⟨[], (0, 6, 7, 13), [], rfl, hz0, by decide, by decide, tw567, by decide +kernel, rfl⟩, fun n1 q1 => ?_⟩
    refine V_astore_n 8 C dL_tryBring_7 rfl (by decide) (L' := [(0, _), (1, _), (2, _), (3, _)]) rfl ?_
    refine V_ldc 10 C dL_tryBring_8 rfl tw593 ?_
    refine V_ireturn C dL_tryBring_10 rfl rfl (by omega) (by omega) ?_
    exact PoL_x gk g0 rfl gS gF
  · rintro _ n1 h1 ⟨g0, rfl, gS, gF⟩
    refine V_ireturn C dL_tryBring_6 rfl rfl (by omega) (by omega) ?_
    exact PoL_0 g0 gS gF

theorem mL_tryBest : MW yL_tryBest cL_tryBest 3 (some .int) [((0 : Nat), (5 : Nat), (6 : Nat), (13 : Nat))] 2 := ⟨tw825, tw0, ⟨by decide +kernel, by decide +kernel⟩, by decide +kernel, by decide, by decide +kernel, tw824⟩
theorem dL_tryBest_0 : decode cL_tryBest 0 = .ok (.aload_n 0, 1) := by decide +kernel
theorem dL_tryBest_1 : decode cL_tryBest 1 = .ok (.iload_n 1, 1) := by decide +kernel
theorem dL_tryBest_2 : decode cL_tryBest 2 = .ok (.invokevirtual 103, 3) := by decide +kernel
theorem dL_tryBest_5 : decode cL_tryBest 5 = .ok (.ireturn, 1) := by decide +kernel
theorem dL_tryBest_6 : decode cL_tryBest 6 = .ok (.astore_n 2, 1) := by decide +kernel
theorem dL_tryBest_7 : decode cL_tryBest 7 = .ok (.ldc 15, 2) := by decide +kernel
theorem dL_tryBest_9 : decode cL_tryBest 9 = .ok (.ireturn, 1) := by decide +kernel
set_option maxRecDepth 100000 in
set_option maxHeartbeats 4000000 in
theorem c_L_tryBest (l : Launch) (G : GT) (n : Nat) (h : AH) (hl : l.stackTraces = false) (x : Nat) (y : Nat → Nat) (k : Nat) (D S : Nat → Nat → Nat) (sv : Nat → Bool) (N : Nat) (T : Nat → Nat) (hS : SysC x y k D S sv N T h) (hI : SI y k D S sv N T) (p1 : Int32) : CW l yL_tryBest cL_tryBest 3 (some .int) [((0 : Nat), (5 : Nat), (6 : Nat), (13 : Nat))] 8 4 24 G n h [.ref x, .int p1] (PoL x h (rv (if ix p1 (y 3) then 0 else 1) (nI (bestk y (z p1) (y 4))) [eI]) y k D S sv N T) := by
  obtain ⟨w0, -⟩ := id hS
  refine CW_of mL_tryBest (Nat.le_of_ble_eq_true rfl) ?_
  intro p₀ e₀ s₀ m₀ as₀ bl₀ me₀ c₀ C hT
  refine V_Le (L' := [(0, .ref x), (1, .int p1)]) rfl ?_
  refine V_aload_n 1 C dL_tryBest_0 rfl rfl ?_
  refine V_iload_n 2 C dL_tryBest_1 rfl rfl ?_
  refine V_callVXH 5 C hT dL_tryBest_2 rfl mX9_best tw826 fcX9 w0 (c_X9_best l G _ _ hl x y k D S sv N T hS hI p1) rfl rfl (by decide) ⟨by omega, by omega⟩ (Nat.le_of_ble_eq_true rfl) (fun E h1 e1 => ?_) ?_
  · obtain ⟨g0, g1, gS, gF⟩ := e1
    obtain ⟨gk, rfl⟩ := ex_1 g0 g1
    have hz0 : ∀ z ∈ ([] : List (Nat × Nat × Nat × Nat)), z.2.2.2 ≠ 0 ∧ ∃ nm : String, Cond.classLink RL z.2.2.2 nm ∈ TB ∧ (ioE, nm) ∈ ncL := fun z hz => by cases hz
    refine ⟨6, ⟨[], (0, 5, 6, 13), [], rfl, hz0, by decide, by decide, tw567, by decide +kernel, rfl⟩, fun n1 q1 => ?_⟩
    refine V_astore_n 7 C dL_tryBest_6 rfl (by decide) (L' := [(0, _), (1, _), (2, _)]) rfl ?_
    refine V_ldc 9 C dL_tryBest_7 rfl tw593 ?_
    refine V_ireturn C dL_tryBest_9 rfl rfl (by omega) (by omega) ?_
    exact PoL_x gk g0 rfl gS gF
  · rintro _ n1 h1 ⟨g0, rfl, gS, gF⟩
    refine V_ireturn C dL_tryBest_5 rfl rfl (by omega) (by omega) ?_
    exact PoL_0 g0 gS gF

theorem mL_doScript : MW yL_doScript cL_doScript 5 (some .int) [((0 : Nat), (6 : Nat), (7 : Nat), (16 : Nat))] 3 := ⟨tw883, tw0, ⟨by decide +kernel, by decide +kernel⟩, by decide +kernel, by decide, by decide +kernel, tw882⟩
theorem dL_doScript_0 : decode cL_doScript 0 = .ok (.aload_n 0, 1) := by decide +kernel
theorem dL_doScript_1 : decode cL_doScript 1 = .ok (.iload_n 1, 1) := by decide +kernel
theorem dL_doScript_2 : decode cL_doScript 2 = .ok (.lload_n 2, 1) := by decide +kernel
theorem dL_doScript_3 : decode cL_doScript 3 = .ok (.invokevirtual 19, 3) := by decide +kernel
theorem dL_doScript_6 : decode cL_doScript 6 = .ok (.ireturn, 1) := by decide +kernel
theorem dL_doScript_7 : decode cL_doScript 7 = .ok (.astore 4, 2) := by decide +kernel
theorem dL_doScript_9 : decode cL_doScript 9 = .ok (.ldc 18, 2) := by decide +kernel
theorem dL_doScript_11 : decode cL_doScript 11 = .ok (.ireturn, 1) := by decide +kernel
set_option maxRecDepth 100000 in
set_option maxHeartbeats 4000000 in
theorem c_L_doScript (l : Launch) (G : GT) (n : Nat) (h : AH) (hl : l.stackTraces = false) (x : Nat) (y : Nat → Nat) (k : Nat) (D S : Nat → Nat → Nat) (sv : Nat → Bool) (N : Nat) (T : Nat → Nat) (hS : SysC x y k D S sv N T h) (hI : SI y k D S sv N T) (p1 : Int32) (p2 : Int64) : CW l yL_doScript cL_doScript 5 (some .int) [((0 : Nat), (6 : Nat), (7 : Nat), (16 : Nat))] 9 4 24 G n h [.ref x, .int p1, .long p2] (PoL x h (rv (if (1 ≤ p1.toInt ∧ p1.toInt ≤ 3) ∧ (0 ≤ p2.toInt ∧ wz p2 < 100000 ^ z p1) then 0 else 1) (nI (scr (wz p2) (z p1) (z p1) 0 y)) [eA]) y k D S sv N T) := by
  obtain ⟨w0, -⟩ := id hS
  refine CW_of mL_doScript (Nat.le_of_ble_eq_true rfl) ?_
  intro p₀ e₀ s₀ m₀ as₀ bl₀ me₀ c₀ C hT
  refine V_Le (L' := [(0, .ref x), (1, .int p1), (2, .long p2)]) rfl ?_
  refine V_aload_n 1 C dL_doScript_0 rfl rfl ?_
  refine V_iload_n 2 C dL_doScript_1 rfl rfl ?_
  refine V_lload_n 3 C dL_doScript_2 rfl rfl ?_
  refine V_callVXH 6 C hT dL_doScript_3 rfl mX9_runScript tw884 fcX9 w0 (c_X9_runScript l G _ _ hl x y k D S sv N T hS hI p1 p2) rfl rfl (by decide) ⟨by omega, by omega⟩ (Nat.le_of_ble_eq_true rfl) (fun E h1 e1 => ?_) ?_
  · obtain ⟨g0, g1, gS, gF⟩ := e1
    obtain ⟨gk, rfl⟩ := ex_1 g0 g1
    have hz0 : ∀ z ∈ ([] : List (Nat × Nat × Nat × Nat)), z.2.2.2 ≠ 0 ∧ ∃ nm : String, Cond.classLink RL z.2.2.2 nm ∈ TB ∧ (iaE, nm) ∈ ncL := fun z hz => by cases hz
    refine ⟨7, ⟨[], (0, 6, 7, 16), [], rfl, hz0, by decide, by decide, tw256, by decide +kernel, rfl⟩, fun n1 q1 => ?_⟩
    refine V_astore 9 C dL_doScript_7 rfl (by decide) (L' := [(0, _), (1, _), (2, _), (4, _)]) rfl ?_
    refine V_ldc 11 C dL_doScript_9 rfl tw360 ?_
    refine V_ireturn C dL_doScript_11 rfl rfl (by omega) (by omega) ?_
    exact PoL_x gk g0 rfl gS gF
  · rintro _ n1 h1 ⟨g0, rfl, gS, gF⟩
    refine V_ireturn C dL_doScript_6 rfl rfl (by omega) (by omega) ?_
    exact PoL_0 g0 gS gF

theorem mL_doSimulate : MW yL_doSimulate cL_doSimulate 5 (some .int) [((0 : Nat), (6 : Nat), (7 : Nat), (16 : Nat))] 3 := ⟨tw914, tw0, ⟨by decide +kernel, by decide +kernel⟩, by decide +kernel, by decide, by decide +kernel, tw913⟩
theorem dL_doSimulate_0 : decode cL_doSimulate 0 = .ok (.aload_n 0, 1) := by decide +kernel
theorem dL_doSimulate_1 : decode cL_doSimulate 1 = .ok (.lload_n 1, 1) := by decide +kernel
theorem dL_doSimulate_2 : decode cL_doSimulate 2 = .ok (.iload_n 3, 1) := by decide +kernel
theorem dL_doSimulate_3 : decode cL_doSimulate 3 = .ok (.invokevirtual 23, 3) := by decide +kernel
theorem dL_doSimulate_6 : decode cL_doSimulate 6 = .ok (.ireturn, 1) := by decide +kernel
theorem dL_doSimulate_7 : decode cL_doSimulate 7 = .ok (.astore 4, 2) := by decide +kernel
theorem dL_doSimulate_9 : decode cL_doSimulate 9 = .ok (.ldc 18, 2) := by decide +kernel
theorem dL_doSimulate_11 : decode cL_doSimulate 11 = .ok (.ireturn, 1) := by decide +kernel
set_option maxRecDepth 100000 in
set_option maxHeartbeats 4000000 in
theorem c_L_doSimulate (l : Launch) (G : GT) (n : Nat) (h : AH) (hl : l.stackTraces = false) (x : Nat) (y : Nat → Nat) (k : Nat) (D S : Nat → Nat → Nat) (sv : Nat → Bool) (N : Nat) (T : Nat → Nat) (hS : SysC x y k D S sv N T h) (hI : SI y k D S sv N T) (p1 : Int64) (p2 : Int32) : CW l yL_doSimulate cL_doSimulate 5 (some .int) [((0 : Nat), (6 : Nat), (7 : Nat), (16 : Nat))] 8 4 24 G n h [.ref x, .long p1, .int p2] (PoL x h (rv (if 1 ≤ p2.toInt ∧ p2.toInt ≤ 60 then 0 else 1) (nI (smA (trk p1 y (z p2)))) [eA]) y k D S sv N T) := by
  obtain ⟨w0, -⟩ := id hS
  refine CW_of mL_doSimulate (Nat.le_of_ble_eq_true rfl) ?_
  intro p₀ e₀ s₀ m₀ as₀ bl₀ me₀ c₀ C hT
  refine V_Le (L' := [(0, .ref x), (1, .long p1), (3, .int p2)]) rfl ?_
  refine V_aload_n 1 C dL_doSimulate_0 rfl rfl ?_
  refine V_lload_n 2 C dL_doSimulate_1 rfl rfl ?_
  refine V_iload_n 3 C dL_doSimulate_2 rfl rfl ?_
  refine V_callVXH 6 C hT dL_doSimulate_3 rfl mX9_simulate tw915 fcX9 w0 (c_X9_simulate l G _ _ hl x y k D S sv N T hS hI p1 p2) rfl rfl (by decide) ⟨by omega, by omega⟩ (Nat.le_of_ble_eq_true rfl) (fun E h1 e1 => ?_) ?_
  · obtain ⟨g0, g1, gS, gF⟩ := e1
    obtain ⟨gk, rfl⟩ := ex_1 g0 g1
    have hz0 : ∀ z ∈ ([] : List (Nat × Nat × Nat × Nat)), z.2.2.2 ≠ 0 ∧ ∃ nm : String, Cond.classLink RL z.2.2.2 nm ∈ TB ∧ (iaE, nm) ∈ ncL := fun z hz => by cases hz
    refine ⟨7, ⟨[], (0, 6, 7, 16), [], rfl, hz0, by decide, by decide, tw256, by decide +kernel, rfl⟩, fun n1 q1 => ?_⟩
    refine V_astore 9 C dL_doSimulate_7 rfl (by decide) (L' := [(0, _), (1, _), (3, _), (4, _)]) rfl ?_
    refine V_ldc 11 C dL_doSimulate_9 rfl tw360 ?_
    refine V_ireturn C dL_doSimulate_11 rfl rfl (by omega) (by omega) ?_
    exact PoL_x gk g0 rfl gS gF
  · rintro _ n1 h1 ⟨g0, rfl, gS, gF⟩
    refine V_ireturn C dL_doSimulate_6 rfl rfl (by omega) (by omega) ?_
    exact PoL_0 g0 gS gF

theorem mL_tryKeep : MW yL_tryKeep cL_tryKeep 3 (some .int) [((0 : Nat), (5 : Nat), (6 : Nat), (13 : Nat))] 2 := ⟨tw840, tw0, ⟨by decide +kernel, by decide +kernel⟩, by decide +kernel, by decide, by decide +kernel, tw839⟩
theorem dL_tryKeep_0 : decode cL_tryKeep 0 = .ok (.aload_n 0, 1) := by decide +kernel
theorem dL_tryKeep_1 : decode cL_tryKeep 1 = .ok (.iload_n 1, 1) := by decide +kernel
theorem dL_tryKeep_2 : decode cL_tryKeep 2 = .ok (.invokevirtual 106, 3) := by decide +kernel
theorem dL_tryKeep_5 : decode cL_tryKeep 5 = .ok (.ireturn, 1) := by decide +kernel
theorem dL_tryKeep_6 : decode cL_tryKeep 6 = .ok (.astore_n 2, 1) := by decide +kernel
theorem dL_tryKeep_7 : decode cL_tryKeep 7 = .ok (.ldc 15, 2) := by decide +kernel
theorem dL_tryKeep_9 : decode cL_tryKeep 9 = .ok (.ireturn, 1) := by decide +kernel
set_option maxRecDepth 100000 in
set_option maxHeartbeats 4000000 in
theorem c_L_tryKeep (l : Launch) (G : GT) (n : Nat) (h : AH) (hl : l.stackTraces = false) (x : Nat) (y : Nat → Nat) (k : Nat) (D S : Nat → Nat → Nat) (sv : Nat → Bool) (N : Nat) (T : Nat → Nat) (hS : SysC x y k D S sv N T h) (hI : SI y k D S sv N T) (p1 : Int32) : CW l yL_tryKeep cL_tryKeep 3 (some .int) [((0 : Nat), (5 : Nat), (6 : Nat), (13 : Nat))] 8 4 24 G n h [.ref x, .int p1] (PoL x h (rv (if ix p1 2 then 0 else 1) (nI (y 5)) [eI]) y k D (sA (if ix p1 2 then 0 else 1) (z p1) y S) (sB (if ix p1 2 then 0 else 1) (z p1) sv) N T) := by
  obtain ⟨w0, -⟩ := id hS
  refine CW_of mL_tryKeep (Nat.le_of_ble_eq_true rfl) ?_
  intro p₀ e₀ s₀ m₀ as₀ bl₀ me₀ c₀ C hT
  refine V_Le (L' := [(0, .ref x), (1, .int p1)]) rfl ?_
  refine V_aload_n 1 C dL_tryKeep_0 rfl rfl ?_
  refine V_iload_n 2 C dL_tryKeep_1 rfl rfl ?_
  refine V_callVXH 5 C hT dL_tryKeep_2 rfl mX9_save tw841 fcX9 w0 (c_X9_save l G _ _ hl x y k D S sv N T hS hI p1) rfl rfl (by decide) ⟨by omega, by omega⟩ (Nat.le_of_ble_eq_true rfl) (fun E h1 e1 => ?_) ?_
  · obtain ⟨g0, g1, gS, gF⟩ := e1
    obtain ⟨gk, rfl⟩ := ex_1 g0 g1
    have hz0 : ∀ z ∈ ([] : List (Nat × Nat × Nat × Nat)), z.2.2.2 ≠ 0 ∧ ∃ nm : String, Cond.classLink RL z.2.2.2 nm ∈ TB ∧ (ioE, nm) ∈ ncL := fun z hz => by cases hz
    refine ⟨6, ⟨[], (0, 5, 6, 13), [], rfl, hz0, by decide, by decide, tw567, by decide +kernel, rfl⟩, fun n1 q1 => ?_⟩
    refine V_astore_n 7 C dL_tryKeep_6 rfl (by decide) (L' := [(0, _), (1, _), (2, _)]) rfl ?_
    refine V_ldc 9 C dL_tryKeep_7 rfl tw593 ?_
    refine V_ireturn C dL_tryKeep_9 rfl rfl (by omega) (by omega) ?_
    exact PoL_x gk g0 rfl gS gF
  · rintro _ n1 h1 ⟨g0, rfl, gS, gF⟩
    refine V_ireturn C dL_tryKeep_5 rfl rfl (by omega) (by omega) ?_
    exact PoL_0 g0 gS gF

theorem mL_tryBack : MW yL_tryBack cL_tryBack 3 (some .int) [((0 : Nat), (5 : Nat), (6 : Nat), (13 : Nat)), ((0 : Nat), (5 : Nat), (10 : Nat), (31 : Nat))] 2 := ⟨tw848, tw0, ⟨by decide +kernel, by decide +kernel⟩, by decide +kernel, by decide, by decide +kernel, tw847⟩
theorem dL_tryBack_0 : decode cL_tryBack 0 = .ok (.aload_n 0, 1) := by decide +kernel
theorem dL_tryBack_1 : decode cL_tryBack 1 = .ok (.iload_n 1, 1) := by decide +kernel
theorem dL_tryBack_2 : decode cL_tryBack 2 = .ok (.invokevirtual 109, 3) := by decide +kernel
theorem dL_tryBack_5 : decode cL_tryBack 5 = .ok (.ireturn, 1) := by decide +kernel
theorem dL_tryBack_6 : decode cL_tryBack 6 = .ok (.astore_n 2, 1) := by decide +kernel
theorem dL_tryBack_7 : decode cL_tryBack 7 = .ok (.ldc 15, 2) := by decide +kernel
theorem dL_tryBack_9 : decode cL_tryBack 9 = .ok (.ireturn, 1) := by decide +kernel
theorem dL_tryBack_10 : decode cL_tryBack 10 = .ok (.astore_n 2, 1) := by decide +kernel
theorem dL_tryBack_11 : decode cL_tryBack 11 = .ok (.ldc 33, 2) := by decide +kernel
theorem dL_tryBack_13 : decode cL_tryBack 13 = .ok (.ireturn, 1) := by decide +kernel
set_option maxRecDepth 100000 in
set_option maxHeartbeats 4000000 in
theorem c_L_tryBack (l : Launch) (G : GT) (n : Nat) (h : AH) (hl : l.stackTraces = false) (x : Nat) (y : Nat → Nat) (k : Nat) (D S : Nat → Nat → Nat) (sv : Nat → Bool) (N : Nat) (T : Nat → Nat) (hS : SysC x y k D S sv N T h) (hI : SI y k D S sv N T) (p1 : Int32) : CW l yL_tryBack cL_tryBack 3 (some .int) [((0 : Nat), (5 : Nat), (6 : Nat), (13 : Nat)), ((0 : Nat), (5 : Nat), (10 : Nat), (31 : Nat))] 8 4 24 G n h [.ref x, .int p1] (PoL x h (rv (if ix p1 2 then (if sv (z p1) = true then 0 else 2) else 1) (nI (S (z p1) 5)) [eI, eS]) (if (if ix p1 2 then (if sv (z p1) = true then 0 else 2) else 1) = 0 then S (z p1) else y) (if (if ix p1 2 then (if sv (z p1) = true then 0 else 2) else 1) = 0 then 0 else k) D S sv N T) := by
  obtain ⟨w0, -⟩ := id hS
  refine CW_of mL_tryBack (Nat.le_of_ble_eq_true rfl) ?_
  intro p₀ e₀ s₀ m₀ as₀ bl₀ me₀ c₀ C hT
  refine V_Le (L' := [(0, .ref x), (1, .int p1)]) rfl ?_
  refine V_aload_n 1 C dL_tryBack_0 rfl rfl ?_
  refine V_iload_n 2 C dL_tryBack_1 rfl rfl ?_
  refine V_callVXH 5 C hT dL_tryBack_2 rfl mX9_restore tw849 fcX9 w0 (c_X9_restore l G _ _ hl x y k D S sv N T hS hI p1) rfl rfl (by decide) ⟨by omega, by omega⟩ (Nat.le_of_ble_eq_true rfl) (fun E h1 e1 => ?_) ?_
  · obtain ⟨g0, g1, gS, gF⟩ := e1
    rcases ex_2 g0 g1 with ⟨gk, rfl⟩ | ⟨gk, rfl⟩
    · skip
      have hz0 : ∀ z ∈ ([] : List (Nat × Nat × Nat × Nat)), z.2.2.2 ≠ 0 ∧ ∃ nm : String, Cond.classLink RL z.2.2.2 nm ∈ TB ∧ (ioE, nm) ∈ ncL := fun z hz => by cases hz
      refine ⟨6, ⟨[], (0, 5, 6, 13), [(0, 5, 10, 31)], rfl, hz0, by decide, by decide, tw567, by decide +kernel, rfl⟩, fun n1 q1 => ?_⟩
      refine V_astore_n 7 C dL_tryBack_6 rfl (by decide) (L' := [(0, _), (1, _), (2, _)]) rfl ?_
      refine V_ldc 9 C dL_tryBack_7 rfl tw593 ?_
      refine V_ireturn C dL_tryBack_9 rfl rfl (by omega) (by omega) ?_
      exact PoL_x gk g0 rfl gS gF
    · skip
      have hz1 : ∀ z ∈ ([(0, 5, 6, 13)] : List (Nat × Nat × Nat × Nat)), z.2.2.2 ≠ 0 ∧ ∃ nm : String, Cond.classLink RL z.2.2.2 nm ∈ TB ∧ (isE, nm) ∈ ncL := fun z hz => by
        rcases List.mem_cons.mp hz with rfl | hz
        · exact ⟨by decide, _, tw567, by decide +kernel⟩
        cases hz
      refine ⟨10, ⟨[(0, 5, 6, 13)], (0, 5, 10, 31), [], rfl, hz1, by decide, by decide, tw257, by decide +kernel, rfl⟩, fun n1 q1 => ?_⟩
      refine V_astore_n 11 C dL_tryBack_10 rfl (by decide) (L' := [(0, _), (1, _), (2, _)]) rfl ?_
      refine V_ldc 13 C dL_tryBack_11 rfl tw361 ?_
      refine V_ireturn C dL_tryBack_13 rfl rfl (by omega) (by omega) ?_
      exact PoL_x gk g0 rfl gS gF
  · rintro _ n1 h1 ⟨g0, rfl, gS, gF⟩
    refine V_ireturn C dL_tryBack_5 rfl rfl (by omega) (by omega) ?_
    exact PoL_0 g0 gS gF

