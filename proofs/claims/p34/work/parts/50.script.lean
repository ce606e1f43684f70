/-! THE SCRIPTS: a command of five digits, and a turn -/
noncomputable def cmD (w d2 d3 d4 d5 : Nat) (y : Nat → Nat) : Bool × (Nat → Nat) :=
  if w = 1 then (if d5 = 0 then (ok (aTk y (nI d2) (nI (10 * d3 + d4))), (aTk y (nI d2) (nI (10 * d3 + d4))).2) else (false, y)) else
  if w = 2 then (if 10 * d4 + d5 = 0 then (ok (aLy y (nI (10 * d2 + d3))), (aLy y (nI (10 * d2 + d3))).2) else (false, y)) else
  if w = 3 then (if 10 * d4 + d5 = 0 then (ok (aGo y (nI d2) (nI d3)), (aGo y (nI d2) (nI d3)).2) else (false, y)) else
  if w = 4 then (if d5 = 0 then (okC (aCp y (nI (10 * d2 + d3)) (nI d4)), (aCp y (nI (10 * d2 + d3)) (nI d4)).2) else (false, y)) else
  if w = 5 then (if 10 * d2 + d3 = 0 then (ok (aHr y (nI (10 * d4 + d5))), (aHr y (nI (10 * d4 + d5))).2) else (false, y)) else
  if w = 6 then ((decide (d4 = 0 ∧ 10 * d2 + d3 < y 4 ∧ ers y (10 * d2 + d3) 0 ≤ d5), y)) else
  if w = 7 then ((decide (10 * d2 + d3 < y 4 ∧ 10 * d4 + d5 ≤ y (58 + 6 * (10 * d2 + d3) + 2)), y)) else
  if w = 8 then ((decide (10 * d4 + d5 = 0 ∧ d2 < y 2 ∧ d3 < y 0 ∧ tof y d2 = d3), y)) else
  if w = 9 then ((decide (d2 < y 0 ∧ d3 < y 0 ∧ mo (dst y d2 d3) ≤ 10 * d4 + d5), y)) else
  (false, y)
theorem cm_1 {w d2 d3 d4 d5 : Nat} {y : Nat → Nat} (h : w = 1) : cmD w d2 d3 d4 d5 y = (if d5 = 0 then (ok (aTk y (nI d2) (nI (10 * d3 + d4))), (aTk y (nI d2) (nI (10 * d3 + d4))).2) else (false, y)) := by unfold cmD; rw [if_pos h]
theorem cm_2 {w d2 d3 d4 d5 : Nat} {y : Nat → Nat} (h : w = 2) : cmD w d2 d3 d4 d5 y = (if 10 * d4 + d5 = 0 then (ok (aLy y (nI (10 * d2 + d3))), (aLy y (nI (10 * d2 + d3))).2) else (false, y)) := by unfold cmD; rw [if_neg (show ¬ w = 1 by omega), if_pos h]
theorem cm_3 {w d2 d3 d4 d5 : Nat} {y : Nat → Nat} (h : w = 3) : cmD w d2 d3 d4 d5 y = (if 10 * d4 + d5 = 0 then (ok (aGo y (nI d2) (nI d3)), (aGo y (nI d2) (nI d3)).2) else (false, y)) := by unfold cmD; rw [if_neg (show ¬ w = 1 by omega), if_neg (show ¬ w = 2 by omega), if_pos h]
theorem cm_4 {w d2 d3 d4 d5 : Nat} {y : Nat → Nat} (h : w = 4) : cmD w d2 d3 d4 d5 y = (if d5 = 0 then (okC (aCp y (nI (10 * d2 + d3)) (nI d4)), (aCp y (nI (10 * d2 + d3)) (nI d4)).2) else (false, y)) := by unfold cmD; rw [if_neg (show ¬ w = 1 by omega), if_neg (show ¬ w = 2 by omega), if_neg (show ¬ w = 3 by omega), if_pos h]
theorem cm_5 {w d2 d3 d4 d5 : Nat} {y : Nat → Nat} (h : w = 5) : cmD w d2 d3 d4 d5 y = (if 10 * d2 + d3 = 0 then (ok (aHr y (nI (10 * d4 + d5))), (aHr y (nI (10 * d4 + d5))).2) else (false, y)) := by unfold cmD; rw [if_neg (show ¬ w = 1 by omega), if_neg (show ¬ w = 2 by omega), if_neg (show ¬ w = 3 by omega), if_neg (show ¬ w = 4 by omega), if_pos h]
theorem cm_6 {w d2 d3 d4 d5 : Nat} {y : Nat → Nat} (h : w = 6) : cmD w d2 d3 d4 d5 y = ((decide (d4 = 0 ∧ 10 * d2 + d3 < y 4 ∧ ers y (10 * d2 + d3) 0 ≤ d5), y)) := by unfold cmD; rw [if_neg (show ¬ w = 1 by omega), if_neg (show ¬ w = 2 by omega), if_neg (show ¬ w = 3 by omega), if_neg (show ¬ w = 4 by omega), if_neg (show ¬ w = 5 by omega), if_pos h]
theorem cm_7 {w d2 d3 d4 d5 : Nat} {y : Nat → Nat} (h : w = 7) : cmD w d2 d3 d4 d5 y = ((decide (10 * d2 + d3 < y 4 ∧ 10 * d4 + d5 ≤ y (58 + 6 * (10 * d2 + d3) + 2)), y)) := by unfold cmD; rw [if_neg (show ¬ w = 1 by omega), if_neg (show ¬ w = 2 by omega), if_neg (show ¬ w = 3 by omega), if_neg (show ¬ w = 4 by omega), if_neg (show ¬ w = 5 by omega), if_neg (show ¬ w = 6 by omega), if_pos h]
theorem cm_8 {w d2 d3 d4 d5 : Nat} {y : Nat → Nat} (h : w = 8) : cmD w d2 d3 d4 d5 y = ((decide (10 * d4 + d5 = 0 ∧ d2 < y 2 ∧ d3 < y 0 ∧ tof y d2 = d3), y)) := by unfold cmD; rw [if_neg (show ¬ w = 1 by omega), if_neg (show ¬ w = 2 by omega), if_neg (show ¬ w = 3 by omega), if_neg (show ¬ w = 4 by omega), if_neg (show ¬ w = 5 by omega), if_neg (show ¬ w = 6 by omega), if_neg (show ¬ w = 7 by omega), if_pos h]
theorem cm_9 {w d2 d3 d4 d5 : Nat} {y : Nat → Nat} (h : w = 9) : cmD w d2 d3 d4 d5 y = ((decide (d2 < y 0 ∧ d3 < y 0 ∧ mo (dst y d2 d3) ≤ 10 * d4 + d5), y)) := by unfold cmD; rw [if_neg (show ¬ w = 1 by omega), if_neg (show ¬ w = 2 by omega), if_neg (show ¬ w = 3 by omega), if_neg (show ¬ w = 4 by omega), if_neg (show ¬ w = 5 by omega), if_neg (show ¬ w = 6 by omega), if_neg (show ¬ w = 7 by omega), if_neg (show ¬ w = 8 by omega), if_pos h]
theorem cm_0 {w d2 d3 d4 d5 : Nat} {y : Nat → Nat} (h : w = 0 ∨ 9 < w) : cmD w d2 d3 d4 d5 y = (false, y) := by unfold cmD; rw [if_neg (show ¬ w = 1 by omega), if_neg (show ¬ w = 2 by omega), if_neg (show ¬ w = 3 by omega), if_neg (show ¬ w = 4 by omega), if_neg (show ¬ w = 5 by omega), if_neg (show ¬ w = 6 by omega), if_neg (show ¬ w = 7 by omega), if_neg (show ¬ w = 8 by omega), if_neg (show ¬ w = 9 by omega)]
def tnA (w q : Nat) (y : Nat → Nat) : Ar :=
  if w = 0 then aTw y else
  if w = 1 ∨ w = 2 then aRd y (nI (q % 6)) (nI (q / 8 % 6)) (nI (1 + q / 64 % 20)) else
  if w = 3 then aRu y (nI (q % 6)) else
  if w = 4 then aWr y (nI (q % 6)) (nI (q / 8 % 1000000)) (nI (q % 10)) else
  if w = 5 ∨ w = 6 then aTk y (nI (q % 5)) (nI (q / 8 % 12)) else
  if w = 7 then aLy y (nI (q % 12)) else
  if w = 8 ∨ w = 9 ∨ w = 10 then aGo y (nI (q % 5)) (nI (q / 8 % 10)) else
  if w = 11 ∨ w = 12 then aCp y (nI (q % 12)) (nI (q / 16 % 10)) else
  if w = 13 then aPr y (nI (q % 12)) (nI (q / 16 % 12)) (nI (q / 256 % 12)) (nI (q % 10)) else
  aHr y (nI (1 + q % 20))
theorem tn_0 {w q : Nat} {y : Nat → Nat} (h : w = 0) : tnA w q y = aTw y := by unfold tnA; rw [if_pos h]
theorem tn_1 {w q : Nat} {y : Nat → Nat} (h : w = 1 ∨ w = 2) : tnA w q y = aRd y (nI (q % 6)) (nI (q / 8 % 6)) (nI (1 + q / 64 % 20)) := by unfold tnA; rw [if_neg (show ¬ (w = 0) by omega), if_pos h]
theorem tn_2 {w q : Nat} {y : Nat → Nat} (h : w = 3) : tnA w q y = aRu y (nI (q % 6)) := by unfold tnA; rw [if_neg (show ¬ (w = 0) by omega), if_neg (show ¬ (w = 1 ∨ w = 2) by omega), if_pos h]
theorem tn_3 {w q : Nat} {y : Nat → Nat} (h : w = 4) : tnA w q y = aWr y (nI (q % 6)) (nI (q / 8 % 1000000)) (nI (q % 10)) := by unfold tnA; rw [if_neg (show ¬ (w = 0) by omega), if_neg (show ¬ (w = 1 ∨ w = 2) by omega), if_neg (show ¬ (w = 3) by omega), if_pos h]
theorem tn_4 {w q : Nat} {y : Nat → Nat} (h : w = 5 ∨ w = 6) : tnA w q y = aTk y (nI (q % 5)) (nI (q / 8 % 12)) := by unfold tnA; rw [if_neg (show ¬ (w = 0) by omega), if_neg (show ¬ (w = 1 ∨ w = 2) by omega), if_neg (show ¬ (w = 3) by omega), if_neg (show ¬ (w = 4) by omega), if_pos h]
theorem tn_5 {w q : Nat} {y : Nat → Nat} (h : w = 7) : tnA w q y = aLy y (nI (q % 12)) := by unfold tnA; rw [if_neg (show ¬ (w = 0) by omega), if_neg (show ¬ (w = 1 ∨ w = 2) by omega), if_neg (show ¬ (w = 3) by omega), if_neg (show ¬ (w = 4) by omega), if_neg (show ¬ (w = 5 ∨ w = 6) by omega), if_pos h]
theorem tn_6 {w q : Nat} {y : Nat → Nat} (h : w = 8 ∨ w = 9 ∨ w = 10) : tnA w q y = aGo y (nI (q % 5)) (nI (q / 8 % 10)) := by unfold tnA; rw [if_neg (show ¬ (w = 0) by omega), if_neg (show ¬ (w = 1 ∨ w = 2) by omega), if_neg (show ¬ (w = 3) by omega), if_neg (show ¬ (w = 4) by omega), if_neg (show ¬ (w = 5 ∨ w = 6) by omega), if_neg (show ¬ (w = 7) by omega), if_pos h]
theorem tn_7 {w q : Nat} {y : Nat → Nat} (h : w = 11 ∨ w = 12) : tnA w q y = aCp y (nI (q % 12)) (nI (q / 16 % 10)) := by unfold tnA; rw [if_neg (show ¬ (w = 0) by omega), if_neg (show ¬ (w = 1 ∨ w = 2) by omega), if_neg (show ¬ (w = 3) by omega), if_neg (show ¬ (w = 4) by omega), if_neg (show ¬ (w = 5 ∨ w = 6) by omega), if_neg (show ¬ (w = 7) by omega), if_neg (show ¬ (w = 8 ∨ w = 9 ∨ w = 10) by omega), if_pos h]
theorem tn_8 {w q : Nat} {y : Nat → Nat} (h : w = 13) : tnA w q y = aPr y (nI (q % 12)) (nI (q / 16 % 12)) (nI (q / 256 % 12)) (nI (q % 10)) := by unfold tnA; rw [if_neg (show ¬ (w = 0) by omega), if_neg (show ¬ (w = 1 ∨ w = 2) by omega), if_neg (show ¬ (w = 3) by omega), if_neg (show ¬ (w = 4) by omega), if_neg (show ¬ (w = 5 ∨ w = 6) by omega), if_neg (show ¬ (w = 7) by omega), if_neg (show ¬ (w = 8 ∨ w = 9 ∨ w = 10) by omega), if_neg (show ¬ (w = 11 ∨ w = 12) by omega), if_pos h]
theorem tn_9 {w q : Nat} {y : Nat → Nat} (h : 13 < w) : tnA w q y = aHr y (nI (1 + q % 20)) := by unfold tnA; rw [if_neg (show ¬ (w = 0) by omega), if_neg (show ¬ (w = 1 ∨ w = 2) by omega), if_neg (show ¬ (w = 3) by omega), if_neg (show ¬ (w = 4) by omega), if_neg (show ¬ (w = 5 ∨ w = 6) by omega), if_neg (show ¬ (w = 7) by omega), if_neg (show ¬ (w = 8 ∨ w = 9 ∨ w = 10) by omega), if_neg (show ¬ (w = 11 ∨ w = 12) by omega), if_neg (show ¬ (w = 13) by omega)]
theorem Iv_cmD {y : Nat → Nat} (hI : Iv y) (w d2 d3 d4 d5 : Nat) : Iv (cmD w d2 d3 d4 d5 y).2 := by
  unfold cmD
  repeat' split
  · exact Iv_aTk hI _ _
  · exact hI
  · exact Iv_aLy hI _
  · exact hI
  · exact Iv_aGo hI _ _
  · exact hI
  · exact Iv_aCp hI _ _
  · exact hI
  · exact Iv_aHr hI _
  · exact hI
  · exact hI
  · exact hI
  · exact hI
  · exact hI
  · exact hI
theorem Iv_tnA {y : Nat → Nat} (hI : Iv y) (w q : Nat) : Iv (tnA w q y).2 := by
  unfold tnA
  repeat' split
  · exact Iv_aTw hI
  · exact Iv_aRd hI _ _ _
  · exact Iv_aRu hI _
  · exact Iv_aWr hI _ _ _
  · exact Iv_aTk hI _ _
  · exact Iv_aLy hI _
  · exact Iv_aGo hI _ _
  · exact Iv_aCp hI _ _
  · exact Iv_aPr hI _ _ _ _
  · exact Iv_aHr hI _
theorem dst_le (y : Nat → Nat) (a t : Nat) : dst y a t ≤ FAR := by
  rcases dst_sp y a t with h | h
  · exact Nat.le_of_eq h.1
  · exact Nat.le_of_lt h.1
theorem inmo {v e : Nat} (hv : v ≤ FAR) (he : e < 100) : ((nI 0).toInt ≤ (nI (mo v)).toInt ∧ (nI (mo v)).toInt ≤ (nI e).toInt) ↔ mo v ≤ e := by
  have hF : FAR = 1000000 := rfl
  rw [nI_toInt (show 0 < 2 ^ 31 by omega), nI_toInt (show e < 2 ^ 31 by omega)]
  by_cases h : v = FAR
  · rw [mo_y h, show (nI NO).toInt = -1 from by decide, NO_eq]
    omega
  · rw [mo_n h, nI_toInt (by omega)]
    omega
theorem pln_fr {p : Nat} {f g : Nat → Int32} {h h' : AH} (hP : pln p f g h) (hF : ∀ a, p ≤ a → a < p + 3 → h' a = h a) : pln p f g h' := ⟨by rw [hF _ (by omega) (by omega)]; exact hP.1, by rw [hF _ (by omega) (by omega)]; exact hP.2.1, by rw [hF _ (by omega) (by omega)]; exact hP.2.2⟩
/-- what a command of a script does to the class's country at q, with its planner at p -/
def SCP (q p n : Nat) (h : AH) (r : Bool × (Nat → Nat)) : Option Value → Nat → AH → Prop := fun v n' h' => v = some (.int (nI (bp (r.1 = true)))) ∧ n = n' ∧ cty q r.2 h' ∧ (∃ f g, pln p f g h') ∧ ∀ a, (a < q ∨ q + 32 ≤ a) → (a < p ∨ p + 3 ≤ a) → h' a = h a
theorem SCP_f {q p n : Nat} {h h' : AH} {r : Bool × (Nat → Nat)} {y' : Nat → Nat} {f g : Nat → Int32} (hP : pln p f g h) (hd : q + 32 ≤ p ∨ p + 3 ≤ q) (hC : cty q y' h') (hF : FR q h h') (e : r = (false, y')) : SCP q p n h r (some (.int (nI 0))) n h' := by
  rw [e]
  exact ⟨rfl, rfl, hC, ⟨f, g, pln_fr hP (fun a g1 g2 => hF a (by omega))⟩, fun a g1 _ => hF a g1⟩
theorem SCP_t {q p n : Nat} {h h' : AH} {r : Bool × (Nat → Nat)} {y' : Nat → Nat} {f g : Nat → Int32} (hP : pln p f g h) (hd : q + 32 ≤ p ∨ p + 3 ≤ q) (hC : cty q y' h') (hF : FR q h h') (e : r = (true, y')) : SCP q p n h r (some (.int (nI 1))) n h' := by
  rw [e]
  exact ⟨rfl, rfl, hC, ⟨f, g, pln_fr hP (fun a g1 g2 => hF a (by omega))⟩, fun a g1 _ => hF a g1⟩
theorem SCP_p {q p n : Nat} {h : AH} {r : Bool × (Nat → Nat)} {y' : Nat → Nat} {f g f2 g2 : Nat → Int32} {b : Bool} {v : Nat} (hP : pln p f g h) (hd : q + 32 ≤ p ∨ p + 3 ≤ q) (hC : cty q y' h) (e : r = (b, y')) (ev : nI v = nI (bp (b = true))) : SCP q p n h r (some (.int (nI v))) n (up (up h (p + 1) (ra f2)) (p + 2) (rb g2)) := by
  rw [e]
  exact ⟨by rw [ev], rfl, hC.fr (fun a g1 g2 => by rw [up_n _ (by omega), up_n _ (by omega)]), ⟨f2, g2, by rw [up_n _ (by omega), up_n _ (by omega)]; exact hP.1, by rw [up_n _ (by omega)]; exact up_s _ _ _, up_s _ _ _⟩, fun a g1 g2 => by rw [up_n _ (by omega), up_n _ (by omega)]⟩
theorem dX7_without_0 : decode cX7_without 0 = .ok (.lload_n 0, 1) := by decide +kernel
theorem dX7_without_1 : decode cX7_without 1 = .ok (.lstore_n 3, 1) := by decide +kernel
theorem dX7_without_2 : decode cX7_without 2 = .ok (.iconst 0, 1) := by decide +kernel
theorem dX7_without_3 : decode cX7_without 3 = .ok (.istore 5, 2) := by decide +kernel
theorem dX7_without_5 : decode cX7_without 5 = .ok (.iload 5, 2) := by decide +kernel
theorem dX7_without_7 : decode cX7_without 7 = .ok (.iload_n 2, 1) := by decide +kernel
theorem dX7_without_8 : decode cX7_without 8 = .ok (.if_icmp .ge 15, 3) := by decide +kernel
theorem dX7_without_11 : decode cX7_without 11 = .ok (.lload_n 3, 1) := by decide +kernel
theorem dX7_without_12 : decode cX7_without 12 = .ok (.ldc2_w 9, 3) := by decide +kernel
theorem dX7_without_15 : decode cX7_without 15 = .ok (.ldiv, 1) := by decide +kernel
theorem dX7_without_16 : decode cX7_without 16 = .ok (.lstore_n 3, 1) := by decide +kernel
theorem dX7_without_17 : decode cX7_without 17 = .ok (.iinc 5 1, 3) := by decide +kernel
theorem dX7_without_20 : decode cX7_without 20 = .ok (.goto (-15), 3) := by decide +kernel
theorem dX7_without_23 : decode cX7_without 23 = .ok (.lload_n 3, 1) := by decide +kernel
theorem dX7_without_24 : decode cX7_without 24 = .ok (.lreturn, 1) := by decide +kernel
set_option maxRecDepth 100000 in
set_option maxHeartbeats 4000000 in
theorem c_X7_without (l : Launch) (G : GT) (n : Nat) (h : AH) (W k : Nat) (hW : W < 2 ^ 63) (hk : k < 100) : Ct l yX7_without cX7_without 6 (some .long) 1 0 0 G n h [.long (lN W), .int (nI k)] (fun v n' h' => v = some (.long (lN (W / 100000 ^ k))) ∧ n = n' ∧ h = h') := by
  refine Ct_of mX7_without.1 (Nat.le_of_ble_eq_true rfl) ?_
  intro p₀ e₀ s₀ m₀ as₀ bl₀ me₀ c₀ C hin
  refine V_Le (L' := [(0, .long (lN W)), (2, .int (nI k))]) rfl ?_
  refine V_lload_n 1 C dX7_without_0 rfl rfl ?_
  refine V_lstore_n 2 C dX7_without_1 rfl (by decide) (L' := [(0, _), (2, _), (3, _)]) rfl ?_
  refine V_iconst 3 C dX7_without_2 rfl ic0 ?_
  refine V_istore 5 C dX7_without_3 rfl (by decide) (L' := [(0, _), (2, _), (3, _), (5, _)]) rfl ?_
  have J5 : ∀ (fuel : Nat) (i : Nat) (hi : i ≤ k), k - i < fuel → V p₀ l e₀ (rmD 1 0 0) s₀ m₀ as₀ bl₀ me₀ c₀ (MQ bl₀ (Po G (fun v n' h' => v = some (.long (lN (W / 100000 ^ k))) ∧ n = n' ∧ h = h')) as₀ s₀ 0 0 (rg G)) G 6 0 0 n h 5 [(0, .long (lN W)), (2, .int (nI k)), (3, .long (lN (W / 100000 ^ i))), (5, .int (nI i))] [] := by
    intro fuel
    induction fuel with
    | zero => intro i hi hf; omega
    | succ fuel ih5 =>
      intro i hi hf
      refine V_iload 7 C dX7_without_5 rfl rfl ?_
      refine V_iload_n 8 C dX7_without_7 rfl rfl ?_
      refine V_icmp_geN 23 11 C dX7_without_8 (by decide) rfl (by omega) (by omega) (fun c8 => ?_) (fun c8 => ?_)
      · have ei : i = k := by omega
        refine V_lload_n 24 C dX7_without_23 rfl rfl ?_
        refine V_lreturn C dX7_without_24 rfl (by omega) (by omega) ?_
        exact ⟨by rw [ei], rfl, rfl⟩
      · refine V_lload_n 12 C dX7_without_11 rfl rfl ?_
        refine V_ldc2 15 C dX7_without_12 rfl tw891 ?_
        rw [show (100000 : Int64) = lN 100000 from rfl]
        refine V_ldiv 16 C dX7_without_15 rfl (by decide +kernel) ?_
        rw [pk_lDiv (Nat.lt_of_le_of_lt (Nat.div_le_self _ _) hW) (by omega) (by omega)]
        refine V_lstore_n 17 C dX7_without_16 rfl (by decide) (L' := [(0, _), (2, _), (3, _), (5, _)]) rfl ?_
        refine V_iinc 20 C dX7_without_17 rfl (by decide) rfl (ii1 _) (L' := [(0, _), (2, _), (3, _), (5, _)]) rfl ?_
        refine V_goto 5 C dX7_without_20 (by decide) ?_
        refine V_L [0, 2, 3, 5] rfl ?_
        rw [Nat.div_div_eq_div_mul, ← Nat.pow_succ]
        exact ih5 (i + 1) (by omega) (by omega)
  refine V_L [0, 2, 3, 5] rfl ?_
  have J := J5 (k + 1) 0 (by omega) (by omega)
  rw [Nat.pow_zero, Nat.div_one] at J
  exact J

theorem dX7_lastGroup_0 : decode cX7_lastGroup 0 = .ok (.lload_n 0, 1) := by decide +kernel
theorem dX7_lastGroup_1 : decode cX7_lastGroup 1 = .ok (.ldc2_w 9, 3) := by decide +kernel
theorem dX7_lastGroup_4 : decode cX7_lastGroup 4 = .ok (.lrem, 1) := by decide +kernel
theorem dX7_lastGroup_5 : decode cX7_lastGroup 5 = .ok (.l2i, 1) := by decide +kernel
theorem dX7_lastGroup_6 : decode cX7_lastGroup 6 = .ok (.ireturn, 1) := by decide +kernel
set_option maxRecDepth 100000 in
set_option maxHeartbeats 4000000 in
theorem c_X7_lastGroup (l : Launch) (G : GT) (n : Nat) (h : AH) (W : Nat) (hW : W < 2 ^ 63) : Ct l yX7_lastGroup cX7_lastGroup 2 (some .int) 1 0 0 G n h [.long (lN W)] (Rt (nI (W % 100000)) n h) := by
  refine Ct_of mX7_lastGroup.1 (Nat.le_of_ble_eq_true rfl) ?_
  intro p₀ e₀ s₀ m₀ as₀ bl₀ me₀ c₀ C hin
  refine V_Le (L' := [(0, .long (lN W))]) rfl ?_
  refine V_lload_n 1 C dX7_lastGroup_0 rfl rfl ?_
  refine V_ldc2 4 C dX7_lastGroup_1 rfl tw891 ?_
  rw [show (100000 : Int64) = lN 100000 from rfl]
  refine V_lrem 5 C dX7_lastGroup_4 rfl (by decide +kernel) ?_
  rw [pk_lRem hW (by omega) (by omega)]
  refine V_l2i 6 C dX7_lastGroup_5 rfl  ?_
  rw [lN_i]
  refine V_ireturn C dX7_lastGroup_6 rfl rfl (by omega) (by omega) ?_
  exact ⟨rfl, rfl, rfl⟩

theorem dX7_succeeds_0 : decode cX7_succeeds 0 = .ok (.iload_n 0, 1) := by decide +kernel
theorem dX7_succeeds_1 : decode cX7_succeeds 1 = .ok (.sipush 1000, 3) := by decide +kernel
theorem dX7_succeeds_4 : decode cX7_succeeds 4 = .ok (.idiv, 1) := by decide +kernel
theorem dX7_succeeds_5 : decode cX7_succeeds 5 = .ok (.bipush 10, 2) := by decide +kernel
theorem dX7_succeeds_7 : decode cX7_succeeds 7 = .ok (.irem, 1) := by decide +kernel
theorem dX7_succeeds_8 : decode cX7_succeeds 8 = .ok (.istore_n 3, 1) := by decide +kernel
theorem dX7_succeeds_9 : decode cX7_succeeds 9 = .ok (.iload_n 0, 1) := by decide +kernel
theorem dX7_succeeds_10 : decode cX7_succeeds 10 = .ok (.bipush 100, 2) := by decide +kernel
theorem dX7_succeeds_12 : decode cX7_succeeds 12 = .ok (.idiv, 1) := by decide +kernel
theorem dX7_succeeds_13 : decode cX7_succeeds 13 = .ok (.bipush 10, 2) := by decide +kernel
theorem dX7_succeeds_15 : decode cX7_succeeds 15 = .ok (.irem, 1) := by decide +kernel
theorem dX7_succeeds_16 : decode cX7_succeeds 16 = .ok (.istore 4, 2) := by decide +kernel
theorem dX7_succeeds_18 : decode cX7_succeeds 18 = .ok (.iload_n 0, 1) := by decide +kernel
theorem dX7_succeeds_19 : decode cX7_succeeds 19 = .ok (.bipush 10, 2) := by decide +kernel
theorem dX7_succeeds_21 : decode cX7_succeeds 21 = .ok (.idiv, 1) := by decide +kernel
theorem dX7_succeeds_22 : decode cX7_succeeds 22 = .ok (.bipush 10, 2) := by decide +kernel
theorem dX7_succeeds_24 : decode cX7_succeeds 24 = .ok (.irem, 1) := by decide +kernel
theorem dX7_succeeds_25 : decode cX7_succeeds 25 = .ok (.istore 5, 2) := by decide +kernel
theorem dX7_succeeds_27 : decode cX7_succeeds 27 = .ok (.iload_n 0, 1) := by decide +kernel
theorem dX7_succeeds_28 : decode cX7_succeeds 28 = .ok (.bipush 10, 2) := by decide +kernel
theorem dX7_succeeds_30 : decode cX7_succeeds 30 = .ok (.irem, 1) := by decide +kernel
theorem dX7_succeeds_31 : decode cX7_succeeds 31 = .ok (.istore 6, 2) := by decide +kernel
theorem dX7_succeeds_33 : decode cX7_succeeds 33 = .ok (.bipush 10, 2) := by decide +kernel
theorem dX7_succeeds_35 : decode cX7_succeeds 35 = .ok (.iload_n 3, 1) := by decide +kernel
theorem dX7_succeeds_36 : decode cX7_succeeds 36 = .ok (.imul, 1) := by decide +kernel
theorem dX7_succeeds_37 : decode cX7_succeeds 37 = .ok (.iload 4, 2) := by decide +kernel
theorem dX7_succeeds_39 : decode cX7_succeeds 39 = .ok (.iadd, 1) := by decide +kernel
theorem dX7_succeeds_40 : decode cX7_succeeds 40 = .ok (.istore 7, 2) := by decide +kernel
theorem dX7_succeeds_42 : decode cX7_succeeds 42 = .ok (.bipush 10, 2) := by decide +kernel
theorem dX7_succeeds_44 : decode cX7_succeeds 44 = .ok (.iload 5, 2) := by decide +kernel
theorem dX7_succeeds_46 : decode cX7_succeeds 46 = .ok (.imul, 1) := by decide +kernel
theorem dX7_succeeds_47 : decode cX7_succeeds 47 = .ok (.iload 6, 2) := by decide +kernel
theorem dX7_succeeds_49 : decode cX7_succeeds 49 = .ok (.iadd, 1) := by decide +kernel
theorem dX7_succeeds_50 : decode cX7_succeeds 50 = .ok (.istore 8, 2) := by decide +kernel
theorem dX7_succeeds_52 : decode cX7_succeeds 52 = .ok (.iload_n 0, 1) := by decide +kernel
theorem dX7_succeeds_53 : decode cX7_succeeds 53 = .ok (.sipush 10000, 3) := by decide +kernel
theorem dX7_succeeds_56 : decode cX7_succeeds 56 = .ok (.idiv, 1) := by decide +kernel
theorem dX7_succeeds_57 : decode cX7_succeeds 57 = .ok (.tableswitch 305 1 9 #[51, 78, 98, 119, 141, 161, 193, 223, 265], 51) := by decide +kernel
theorem dX7_succeeds_108 : decode cX7_succeeds 108 = .ok (.iload 6, 2) := by decide +kernel
theorem dX7_succeeds_110 : decode cX7_succeeds 110 = .ok (.ifCond .ne 23, 3) := by decide +kernel
theorem dX7_succeeds_113 : decode cX7_succeeds 113 = .ok (.aload_n 1, 1) := by decide +kernel
theorem dX7_succeeds_114 : decode cX7_succeeds 114 = .ok (.iload_n 3, 1) := by decide +kernel
theorem dX7_succeeds_115 : decode cX7_succeeds 115 = .ok (.bipush 10, 2) := by decide +kernel
theorem dX7_succeeds_117 : decode cX7_succeeds 117 = .ok (.iload 4, 2) := by decide +kernel
theorem dX7_succeeds_119 : decode cX7_succeeds 119 = .ok (.imul, 1) := by decide +kernel
theorem dX7_succeeds_120 : decode cX7_succeeds 120 = .ok (.iload 5, 2) := by decide +kernel
theorem dX7_succeeds_122 : decode cX7_succeeds 122 = .ok (.iadd, 1) := by decide +kernel
theorem dX7_succeeds_123 : decode cX7_succeeds 123 = .ok (.invokevirtual 11, 3) := by decide +kernel
theorem dX7_succeeds_126 : decode cX7_succeeds 126 = .ok (.ifCond .lt 7, 3) := by decide +kernel
theorem dX7_succeeds_129 : decode cX7_succeeds 129 = .ok (.iconst 1, 1) := by decide +kernel
theorem dX7_succeeds_130 : decode cX7_succeeds 130 = .ok (.goto 4, 3) := by decide +kernel
theorem dX7_succeeds_133 : decode cX7_succeeds 133 = .ok (.iconst 0, 1) := by decide +kernel
theorem dX7_succeeds_134 : decode cX7_succeeds 134 = .ok (.ireturn, 1) := by decide +kernel
theorem dX7_succeeds_135 : decode cX7_succeeds 135 = .ok (.iload 8, 2) := by decide +kernel
theorem dX7_succeeds_137 : decode cX7_succeeds 137 = .ok (.ifCond .ne 16, 3) := by decide +kernel
theorem dX7_succeeds_140 : decode cX7_succeeds 140 = .ok (.aload_n 1, 1) := by decide +kernel
theorem dX7_succeeds_141 : decode cX7_succeeds 141 = .ok (.iload 7, 2) := by decide +kernel
theorem dX7_succeeds_143 : decode cX7_succeeds 143 = .ok (.invokevirtual 17, 3) := by decide +kernel
theorem dX7_succeeds_146 : decode cX7_succeeds 146 = .ok (.ifCond .lt 7, 3) := by decide +kernel
theorem dX7_succeeds_149 : decode cX7_succeeds 149 = .ok (.iconst 1, 1) := by decide +kernel
theorem dX7_succeeds_150 : decode cX7_succeeds 150 = .ok (.goto 4, 3) := by decide +kernel
theorem dX7_succeeds_153 : decode cX7_succeeds 153 = .ok (.iconst 0, 1) := by decide +kernel
theorem dX7_succeeds_154 : decode cX7_succeeds 154 = .ok (.ireturn, 1) := by decide +kernel
theorem dX7_succeeds_155 : decode cX7_succeeds 155 = .ok (.iload 8, 2) := by decide +kernel
theorem dX7_succeeds_157 : decode cX7_succeeds 157 = .ok (.ifCond .ne 17, 3) := by decide +kernel
theorem dX7_succeeds_160 : decode cX7_succeeds 160 = .ok (.aload_n 1, 1) := by decide +kernel
theorem dX7_succeeds_161 : decode cX7_succeeds 161 = .ok (.iload_n 3, 1) := by decide +kernel
theorem dX7_succeeds_162 : decode cX7_succeeds 162 = .ok (.iload 4, 2) := by decide +kernel
theorem dX7_succeeds_164 : decode cX7_succeeds 164 = .ok (.invokevirtual 21, 3) := by decide +kernel
theorem dX7_succeeds_167 : decode cX7_succeeds 167 = .ok (.ifCond .lt 7, 3) := by decide +kernel
theorem dX7_succeeds_170 : decode cX7_succeeds 170 = .ok (.iconst 1, 1) := by decide +kernel
theorem dX7_succeeds_171 : decode cX7_succeeds 171 = .ok (.goto 4, 3) := by decide +kernel
theorem dX7_succeeds_174 : decode cX7_succeeds 174 = .ok (.iconst 0, 1) := by decide +kernel
theorem dX7_succeeds_175 : decode cX7_succeeds 175 = .ok (.ireturn, 1) := by decide +kernel
theorem dX7_succeeds_176 : decode cX7_succeeds 176 = .ok (.iload 6, 2) := by decide +kernel
theorem dX7_succeeds_178 : decode cX7_succeeds 178 = .ok (.ifCond .ne 18, 3) := by decide +kernel
theorem dX7_succeeds_181 : decode cX7_succeeds 181 = .ok (.aload_n 1, 1) := by decide +kernel
theorem dX7_succeeds_182 : decode cX7_succeeds 182 = .ok (.iload 7, 2) := by decide +kernel
theorem dX7_succeeds_184 : decode cX7_succeeds 184 = .ok (.iload 5, 2) := by decide +kernel
theorem dX7_succeeds_186 : decode cX7_succeeds 186 = .ok (.invokevirtual 24, 3) := by decide +kernel
theorem dX7_succeeds_189 : decode cX7_succeeds 189 = .ok (.ifCond .ne 7, 3) := by decide +kernel
theorem dX7_succeeds_192 : decode cX7_succeeds 192 = .ok (.iconst 1, 1) := by decide +kernel
theorem dX7_succeeds_193 : decode cX7_succeeds 193 = .ok (.goto 4, 3) := by decide +kernel
theorem dX7_succeeds_196 : decode cX7_succeeds 196 = .ok (.iconst 0, 1) := by decide +kernel
theorem dX7_succeeds_197 : decode cX7_succeeds 197 = .ok (.ireturn, 1) := by decide +kernel
theorem dX7_succeeds_198 : decode cX7_succeeds 198 = .ok (.iload 7, 2) := by decide +kernel
theorem dX7_succeeds_200 : decode cX7_succeeds 200 = .ok (.ifCond .ne 16, 3) := by decide +kernel
theorem dX7_succeeds_203 : decode cX7_succeeds 203 = .ok (.aload_n 1, 1) := by decide +kernel
theorem dX7_succeeds_204 : decode cX7_succeeds 204 = .ok (.iload 8, 2) := by decide +kernel
theorem dX7_succeeds_206 : decode cX7_succeeds 206 = .ok (.invokevirtual 27, 3) := by decide +kernel
theorem dX7_succeeds_209 : decode cX7_succeeds 209 = .ok (.ifCond .lt 7, 3) := by decide +kernel
theorem dX7_succeeds_212 : decode cX7_succeeds 212 = .ok (.iconst 1, 1) := by decide +kernel
theorem dX7_succeeds_213 : decode cX7_succeeds 213 = .ok (.goto 4, 3) := by decide +kernel
theorem dX7_succeeds_216 : decode cX7_succeeds 216 = .ok (.iconst 0, 1) := by decide +kernel
theorem dX7_succeeds_217 : decode cX7_succeeds 217 = .ok (.ireturn, 1) := by decide +kernel
theorem dX7_succeeds_218 : decode cX7_succeeds 218 = .ok (.iload 5, 2) := by decide +kernel
theorem dX7_succeeds_220 : decode cX7_succeeds 220 = .ok (.ifCond .ne 28, 3) := by decide +kernel
theorem dX7_succeeds_223 : decode cX7_succeeds 223 = .ok (.aload_n 1, 1) := by decide +kernel
theorem dX7_succeeds_224 : decode cX7_succeeds 224 = .ok (.iload 7, 2) := by decide +kernel
theorem dX7_succeeds_226 : decode cX7_succeeds 226 = .ok (.invokevirtual 30, 3) := by decide +kernel
theorem dX7_succeeds_229 : decode cX7_succeeds 229 = .ok (.ifCond .eq 19, 3) := by decide +kernel
theorem dX7_succeeds_232 : decode cX7_succeeds 232 = .ok (.aload_n 1, 1) := by decide +kernel
theorem dX7_succeeds_233 : decode cX7_succeeds 233 = .ok (.iload 7, 2) := by decide +kernel
theorem dX7_succeeds_235 : decode cX7_succeeds 235 = .ok (.iconst 0, 1) := by decide +kernel
theorem dX7_succeeds_236 : decode cX7_succeeds 236 = .ok (.invokevirtual 34, 3) := by decide +kernel
theorem dX7_succeeds_239 : decode cX7_succeeds 239 = .ok (.iload 6, 2) := by decide +kernel
theorem dX7_succeeds_241 : decode cX7_succeeds 241 = .ok (.if_icmp .gt 7, 3) := by decide +kernel
theorem dX7_succeeds_244 : decode cX7_succeeds 244 = .ok (.iconst 1, 1) := by decide +kernel
theorem dX7_succeeds_245 : decode cX7_succeeds 245 = .ok (.goto 4, 3) := by decide +kernel
theorem dX7_succeeds_248 : decode cX7_succeeds 248 = .ok (.iconst 0, 1) := by decide +kernel
theorem dX7_succeeds_249 : decode cX7_succeeds 249 = .ok (.ireturn, 1) := by decide +kernel
theorem dX7_succeeds_250 : decode cX7_succeeds 250 = .ok (.aload_n 1, 1) := by decide +kernel
theorem dX7_succeeds_251 : decode cX7_succeeds 251 = .ok (.iload 7, 2) := by decide +kernel
theorem dX7_succeeds_253 : decode cX7_succeeds 253 = .ok (.invokevirtual 30, 3) := by decide +kernel
theorem dX7_succeeds_256 : decode cX7_succeeds 256 = .ok (.ifCond .eq 22, 3) := by decide +kernel
theorem dX7_succeeds_259 : decode cX7_succeeds 259 = .ok (.aload_n 1, 1) := by decide +kernel
theorem dX7_succeeds_260 : decode cX7_succeeds 260 = .ok (.getfield 37, 3) := by decide +kernel
theorem dX7_succeeds_263 : decode cX7_succeeds 263 = .ok (.iload 7, 2) := by decide +kernel
theorem dX7_succeeds_265 : decode cX7_succeeds 265 = .ok (.aaload, 1) := by decide +kernel
theorem dX7_succeeds_266 : decode cX7_succeeds 266 = .ok (.getfield 41, 3) := by decide +kernel
theorem dX7_succeeds_269 : decode cX7_succeeds 269 = .ok (.iload 8, 2) := by decide +kernel
theorem dX7_succeeds_271 : decode cX7_succeeds 271 = .ok (.if_icmp .lt 7, 3) := by decide +kernel
theorem dX7_succeeds_274 : decode cX7_succeeds 274 = .ok (.iconst 1, 1) := by decide +kernel
theorem dX7_succeeds_275 : decode cX7_succeeds 275 = .ok (.goto 4, 3) := by decide +kernel
theorem dX7_succeeds_278 : decode cX7_succeeds 278 = .ok (.iconst 0, 1) := by decide +kernel
theorem dX7_succeeds_279 : decode cX7_succeeds 279 = .ok (.ireturn, 1) := by decide +kernel
theorem dX7_succeeds_280 : decode cX7_succeeds 280 = .ok (.iload 8, 2) := by decide +kernel
theorem dX7_succeeds_282 : decode cX7_succeeds 282 = .ok (.ifCond .ne 38, 3) := by decide +kernel
theorem dX7_succeeds_285 : decode cX7_succeeds 285 = .ok (.aload_n 1, 1) := by decide +kernel
theorem dX7_succeeds_286 : decode cX7_succeeds 286 = .ok (.iload_n 3, 1) := by decide +kernel
theorem dX7_succeeds_287 : decode cX7_succeeds 287 = .ok (.invokevirtual 47, 3) := by decide +kernel
theorem dX7_succeeds_290 : decode cX7_succeeds 290 = .ok (.ifCond .eq 30, 3) := by decide +kernel
theorem dX7_succeeds_293 : decode cX7_succeeds 293 = .ok (.aload_n 1, 1) := by decide +kernel
theorem dX7_succeeds_294 : decode cX7_succeeds 294 = .ok (.iload 4, 2) := by decide +kernel
theorem dX7_succeeds_296 : decode cX7_succeeds 296 = .ok (.invokevirtual 50, 3) := by decide +kernel
theorem dX7_succeeds_299 : decode cX7_succeeds 299 = .ok (.ifCond .eq 21, 3) := by decide +kernel
theorem dX7_succeeds_302 : decode cX7_succeeds 302 = .ok (.aload_n 1, 1) := by decide +kernel
theorem dX7_succeeds_303 : decode cX7_succeeds 303 = .ok (.getfield 53, 3) := by decide +kernel
theorem dX7_succeeds_306 : decode cX7_succeeds 306 = .ok (.iload_n 3, 1) := by decide +kernel
theorem dX7_succeeds_307 : decode cX7_succeeds 307 = .ok (.aaload, 1) := by decide +kernel
theorem dX7_succeeds_308 : decode cX7_succeeds 308 = .ok (.iload 4, 2) := by decide +kernel
theorem dX7_succeeds_310 : decode cX7_succeeds 310 = .ok (.invokevirtual 57, 3) := by decide +kernel
theorem dX7_succeeds_313 : decode cX7_succeeds 313 = .ok (.ifCond .eq 7, 3) := by decide +kernel
theorem dX7_succeeds_316 : decode cX7_succeeds 316 = .ok (.iconst 1, 1) := by decide +kernel
theorem dX7_succeeds_317 : decode cX7_succeeds 317 = .ok (.goto 4, 3) := by decide +kernel
theorem dX7_succeeds_320 : decode cX7_succeeds 320 = .ok (.iconst 0, 1) := by decide +kernel
theorem dX7_succeeds_321 : decode cX7_succeeds 321 = .ok (.ireturn, 1) := by decide +kernel
theorem dX7_succeeds_322 : decode cX7_succeeds 322 = .ok (.aload_n 1, 1) := by decide +kernel
theorem dX7_succeeds_323 : decode cX7_succeeds 323 = .ok (.iload_n 3, 1) := by decide +kernel
theorem dX7_succeeds_324 : decode cX7_succeeds 324 = .ok (.invokevirtual 50, 3) := by decide +kernel
theorem dX7_succeeds_327 : decode cX7_succeeds 327 = .ok (.ifCond .eq 33, 3) := by decide +kernel
theorem dX7_succeeds_330 : decode cX7_succeeds 330 = .ok (.aload_n 1, 1) := by decide +kernel
theorem dX7_succeeds_331 : decode cX7_succeeds 331 = .ok (.iload 4, 2) := by decide +kernel
theorem dX7_succeeds_333 : decode cX7_succeeds 333 = .ok (.invokevirtual 50, 3) := by decide +kernel
theorem dX7_succeeds_336 : decode cX7_succeeds 336 = .ok (.ifCond .eq 24, 3) := by decide +kernel
theorem dX7_succeeds_339 : decode cX7_succeeds 339 = .ok (.aload_n 2, 1) := by decide +kernel
theorem dX7_succeeds_340 : decode cX7_succeeds 340 = .ok (.aload_n 1, 1) := by decide +kernel
theorem dX7_succeeds_341 : decode cX7_succeeds 341 = .ok (.iload_n 3, 1) := by decide +kernel
theorem dX7_succeeds_342 : decode cX7_succeeds 342 = .ok (.iload 4, 2) := by decide +kernel
theorem dX7_succeeds_344 : decode cX7_succeeds 344 = .ok (.invokevirtual 62, 3) := by decide +kernel
theorem dX7_succeeds_347 : decode cX7_succeeds 347 = .ok (.iconst 0, 1) := by decide +kernel
theorem dX7_succeeds_348 : decode cX7_succeeds 348 = .ok (.iload 8, 2) := by decide +kernel
theorem dX7_succeeds_350 : decode cX7_succeeds 350 = .ok (.invokestatic 68, 3) := by decide +kernel
theorem dX7_succeeds_353 : decode cX7_succeeds 353 = .ok (.ifCond .eq 7, 3) := by decide +kernel
theorem dX7_succeeds_356 : decode cX7_succeeds 356 = .ok (.iconst 1, 1) := by decide +kernel
theorem dX7_succeeds_357 : decode cX7_succeeds 357 = .ok (.goto 4, 3) := by decide +kernel
theorem dX7_succeeds_360 : decode cX7_succeeds 360 = .ok (.iconst 0, 1) := by decide +kernel
theorem dX7_succeeds_361 : decode cX7_succeeds 361 = .ok (.ireturn, 1) := by decide +kernel
theorem dX7_succeeds_362 : decode cX7_succeeds 362 = .ok (.iconst 0, 1) := by decide +kernel
theorem dX7_succeeds_363 : decode cX7_succeeds 363 = .ok (.ireturn, 1) := by decide +kernel
set_option maxRecDepth 100000 in
set_option maxHeartbeats 4000000 in
theorem c_X7_succeeds (l : Launch) (G : GT) (n : Nat) (h : AH) (q : Nat) (y : Nat → Nat) (hC : cty q y h) (hI : Iv y) (p : Nat) (f g : Nat → Int32) (hP : pln p f g h) (hd : q + 32 ≤ p ∨ p + 3 ≤ q) (w d2 d3 d4 d5 : Nat) (hw : w ≤ 10) (h2 : d2 < 10) (h3 : d3 < 10) (h4 : d4 < 10) (h5 : d5 < 10) : Ct l yX7_succeeds cX7_succeeds 9 (some .boolean) 6 0 0 G n h [.int (nI (10000 * w + 1000 * d2 + 100 * d3 + 10 * d4 + d5)), .ref q, .ref p] (SCP q p n h (cmD w d2 d3 d4 d5 y)) := by
  obtain ⟨⟨i0, i1, i2, i3, i4⟩, iR, iU, iM, iS⟩ := id hI
  obtain ⟨hob, ⟨fR, hfR, hR⟩, ⟨fU, hfU, hU⟩, ⟨fS, hfS, hS⟩, ⟨fM, hfM, hM⟩, -, -, -⟩ := id hC
  refine Ct_of mX7_succeeds.1 (Nat.le_of_ble_eq_true rfl) ?_
  intro p₀ e₀ s₀ m₀ as₀ bl₀ me₀ c₀ C hin
  refine V_Le (L' := [(0, .int (nI (10000 * w + 1000 * d2 + 100 * d3 + 10 * d4 + d5))), (1, .ref q), (2, .ref p)]) rfl ?_
  refine V_iload_n 1 C dX7_succeeds_0 rfl rfl ?_
  refine V_sipush 4 C dX7_succeeds_1 rfl sip1000 ?_
  refine V_idivN 5 C dX7_succeeds_4 rfl (by omega) (by omega) (by omega) ?_
  refine V_bipush 7 C dX7_succeeds_5 rfl bip10 ?_
  refine V_iremN 8 C dX7_succeeds_7 rfl (by omega) (by omega) (by omega) ?_
  rw [show (10000 * w + 1000 * d2 + 100 * d3 + 10 * d4 + d5) / 1000 % 10 = d2 from by omega]
  refine V_istore_n 9 C dX7_succeeds_8 rfl (by decide) (L' := [(0, _), (1, _), (2, _), (3, _)]) rfl ?_
  refine V_iload_n 10 C dX7_succeeds_9 rfl rfl ?_
  refine V_bipush 12 C dX7_succeeds_10 rfl bip100 ?_
  refine V_idivN 13 C dX7_succeeds_12 rfl (by omega) (by omega) (by omega) ?_
  refine V_bipush 15 C dX7_succeeds_13 rfl bip10 ?_
  refine V_iremN 16 C dX7_succeeds_15 rfl (by omega) (by omega) (by omega) ?_
  rw [show (10000 * w + 1000 * d2 + 100 * d3 + 10 * d4 + d5) / 100 % 10 = d3 from by omega]
  refine V_istore 18 C dX7_succeeds_16 rfl (by decide) (L' := [(0, _), (1, _), (2, _), (3, _), (4, _)]) rfl ?_
  refine V_iload_n 19 C dX7_succeeds_18 rfl rfl ?_
  refine V_bipush 21 C dX7_succeeds_19 rfl bip10 ?_
  refine V_idivN 22 C dX7_succeeds_21 rfl (by omega) (by omega) (by omega) ?_
  refine V_bipush 24 C dX7_succeeds_22 rfl bip10 ?_
  refine V_iremN 25 C dX7_succeeds_24 rfl (by omega) (by omega) (by omega) ?_
  rw [show (10000 * w + 1000 * d2 + 100 * d3 + 10 * d4 + d5) / 10 % 10 = d4 from by omega]
  refine V_istore 27 C dX7_succeeds_25 rfl (by decide) (L' := [(0, _), (1, _), (2, _), (3, _), (4, _), (5, _)]) rfl ?_
  refine V_iload_n 28 C dX7_succeeds_27 rfl rfl ?_
  refine V_bipush 30 C dX7_succeeds_28 rfl bip10 ?_
  refine V_iremN 31 C dX7_succeeds_30 rfl (by omega) (by omega) (by omega) ?_
  rw [show (10000 * w + 1000 * d2 + 100 * d3 + 10 * d4 + d5) % 10 = d5 from by omega]
  refine V_istore 33 C dX7_succeeds_31 rfl (by decide) (L' := [(0, _), (1, _), (2, _), (3, _), (4, _), (5, _), (6, _)]) rfl ?_
  refine V_bipush 35 C dX7_succeeds_33 rfl bip10 ?_
  refine V_iload_n 36 C dX7_succeeds_35 rfl rfl ?_
  refine V_imulN 37 C dX7_succeeds_36 rfl  ?_
  refine V_iload 39 C dX7_succeeds_37 rfl rfl ?_
  refine V_iaddN 40 C dX7_succeeds_39 rfl  ?_
  refine V_istore 42 C dX7_succeeds_40 rfl (by decide) (L' := [(0, _), (1, _), (2, _), (3, _), (4, _), (5, _), (6, _), (7, _)]) rfl ?_
  refine V_bipush 44 C dX7_succeeds_42 rfl bip10 ?_
  refine V_iload 46 C dX7_succeeds_44 rfl rfl ?_
  refine V_imulN 47 C dX7_succeeds_46 rfl  ?_
  refine V_iload 49 C dX7_succeeds_47 rfl rfl ?_
  refine V_iaddN 50 C dX7_succeeds_49 rfl  ?_
  refine V_istore 52 C dX7_succeeds_50 rfl (by decide) (L' := [(0, _), (1, _), (2, _), (3, _), (4, _), (5, _), (6, _), (7, _), (8, _)]) rfl ?_
  refine V_iload_n 53 C dX7_succeeds_52 rfl rfl ?_
  refine V_sipush 56 C dX7_succeeds_53 rfl sip10000 ?_
  refine V_idivN 57 C dX7_succeeds_56 rfl (by omega) (by omega) (by omega) ?_
  rw [show (10000 * w + 1000 * d2 + 100 * d3 + 10 * d4 + d5) / 10000 = w from by omega]
  refine V_case 1 (fun c57_1 => ?_) (fun n57_1 => ?_)
  · refine V_tsI 108 C dX7_succeeds_57 c57_1 (by decide) (by decide) (by decide) rfl (by decide) ?_
    refine V_iload 110 C dX7_succeeds_108 rfl rfl ?_
    refine V_if_neN 133 113 C dX7_succeeds_110 (by decide) rfl (by omega) (fun c110 => ?_) (fun c110 => ?_)
    · have hr : cmD w d2 d3 d4 d5 y = (false, y) := by rw [cm_1 c57_1, if_neg c110]
      refine V_iconst 134 C dX7_succeeds_133 rfl ic0 ?_
      refine V_ireturn C dX7_succeeds_134 rfl (by decide) (by omega) (by omega) ?_
      first | exact SCP_f hP hd hC2 hF2 hr | exact SCP_t hP hd hC2 hF2 hr | exact SCP_f hP hd hC FR.rf hr | exact SCP_t hP hd hC FR.rf hr
    · refine V_aload_n 114 C dX7_succeeds_113 rfl rfl ?_
      refine V_iload_n 115 C dX7_succeeds_114 rfl rfl ?_
      refine V_bipush 117 C dX7_succeeds_115 rfl bip10 ?_
      refine V_iload 119 C dX7_succeeds_117 rfl rfl ?_
      refine V_imulN 120 C dX7_succeeds_119 rfl  ?_
      refine V_iload 122 C dX7_succeeds_120 rfl rfl ?_
      refine V_iaddN 123 C dX7_succeeds_122 rfl  ?_
      refine V_callV 126 C dX7_succeeds_123 rfl mX1_handOver tw899 fcX1 hC.1 (c_X1_handOver l G _ _ q y hC hI (nI d2) (nI (10 * d3 + d4))) rfl rfl (by decide) ⟨by omega, by omega⟩ (Nat.le_of_ble_eq_true rfl) ?_
      rintro _ _ h9 ⟨rfl, rfl, hC2, hF2⟩
      refine V_if_lt 133 129 C dX7_succeeds_126 (by decide) rfl  (fun c126 => ?_) (fun c126 => ?_)
      · have hr : cmD w d2 d3 d4 d5 y = (false, (aTk y (nI d2) (nI (10 * d3 + d4))).2) := by rw [cm_1 c57_1, if_pos c110, ok_f c126]
        refine V_iconst 134 C dX7_succeeds_133 rfl ic0 ?_
        refine V_ireturn C dX7_succeeds_134 rfl (by decide) (by omega) (by omega) ?_
        first | exact SCP_f hP hd hC2 hF2 hr | exact SCP_t hP hd hC2 hF2 hr | exact SCP_f hP hd hC FR.rf hr | exact SCP_t hP hd hC FR.rf hr
      · have hr : cmD w d2 d3 d4 d5 y = (true, (aTk y (nI d2) (nI (10 * d3 + d4))).2) := by rw [cm_1 c57_1, if_pos c110, ok_t c126]
        refine V_iconst 130 C dX7_succeeds_129 rfl ic1 ?_
        refine V_goto 134 C dX7_succeeds_130 (by decide) ?_
        refine V_ireturn C dX7_succeeds_134 rfl (by decide) (by omega) (by omega) ?_
        first | exact SCP_f hP hd hC2 hF2 hr | exact SCP_t hP hd hC2 hF2 hr | exact SCP_f hP hd hC FR.rf hr | exact SCP_t hP hd hC FR.rf hr
  · skip
    refine V_case 2 (fun c57_2 => ?_) (fun n57_2 => ?_)
    · refine V_tsI 135 C dX7_succeeds_57 c57_2 (by decide) (by decide) (by decide) rfl (by decide) ?_
      refine V_iload 137 C dX7_succeeds_135 rfl rfl ?_
      refine V_if_neN 153 140 C dX7_succeeds_137 (by decide) rfl (by omega) (fun c137 => ?_) (fun c137 => ?_)
      · have hr : cmD w d2 d3 d4 d5 y = (false, y) := by rw [cm_2 c57_2, if_neg c137]
        refine V_iconst 154 C dX7_succeeds_153 rfl ic0 ?_
        refine V_ireturn C dX7_succeeds_154 rfl (by decide) (by omega) (by omega) ?_
        first | exact SCP_f hP hd hC2 hF2 hr | exact SCP_t hP hd hC2 hF2 hr | exact SCP_f hP hd hC FR.rf hr | exact SCP_t hP hd hC FR.rf hr
      · refine V_aload_n 141 C dX7_succeeds_140 rfl rfl ?_
        refine V_iload 143 C dX7_succeeds_141 rfl rfl ?_
        refine V_callV 146 C dX7_succeeds_143 rfl mX1_layDown tw900 fcX1 hC.1 (c_X1_layDown l G _ _ q y hC hI (nI (10 * d2 + d3))) rfl rfl (by decide) ⟨by omega, by omega⟩ (Nat.le_of_ble_eq_true rfl) ?_
        rintro _ _ h9 ⟨rfl, rfl, hC2, hF2⟩
        refine V_if_lt 153 149 C dX7_succeeds_146 (by decide) rfl  (fun c146 => ?_) (fun c146 => ?_)
        · have hr : cmD w d2 d3 d4 d5 y = (false, (aLy y (nI (10 * d2 + d3))).2) := by rw [cm_2 c57_2, if_pos c137, ok_f c146]
          refine V_iconst 154 C dX7_succeeds_153 rfl ic0 ?_
          refine V_ireturn C dX7_succeeds_154 rfl (by decide) (by omega) (by omega) ?_
          first | exact SCP_f hP hd hC2 hF2 hr | exact SCP_t hP hd hC2 hF2 hr | exact SCP_f hP hd hC FR.rf hr | exact SCP_t hP hd hC FR.rf hr
        · have hr : cmD w d2 d3 d4 d5 y = (true, (aLy y (nI (10 * d2 + d3))).2) := by rw [cm_2 c57_2, if_pos c137, ok_t c146]
          refine V_iconst 150 C dX7_succeeds_149 rfl ic1 ?_
          refine V_goto 154 C dX7_succeeds_150 (by decide) ?_
          refine V_ireturn C dX7_succeeds_154 rfl (by decide) (by omega) (by omega) ?_
          first | exact SCP_f hP hd hC2 hF2 hr | exact SCP_t hP hd hC2 hF2 hr | exact SCP_f hP hd hC FR.rf hr | exact SCP_t hP hd hC FR.rf hr
    · skip
      refine V_case 3 (fun c57_3 => ?_) (fun n57_3 => ?_)
      · refine V_tsI 155 C dX7_succeeds_57 c57_3 (by decide) (by decide) (by decide) rfl (by decide) ?_
        refine V_iload 157 C dX7_succeeds_155 rfl rfl ?_
        refine V_if_neN 174 160 C dX7_succeeds_157 (by decide) rfl (by omega) (fun c157 => ?_) (fun c157 => ?_)
        · have hr : cmD w d2 d3 d4 d5 y = (false, y) := by rw [cm_3 c57_3, if_neg c157]
          refine V_iconst 175 C dX7_succeeds_174 rfl ic0 ?_
          refine V_ireturn C dX7_succeeds_175 rfl (by decide) (by omega) (by omega) ?_
          first | exact SCP_f hP hd hC2 hF2 hr | exact SCP_t hP hd hC2 hF2 hr | exact SCP_f hP hd hC FR.rf hr | exact SCP_t hP hd hC FR.rf hr
        · refine V_aload_n 161 C dX7_succeeds_160 rfl rfl ?_
          refine V_iload_n 162 C dX7_succeeds_161 rfl rfl ?_
          refine V_iload 164 C dX7_succeeds_162 rfl rfl ?_
          refine V_callV 167 C dX7_succeeds_164 rfl mX1_send tw901 fcX1 hC.1 (c_X1_send l G _ _ q y hC hI (nI d2) (nI d3)) rfl rfl (by decide) ⟨by omega, by omega⟩ (Nat.le_of_ble_eq_true rfl) ?_
          rintro _ _ h9 ⟨rfl, rfl, hC2, hF2⟩
          refine V_if_lt 174 170 C dX7_succeeds_167 (by decide) rfl  (fun c167 => ?_) (fun c167 => ?_)
          · have hr : cmD w d2 d3 d4 d5 y = (false, (aGo y (nI d2) (nI d3)).2) := by rw [cm_3 c57_3, if_pos c157, ok_f c167]
            refine V_iconst 175 C dX7_succeeds_174 rfl ic0 ?_
            refine V_ireturn C dX7_succeeds_175 rfl (by decide) (by omega) (by omega) ?_
            first | exact SCP_f hP hd hC2 hF2 hr | exact SCP_t hP hd hC2 hF2 hr | exact SCP_f hP hd hC FR.rf hr | exact SCP_t hP hd hC FR.rf hr
          · have hr : cmD w d2 d3 d4 d5 y = (true, (aGo y (nI d2) (nI d3)).2) := by rw [cm_3 c57_3, if_pos c157, ok_t c167]
            refine V_iconst 171 C dX7_succeeds_170 rfl ic1 ?_
            refine V_goto 175 C dX7_succeeds_171 (by decide) ?_
            refine V_ireturn C dX7_succeeds_175 rfl (by decide) (by omega) (by omega) ?_
            first | exact SCP_f hP hd hC2 hF2 hr | exact SCP_t hP hd hC2 hF2 hr | exact SCP_f hP hd hC FR.rf hr | exact SCP_t hP hd hC FR.rf hr
      · skip
        refine V_case 4 (fun c57_4 => ?_) (fun n57_4 => ?_)
        · refine V_tsI 176 C dX7_succeeds_57 c57_4 (by decide) (by decide) (by decide) rfl (by decide) ?_
          refine V_iload 178 C dX7_succeeds_176 rfl rfl ?_
          refine V_if_neN 196 181 C dX7_succeeds_178 (by decide) rfl (by omega) (fun c178 => ?_) (fun c178 => ?_)
          · have hr : cmD w d2 d3 d4 d5 y = (false, y) := by rw [cm_4 c57_4, if_neg c178]
            refine V_iconst 197 C dX7_succeeds_196 rfl ic0 ?_
            refine V_ireturn C dX7_succeeds_197 rfl (by decide) (by omega) (by omega) ?_
            first | exact SCP_f hP hd hC2 hF2 hr | exact SCP_t hP hd hC2 hF2 hr | exact SCP_f hP hd hC FR.rf hr | exact SCP_t hP hd hC FR.rf hr
          · refine V_aload_n 182 C dX7_succeeds_181 rfl rfl ?_
            refine V_iload 184 C dX7_succeeds_182 rfl rfl ?_
            refine V_iload 186 C dX7_succeeds_184 rfl rfl ?_
            refine V_callV 189 C dX7_succeeds_186 rfl mX1_addCopy tw902 fcX1 hC.1 (c_X1_addCopy l G _ _ q y hC hI (nI (10 * d2 + d3)) (nI d4)) rfl rfl (by decide) ⟨by omega, by omega⟩ (Nat.le_of_ble_eq_true rfl) ?_
            rintro _ _ h9 ⟨rfl, rfl, hC2, hF2⟩
            refine V_if_ne 196 192 C dX7_succeeds_189 (by decide) rfl  (fun c189 => ?_) (fun c189 => ?_)
            · have hr : cmD w d2 d3 d4 d5 y = (false, (aCp y (nI (10 * d2 + d3)) (nI d4)).2) := by rw [cm_4 c57_4, if_pos c178, okC_f c189]
              refine V_iconst 197 C dX7_succeeds_196 rfl ic0 ?_
              refine V_ireturn C dX7_succeeds_197 rfl (by decide) (by omega) (by omega) ?_
              first | exact SCP_f hP hd hC2 hF2 hr | exact SCP_t hP hd hC2 hF2 hr | exact SCP_f hP hd hC FR.rf hr | exact SCP_t hP hd hC FR.rf hr
            · have hr : cmD w d2 d3 d4 d5 y = (true, (aCp y (nI (10 * d2 + d3)) (nI d4)).2) := by rw [cm_4 c57_4, if_pos c178, okC_t c189]
              refine V_iconst 193 C dX7_succeeds_192 rfl ic1 ?_
              refine V_goto 197 C dX7_succeeds_193 (by decide) ?_
              refine V_ireturn C dX7_succeeds_197 rfl (by decide) (by omega) (by omega) ?_
              first | exact SCP_f hP hd hC2 hF2 hr | exact SCP_t hP hd hC2 hF2 hr | exact SCP_f hP hd hC FR.rf hr | exact SCP_t hP hd hC FR.rf hr
        · skip
          refine V_case 5 (fun c57_5 => ?_) (fun n57_5 => ?_)
          · refine V_tsI 198 C dX7_succeeds_57 c57_5 (by decide) (by decide) (by decide) rfl (by decide) ?_
            refine V_iload 200 C dX7_succeeds_198 rfl rfl ?_
            refine V_if_neN 216 203 C dX7_succeeds_200 (by decide) rfl (by omega) (fun c200 => ?_) (fun c200 => ?_)
            · have hr : cmD w d2 d3 d4 d5 y = (false, y) := by rw [cm_5 c57_5, if_neg c200]
              refine V_iconst 217 C dX7_succeeds_216 rfl ic0 ?_
              refine V_ireturn C dX7_succeeds_217 rfl (by decide) (by omega) (by omega) ?_
              first | exact SCP_f hP hd hC2 hF2 hr | exact SCP_t hP hd hC2 hF2 hr | exact SCP_f hP hd hC FR.rf hr | exact SCP_t hP hd hC FR.rf hr
            · refine V_aload_n 204 C dX7_succeeds_203 rfl rfl ?_
              refine V_iload 206 C dX7_succeeds_204 rfl rfl ?_
              refine V_callV 209 C dX7_succeeds_206 rfl mX1_passHours tw903 fcX1 hC.1 (c_X1_passHours l G _ _ q y hC hI (nI (10 * d4 + d5))) rfl rfl (by decide) ⟨by omega, by omega⟩ (Nat.le_of_ble_eq_true rfl) ?_
              rintro _ _ h9 ⟨rfl, rfl, hC2, hF2⟩
              refine V_if_lt 216 212 C dX7_succeeds_209 (by decide) rfl  (fun c209 => ?_) (fun c209 => ?_)
              · have hr : cmD w d2 d3 d4 d5 y = (false, (aHr y (nI (10 * d4 + d5))).2) := by rw [cm_5 c57_5, if_pos c200, ok_f c209]
                refine V_iconst 217 C dX7_succeeds_216 rfl ic0 ?_
                refine V_ireturn C dX7_succeeds_217 rfl (by decide) (by omega) (by omega) ?_
                first | exact SCP_f hP hd hC2 hF2 hr | exact SCP_t hP hd hC2 hF2 hr | exact SCP_f hP hd hC FR.rf hr | exact SCP_t hP hd hC FR.rf hr
              · have hr : cmD w d2 d3 d4 d5 y = (true, (aHr y (nI (10 * d4 + d5))).2) := by rw [cm_5 c57_5, if_pos c200, ok_t c209]
                refine V_iconst 213 C dX7_succeeds_212 rfl ic1 ?_
                refine V_goto 217 C dX7_succeeds_213 (by decide) ?_
                refine V_ireturn C dX7_succeeds_217 rfl (by decide) (by omega) (by omega) ?_
                first | exact SCP_f hP hd hC2 hF2 hr | exact SCP_t hP hd hC2 hF2 hr | exact SCP_f hP hd hC FR.rf hr | exact SCP_t hP hd hC FR.rf hr
          · skip
            refine V_case 6 (fun c57_6 => ?_) (fun n57_6 => ?_)
            · refine V_tsI 218 C dX7_succeeds_57 c57_6 (by decide) (by decide) (by decide) rfl (by decide) ?_
              refine V_iload 220 C dX7_succeeds_218 rfl rfl ?_
              refine V_if_neN 248 223 C dX7_succeeds_220 (by decide) rfl (by omega) (fun c220 => ?_) (fun c220 => ?_)
              · have hr : cmD w d2 d3 d4 d5 y = (false, y) := by rw [cm_6 c57_6, decide_eq_false (fun e => c220 e.1)]
                refine V_iconst 249 C dX7_succeeds_248 rfl ic0 ?_
                refine V_ireturn C dX7_succeeds_249 rfl (by decide) (by omega) (by omega) ?_
                first | exact SCP_f hP hd hC2 hF2 hr | exact SCP_t hP hd hC2 hF2 hr | exact SCP_f hP hd hC FR.rf hr | exact SCP_t hP hd hC FR.rf hr
              · refine V_aload_n 224 C dX7_succeeds_223 rfl rfl ?_
                refine V_iload 226 C dX7_succeeds_224 rfl rfl ?_
                refine V_callV 229 C dX7_succeeds_226 rfl mX1_hasSheet tw904 fcX1 hC.1 (c_X1_hasSheet l G _ _ q y hC hI (nI (10 * d2 + d3))) rfl rfl (by decide) ⟨by omega, by omega⟩ (Nat.le_of_ble_eq_true rfl) ?_
                rintro _ _ _ ⟨rfl, rfl, rfl⟩
                refine V_if_eqB 248 232 C dX7_succeeds_229 (by decide) rfl  (fun c229 => ?_) (fun c229 => ?_)
                · have hr : cmD w d2 d3 d4 d5 y = (false, y) := by rw [cm_6 c57_6, decide_eq_false (fun e => c229 ((ix_nI (by omega)).mpr e.2.1))]
                  refine V_iconst 249 C dX7_succeeds_248 rfl ic0 ?_
                  refine V_ireturn C dX7_succeeds_249 rfl (by decide) (by omega) (by omega) ?_
                  first | exact SCP_f hP hd hC2 hF2 hr | exact SCP_t hP hd hC2 hF2 hr | exact SCP_f hP hd hC FR.rf hr | exact SCP_t hP hd hC FR.rf hr
                · have ia : (10 * d2 + d3) < y 4 := (ix_nI (by omega)).mp c229
                  have he := ers_le y (10 * d2 + d3) 0
                  refine V_aload_n 233 C dX7_succeeds_232 rfl rfl ?_
                  refine V_iload 235 C dX7_succeeds_233 rfl rfl ?_
                  refine V_iconst 236 C dX7_succeeds_235 rfl ic0 ?_
                  refine V_callV 239 C dX7_succeeds_236 rfl mX1_errorsAfter tw905 fcX1 hC.1 (c_X1_errorsAfter l G _ _ q y hC hI (10 * d2 + d3) 0 ia (by omega)) rfl rfl (by decide) ⟨by omega, by omega⟩ (Nat.le_of_ble_eq_true rfl) ?_
                  rintro _ _ _ ⟨rfl, rfl, rfl⟩
                  refine V_iload 241 C dX7_succeeds_239 rfl rfl ?_
                  refine V_icmp_gtN 248 244 C dX7_succeeds_241 (by decide) rfl (by omega) (by omega) (fun c241 => ?_) (fun c241 => ?_)
                  · have hr : cmD w d2 d3 d4 d5 y = (false, y) := by rw [cm_6 c57_6, decide_eq_false (fun e => absurd c241 (by omega))]
                    refine V_iconst 249 C dX7_succeeds_248 rfl ic0 ?_
                    refine V_ireturn C dX7_succeeds_249 rfl (by decide) (by omega) (by omega) ?_
                    first | exact SCP_f hP hd hC2 hF2 hr | exact SCP_t hP hd hC2 hF2 hr | exact SCP_f hP hd hC FR.rf hr | exact SCP_t hP hd hC FR.rf hr
                  · have hr : cmD w d2 d3 d4 d5 y = (true, y) := by rw [cm_6 c57_6, decide_eq_true ⟨c220, ia, by omega⟩]
                    refine V_iconst 245 C dX7_succeeds_244 rfl ic1 ?_
                    refine V_goto 249 C dX7_succeeds_245 (by decide) ?_
                    refine V_ireturn C dX7_succeeds_249 rfl (by decide) (by omega) (by omega) ?_
                    first | exact SCP_f hP hd hC2 hF2 hr | exact SCP_t hP hd hC2 hF2 hr | exact SCP_f hP hd hC FR.rf hr | exact SCP_t hP hd hC FR.rf hr
            · skip
              refine V_case 7 (fun c57_7 => ?_) (fun n57_7 => ?_)
              · refine V_tsI 250 C dX7_succeeds_57 c57_7 (by decide) (by decide) (by decide) rfl (by decide) ?_
                refine V_aload_n 251 C dX7_succeeds_250 rfl rfl ?_
                refine V_iload 253 C dX7_succeeds_251 rfl rfl ?_
                refine V_callV 256 C dX7_succeeds_253 rfl mX1_hasSheet tw904 fcX1 hC.1 (c_X1_hasSheet l G _ _ q y hC hI (nI (10 * d2 + d3))) rfl rfl (by decide) ⟨by omega, by omega⟩ (Nat.le_of_ble_eq_true rfl) ?_
                rintro _ _ _ ⟨rfl, rfl, rfl⟩
                refine V_if_eqB 278 259 C dX7_succeeds_256 (by decide) rfl  (fun c256 => ?_) (fun c256 => ?_)
                · have hr : cmD w d2 d3 d4 d5 y = (false, y) := by rw [cm_7 c57_7, decide_eq_false (fun e => c256 ((ix_nI (by omega)).mpr e.1))]
                  refine V_iconst 279 C dX7_succeeds_278 rfl ic0 ?_
                  refine V_ireturn C dX7_succeeds_279 rfl (by decide) (by omega) (by omega) ?_
                  first | exact SCP_f hP hd hC2 hF2 hr | exact SCP_t hP hd hC2 hF2 hr | exact SCP_f hP hd hC FR.rf hr | exact SCP_t hP hd hC FR.rf hr
                · have ia : (10 * d2 + d3) < y 4 := (ix_nI (by omega)).mp c256
                  have hsh := cty_sh hC ia i4
                  obtain ⟨s0, s1, s2, s3, s4, s5⟩ := iS (10 * d2 + d3) ia
                  unfold NO at s4
                  refine V_aload_n 260 C dX7_succeeds_259 rfl rfl ?_
                  refine V_get (k := 10) 263 C dX7_succeeds_260 rfl fcX1 tw146 (by decide) rfl hC.1 rfl ?_
                  refine V_iload 265 C dX7_succeeds_263 rfl rfl ?_
                  refine V_aald (j := (10 * d2 + d3)) 266 C dX7_succeeds_265 rfl hfS rfl rfl (by omega) (by omega) (hS _ (by omega)) ?_
                  refine V_get (k := 2) 269 C dX7_succeeds_266 rfl fcX8 tw96 (by decide) rfl hsh rfl ?_
                  refine V_iload 271 C dX7_succeeds_269 rfl rfl ?_
                  refine V_icmp_ltN 278 274 C dX7_succeeds_271 (by decide) rfl (by omega) (by omega) (fun c271 => ?_) (fun c271 => ?_)
                  · have hr : cmD w d2 d3 d4 d5 y = (false, y) := by rw [cm_7 c57_7, decide_eq_false (fun e => absurd e.2 (by omega))]
                    refine V_iconst 279 C dX7_succeeds_278 rfl ic0 ?_
                    refine V_ireturn C dX7_succeeds_279 rfl (by decide) (by omega) (by omega) ?_
                    first | exact SCP_f hP hd hC2 hF2 hr | exact SCP_t hP hd hC2 hF2 hr | exact SCP_f hP hd hC FR.rf hr | exact SCP_t hP hd hC FR.rf hr
                  · have hr : cmD w d2 d3 d4 d5 y = (true, y) := by rw [cm_7 c57_7, decide_eq_true ⟨ia, by omega⟩]
                    refine V_iconst 275 C dX7_succeeds_274 rfl ic1 ?_
                    refine V_goto 279 C dX7_succeeds_275 (by decide) ?_
                    refine V_ireturn C dX7_succeeds_279 rfl (by decide) (by omega) (by omega) ?_
                    first | exact SCP_f hP hd hC2 hF2 hr | exact SCP_t hP hd hC2 hF2 hr | exact SCP_f hP hd hC FR.rf hr | exact SCP_t hP hd hC FR.rf hr
              · skip
                refine V_case 8 (fun c57_8 => ?_) (fun n57_8 => ?_)
                · refine V_tsI 280 C dX7_succeeds_57 c57_8 (by decide) (by decide) (by decide) rfl (by decide) ?_
                  refine V_iload 282 C dX7_succeeds_280 rfl rfl ?_
                  refine V_if_neN 320 285 C dX7_succeeds_282 (by decide) rfl (by omega) (fun c282 => ?_) (fun c282 => ?_)
                  · have hr : cmD w d2 d3 d4 d5 y = (false, y) := by rw [cm_8 c57_8, decide_eq_false (fun e => c282 e.1)]
                    refine V_iconst 321 C dX7_succeeds_320 rfl ic0 ?_
                    refine V_ireturn C dX7_succeeds_321 rfl (by decide) (by omega) (by omega) ?_
                    first | exact SCP_f hP hd hC2 hF2 hr | exact SCP_t hP hd hC2 hF2 hr | exact SCP_f hP hd hC FR.rf hr | exact SCP_t hP hd hC FR.rf hr
                  · refine V_aload_n 286 C dX7_succeeds_285 rfl rfl ?_
                    refine V_iload_n 287 C dX7_succeeds_286 rfl rfl ?_
                    refine V_callV 290 C dX7_succeeds_287 rfl mX1_hasRunner tw906 fcX1 hC.1 (c_X1_hasRunner l G _ _ q y hC hI (nI d2)) rfl rfl (by decide) ⟨by omega, by omega⟩ (Nat.le_of_ble_eq_true rfl) ?_
                    rintro _ _ _ ⟨rfl, rfl, rfl⟩
                    refine V_if_eqB 320 293 C dX7_succeeds_290 (by decide) rfl  (fun c290 => ?_) (fun c290 => ?_)
                    · have hr : cmD w d2 d3 d4 d5 y = (false, y) := by rw [cm_8 c57_8, decide_eq_false (fun e => c290 ((ix_nI (by omega)).mpr e.2.1))]
                      refine V_iconst 321 C dX7_succeeds_320 rfl ic0 ?_
                      refine V_ireturn C dX7_succeeds_321 rfl (by decide) (by omega) (by omega) ?_
                      first | exact SCP_f hP hd hC2 hF2 hr | exact SCP_t hP hd hC2 hF2 hr | exact SCP_f hP hd hC FR.rf hr | exact SCP_t hP hd hC FR.rf hr
                    · have ia : d2 < y 2 := (ix_nI (by omega)).mp c290
                      have hru := cty_ru hC ia i2
                      obtain ⟨u0, u1⟩ := iU _ ia
                      refine V_aload_n 294 C dX7_succeeds_293 rfl rfl ?_
                      refine V_iload 296 C dX7_succeeds_294 rfl rfl ?_
                      refine V_callV 299 C dX7_succeeds_296 rfl mX1_hasTown tw907 fcX1 hC.1 (c_X1_hasTown l G _ _ q y hC hI (nI d3)) rfl rfl (by decide) ⟨by omega, by omega⟩ (Nat.le_of_ble_eq_true rfl) ?_
                      rintro _ _ _ ⟨rfl, rfl, rfl⟩
                      refine V_if_eqB 320 302 C dX7_succeeds_299 (by decide) rfl  (fun c299 => ?_) (fun c299 => ?_)
                      · have hr : cmD w d2 d3 d4 d5 y = (false, y) := by rw [cm_8 c57_8, decide_eq_false (fun e => c299 ((ix_nI (by omega)).mpr e.2.2.1))]
                        refine V_iconst 321 C dX7_succeeds_320 rfl ic0 ?_
                        refine V_ireturn C dX7_succeeds_321 rfl (by decide) (by omega) (by omega) ?_
                        first | exact SCP_f hP hd hC2 hF2 hr | exact SCP_t hP hd hC2 hF2 hr | exact SCP_f hP hd hC FR.rf hr | exact SCP_t hP hd hC FR.rf hr
                      · have ib : d3 < y 0 := (ix_nI (by omega)).mp c299
                        refine V_aload_n 303 C dX7_succeeds_302 rfl rfl ?_
                        refine V_get (k := 8) 306 C dX7_succeeds_303 rfl fcX1 tw141 (by decide) rfl hC.1 rfl ?_
                        refine V_iload_n 307 C dX7_succeeds_306 rfl rfl ?_
                        refine V_aald (j := d2) 308 C dX7_succeeds_307 rfl hfU rfl rfl (by omega) (by omega) (hU _ (by omega)) ?_
                        refine V_iload 310 C dX7_succeeds_308 rfl rfl ?_
                        refine V_callV 313 C dX7_succeeds_310 rfl mX6_isIn tw908 fcX6 hru (c_X6_isIn l G _ _ _ _ _ _ hru d3 (by omega) (by omega) (by omega)) rfl rfl (by decide) ⟨by omega, by omega⟩ (Nat.le_of_ble_eq_true rfl) ?_
                        rintro _ _ _ ⟨rfl, rfl, rfl⟩
                        refine V_if_eqB 320 316 C dX7_succeeds_313 (by decide) rfl  (fun c313 => ?_) (fun c313 => ?_)
                        · have hr : cmD w d2 d3 d4 d5 y = (false, y) := by rw [cm_8 c57_8, decide_eq_false (fun e => c313 (by have e4 := e.2.2.2; unfold tof at e4; split at e4; exact ⟨‹_›, e4⟩; unfold NO at e4; omega))]
                          refine V_iconst 321 C dX7_succeeds_320 rfl ic0 ?_
                          refine V_ireturn C dX7_succeeds_321 rfl (by decide) (by omega) (by omega) ?_
                          first | exact SCP_f hP hd hC2 hF2 hr | exact SCP_t hP hd hC2 hF2 hr | exact SCP_f hP hd hC FR.rf hr | exact SCP_t hP hd hC FR.rf hr
                        · have hr : cmD w d2 d3 d4 d5 y = (true, y) := by rw [cm_8 c57_8, decide_eq_true ⟨c282, ia, ib, by unfold tof; rw [if_pos c313.1]; exact c313.2⟩]
                          refine V_iconst 317 C dX7_succeeds_316 rfl ic1 ?_
                          refine V_goto 321 C dX7_succeeds_317 (by decide) ?_
                          refine V_ireturn C dX7_succeeds_321 rfl (by decide) (by omega) (by omega) ?_
                          first | exact SCP_f hP hd hC2 hF2 hr | exact SCP_t hP hd hC2 hF2 hr | exact SCP_f hP hd hC FR.rf hr | exact SCP_t hP hd hC FR.rf hr
                · skip
                  refine V_case 9 (fun c57_9 => ?_) (fun n57_9 => ?_)
                  · refine V_tsI 322 C dX7_succeeds_57 c57_9 (by decide) (by decide) (by decide) rfl (by decide) ?_
                    refine V_aload_n 323 C dX7_succeeds_322 rfl rfl ?_
                    refine V_iload_n 324 C dX7_succeeds_323 rfl rfl ?_
                    refine V_callV 327 C dX7_succeeds_324 rfl mX1_hasTown tw907 fcX1 hC.1 (c_X1_hasTown l G _ _ q y hC hI (nI d2)) rfl rfl (by decide) ⟨by omega, by omega⟩ (Nat.le_of_ble_eq_true rfl) ?_
                    rintro _ _ _ ⟨rfl, rfl, rfl⟩
                    refine V_if_eqB 360 330 C dX7_succeeds_327 (by decide) rfl  (fun c327 => ?_) (fun c327 => ?_)
                    · have hr : cmD w d2 d3 d4 d5 y = (false, y) := by rw [cm_9 c57_9, decide_eq_false (fun e => c327 ((ix_nI (by omega)).mpr e.1))]
                      refine V_iconst 361 C dX7_succeeds_360 rfl ic0 ?_
                      refine V_ireturn C dX7_succeeds_361 rfl (by decide) (by omega) (by omega) ?_
                      first | exact SCP_f hP hd hC2 hF2 hr | exact SCP_t hP hd hC2 hF2 hr | exact SCP_f hP hd hC FR.rf hr | exact SCP_t hP hd hC FR.rf hr | exact SCP_p hP hd hC hr rfl
                    · have ia : d2 < y 0 := (ix_nI (by omega)).mp c327
                      refine V_aload_n 331 C dX7_succeeds_330 rfl rfl ?_
                      refine V_iload 333 C dX7_succeeds_331 rfl rfl ?_
                      refine V_callV 336 C dX7_succeeds_333 rfl mX1_hasTown tw907 fcX1 hC.1 (c_X1_hasTown l G _ _ q y hC hI (nI d3)) rfl rfl (by decide) ⟨by omega, by omega⟩ (Nat.le_of_ble_eq_true rfl) ?_
                      rintro _ _ _ ⟨rfl, rfl, rfl⟩
                      refine V_if_eqB 360 339 C dX7_succeeds_336 (by decide) rfl  (fun c336 => ?_) (fun c336 => ?_)
                      · have hr : cmD w d2 d3 d4 d5 y = (false, y) := by rw [cm_9 c57_9, decide_eq_false (fun e => c336 ((ix_nI (by omega)).mpr e.2.1))]
                        refine V_iconst 361 C dX7_succeeds_360 rfl ic0 ?_
                        refine V_ireturn C dX7_succeeds_361 rfl (by decide) (by omega) (by omega) ?_
                        first | exact SCP_f hP hd hC2 hF2 hr | exact SCP_t hP hd hC2 hF2 hr | exact SCP_f hP hd hC FR.rf hr | exact SCP_t hP hd hC FR.rf hr | exact SCP_p hP hd hC hr rfl
                      · have ib : d3 < y 0 := (ix_nI (by omega)).mp c336
                        refine V_aload_n 340 C dX7_succeeds_339 rfl rfl ?_
                        refine V_aload_n 341 C dX7_succeeds_340 rfl rfl ?_
                        refine V_iload_n 342 C dX7_succeeds_341 rfl rfl ?_
                        refine V_iload 344 C dX7_succeeds_342 rfl rfl ?_
                        refine V_callV 347 C dX7_succeeds_344 rfl mX4_nearestFirst tw909 fcX4 hP.1 (c_X4_nearestFirst l G _ _ p f g hP q y hC hI hd d2 d3 (by omega) (by omega)) rfl rfl (by decide) ⟨by omega, by omega⟩ (Nat.le_of_ble_eq_true rfl) ?_
                        rintro _ _ _ ⟨rfl, rfl, f2, g2, rfl⟩
                        refine V_iconst 348 C dX7_succeeds_347 rfl ic0 ?_
                        refine V_iload 350 C dX7_succeeds_348 rfl rfl ?_
                        refine V_callSN (host := RX9) 353 C dX7_succeeds_350 rfl mX9_inRange (by decide +kernel) (c_X9_inRange l G _ _ _ _ _) rfl rfl (by decide) ⟨by omega, by omega⟩ (Nat.le_of_ble_eq_true rfl) ?_
                        rintro _ _ _ ⟨rfl, rfl, rfl⟩
                        refine V_if_eqB 360 356 C dX7_succeeds_353 (by decide) rfl  (fun c353 => ?_) (fun c353 => ?_)
                        · have hr : cmD w d2 d3 d4 d5 y = (false, y) := by rw [cm_9 c57_9, decide_eq_false (fun e => c353 ((inmo (dst_le _ _ _) (by omega)).mpr e.2.2))]
                          refine V_iconst 361 C dX7_succeeds_360 rfl ic0 ?_
                          refine V_ireturn C dX7_succeeds_361 rfl (by decide) (by omega) (by omega) ?_
                          first | exact SCP_f hP hd hC2 hF2 hr | exact SCP_t hP hd hC2 hF2 hr | exact SCP_f hP hd hC FR.rf hr | exact SCP_t hP hd hC FR.rf hr | exact SCP_p hP hd hC hr rfl
                        · have hr : cmD w d2 d3 d4 d5 y = (true, y) := by rw [cm_9 c57_9, decide_eq_true ⟨ia, ib, (inmo (dst_le _ _ _) (by omega)).mp c353⟩]
                          refine V_iconst 357 C dX7_succeeds_356 rfl ic1 ?_
                          refine V_goto 361 C dX7_succeeds_357 (by decide) ?_
                          refine V_ireturn C dX7_succeeds_361 rfl (by decide) (by omega) (by omega) ?_
                          first | exact SCP_f hP hd hC2 hF2 hr | exact SCP_t hP hd hC2 hF2 hr | exact SCP_f hP hd hC FR.rf hr | exact SCP_t hP hd hC FR.rf hr | exact SCP_p hP hd hC hr rfl
                  · skip
                    refine V_tsD 362 [1, 2, 3, 4, 5, 6, 7, 8, 9] C dX7_succeeds_57 (lo' := 1) rfl rfl (by omega) ⟨n57_1, n57_2, n57_3, n57_4, n57_5, n57_6, n57_7, n57_8, n57_9, trivial⟩ (by decide) (by decide) ?_
                    have hr : cmD w d2 d3 d4 d5 y = (false, y) := cm_0 (by omega)
                    refine V_iconst 363 C dX7_succeeds_362 rfl ic0 ?_
                    refine V_ireturn C dX7_succeeds_363 rfl (by decide) (by omega) (by omega) ?_
                    first | exact SCP_f hP hd hC2 hF2 hr | exact SCP_t hP hd hC2 hF2 hr | exact SCP_f hP hd hC FR.rf hr | exact SCP_t hP hd hC FR.rf hr

theorem dX7_turn_0 : decode cX7_turn 0 = .ok (.iload_n 0, 1) := by decide +kernel
theorem dX7_turn_1 : decode cX7_turn 1 = .ok (.bipush 16, 2) := by decide +kernel
theorem dX7_turn_3 : decode cX7_turn 3 = .ok (.idiv, 1) := by decide +kernel
theorem dX7_turn_4 : decode cX7_turn 4 = .ok (.istore_n 2, 1) := by decide +kernel
theorem dX7_turn_5 : decode cX7_turn 5 = .ok (.iload_n 0, 1) := by decide +kernel
theorem dX7_turn_6 : decode cX7_turn 6 = .ok (.bipush 16, 2) := by decide +kernel
theorem dX7_turn_8 : decode cX7_turn 8 = .ok (.irem, 1) := by decide +kernel
theorem dX7_turn_9 : decode cX7_turn 9 = .ok (.tableswitch 240 0 13 #[71, 79, 79, 107, 119, 142, 142, 160, 172, 172, 172, 190, 190, 209], 71) := by decide +kernel
theorem dX7_turn_80 : decode cX7_turn 80 = .ok (.aload_n 1, 1) := by decide +kernel
theorem dX7_turn_81 : decode cX7_turn 81 = .ok (.invokevirtual 74, 3) := by decide +kernel
theorem dX7_turn_84 : decode cX7_turn 84 = .ok (.pop, 1) := by decide +kernel
theorem dX7_turn_85 : decode cX7_turn 85 = .ok (.goto 175, 3) := by decide +kernel
theorem dX7_turn_88 : decode cX7_turn 88 = .ok (.aload_n 1, 1) := by decide +kernel
theorem dX7_turn_89 : decode cX7_turn 89 = .ok (.iload_n 2, 1) := by decide +kernel
theorem dX7_turn_90 : decode cX7_turn 90 = .ok (.bipush 6, 2) := by decide +kernel
theorem dX7_turn_92 : decode cX7_turn 92 = .ok (.irem, 1) := by decide +kernel
theorem dX7_turn_93 : decode cX7_turn 93 = .ok (.iload_n 2, 1) := by decide +kernel
theorem dX7_turn_94 : decode cX7_turn 94 = .ok (.bipush 8, 2) := by decide +kernel
theorem dX7_turn_96 : decode cX7_turn 96 = .ok (.idiv, 1) := by decide +kernel
theorem dX7_turn_97 : decode cX7_turn 97 = .ok (.bipush 6, 2) := by decide +kernel
theorem dX7_turn_99 : decode cX7_turn 99 = .ok (.irem, 1) := by decide +kernel
theorem dX7_turn_100 : decode cX7_turn 100 = .ok (.iconst 1, 1) := by decide +kernel
theorem dX7_turn_101 : decode cX7_turn 101 = .ok (.iload_n 2, 1) := by decide +kernel
theorem dX7_turn_102 : decode cX7_turn 102 = .ok (.bipush 64, 2) := by decide +kernel
theorem dX7_turn_104 : decode cX7_turn 104 = .ok (.idiv, 1) := by decide +kernel
theorem dX7_turn_105 : decode cX7_turn 105 = .ok (.bipush 20, 2) := by decide +kernel
theorem dX7_turn_107 : decode cX7_turn 107 = .ok (.irem, 1) := by decide +kernel
theorem dX7_turn_108 : decode cX7_turn 108 = .ok (.iadd, 1) := by decide +kernel
theorem dX7_turn_109 : decode cX7_turn 109 = .ok (.invokevirtual 78, 3) := by decide +kernel
theorem dX7_turn_112 : decode cX7_turn 112 = .ok (.pop, 1) := by decide +kernel
theorem dX7_turn_113 : decode cX7_turn 113 = .ok (.goto 147, 3) := by decide +kernel
theorem dX7_turn_116 : decode cX7_turn 116 = .ok (.aload_n 1, 1) := by decide +kernel
theorem dX7_turn_117 : decode cX7_turn 117 = .ok (.iload_n 2, 1) := by decide +kernel
theorem dX7_turn_118 : decode cX7_turn 118 = .ok (.bipush 6, 2) := by decide +kernel
theorem dX7_turn_120 : decode cX7_turn 120 = .ok (.irem, 1) := by decide +kernel
theorem dX7_turn_121 : decode cX7_turn 121 = .ok (.invokevirtual 82, 3) := by decide +kernel
theorem dX7_turn_124 : decode cX7_turn 124 = .ok (.pop, 1) := by decide +kernel
theorem dX7_turn_125 : decode cX7_turn 125 = .ok (.goto 135, 3) := by decide +kernel
theorem dX7_turn_128 : decode cX7_turn 128 = .ok (.aload_n 1, 1) := by decide +kernel
theorem dX7_turn_129 : decode cX7_turn 129 = .ok (.iload_n 2, 1) := by decide +kernel
theorem dX7_turn_130 : decode cX7_turn 130 = .ok (.bipush 6, 2) := by decide +kernel
theorem dX7_turn_132 : decode cX7_turn 132 = .ok (.irem, 1) := by decide +kernel
theorem dX7_turn_133 : decode cX7_turn 133 = .ok (.iload_n 2, 1) := by decide +kernel
theorem dX7_turn_134 : decode cX7_turn 134 = .ok (.bipush 8, 2) := by decide +kernel
theorem dX7_turn_136 : decode cX7_turn 136 = .ok (.idiv, 1) := by decide +kernel
theorem dX7_turn_137 : decode cX7_turn 137 = .ok (.ldc 85, 2) := by decide +kernel
theorem dX7_turn_139 : decode cX7_turn 139 = .ok (.irem, 1) := by decide +kernel
theorem dX7_turn_140 : decode cX7_turn 140 = .ok (.iload_n 2, 1) := by decide +kernel
theorem dX7_turn_141 : decode cX7_turn 141 = .ok (.bipush 10, 2) := by decide +kernel
theorem dX7_turn_143 : decode cX7_turn 143 = .ok (.irem, 1) := by decide +kernel
theorem dX7_turn_144 : decode cX7_turn 144 = .ok (.invokevirtual 86, 3) := by decide +kernel
theorem dX7_turn_147 : decode cX7_turn 147 = .ok (.pop, 1) := by decide +kernel
theorem dX7_turn_148 : decode cX7_turn 148 = .ok (.goto 112, 3) := by decide +kernel
theorem dX7_turn_151 : decode cX7_turn 151 = .ok (.aload_n 1, 1) := by decide +kernel
theorem dX7_turn_152 : decode cX7_turn 152 = .ok (.iload_n 2, 1) := by decide +kernel
theorem dX7_turn_153 : decode cX7_turn 153 = .ok (.iconst 5, 1) := by decide +kernel
theorem dX7_turn_154 : decode cX7_turn 154 = .ok (.irem, 1) := by decide +kernel
theorem dX7_turn_155 : decode cX7_turn 155 = .ok (.iload_n 2, 1) := by decide +kernel
theorem dX7_turn_156 : decode cX7_turn 156 = .ok (.bipush 8, 2) := by decide +kernel
theorem dX7_turn_158 : decode cX7_turn 158 = .ok (.idiv, 1) := by decide +kernel
theorem dX7_turn_159 : decode cX7_turn 159 = .ok (.bipush 12, 2) := by decide +kernel
theorem dX7_turn_161 : decode cX7_turn 161 = .ok (.irem, 1) := by decide +kernel
theorem dX7_turn_162 : decode cX7_turn 162 = .ok (.invokevirtual 11, 3) := by decide +kernel
theorem dX7_turn_165 : decode cX7_turn 165 = .ok (.pop, 1) := by decide +kernel
theorem dX7_turn_166 : decode cX7_turn 166 = .ok (.goto 94, 3) := by decide +kernel
theorem dX7_turn_169 : decode cX7_turn 169 = .ok (.aload_n 1, 1) := by decide +kernel
theorem dX7_turn_170 : decode cX7_turn 170 = .ok (.iload_n 2, 1) := by decide +kernel
theorem dX7_turn_171 : decode cX7_turn 171 = .ok (.bipush 12, 2) := by decide +kernel
theorem dX7_turn_173 : decode cX7_turn 173 = .ok (.irem, 1) := by decide +kernel
theorem dX7_turn_174 : decode cX7_turn 174 = .ok (.invokevirtual 17, 3) := by decide +kernel
theorem dX7_turn_177 : decode cX7_turn 177 = .ok (.pop, 1) := by decide +kernel
theorem dX7_turn_178 : decode cX7_turn 178 = .ok (.goto 82, 3) := by decide +kernel
theorem dX7_turn_181 : decode cX7_turn 181 = .ok (.aload_n 1, 1) := by decide +kernel
theorem dX7_turn_182 : decode cX7_turn 182 = .ok (.iload_n 2, 1) := by decide +kernel
theorem dX7_turn_183 : decode cX7_turn 183 = .ok (.iconst 5, 1) := by decide +kernel
theorem dX7_turn_184 : decode cX7_turn 184 = .ok (.irem, 1) := by decide +kernel
theorem dX7_turn_185 : decode cX7_turn 185 = .ok (.iload_n 2, 1) := by decide +kernel
theorem dX7_turn_186 : decode cX7_turn 186 = .ok (.bipush 8, 2) := by decide +kernel
theorem dX7_turn_188 : decode cX7_turn 188 = .ok (.idiv, 1) := by decide +kernel
theorem dX7_turn_189 : decode cX7_turn 189 = .ok (.bipush 10, 2) := by decide +kernel
theorem dX7_turn_191 : decode cX7_turn 191 = .ok (.irem, 1) := by decide +kernel
theorem dX7_turn_192 : decode cX7_turn 192 = .ok (.invokevirtual 21, 3) := by decide +kernel
theorem dX7_turn_195 : decode cX7_turn 195 = .ok (.pop, 1) := by decide +kernel
theorem dX7_turn_196 : decode cX7_turn 196 = .ok (.goto 64, 3) := by decide +kernel
theorem dX7_turn_199 : decode cX7_turn 199 = .ok (.aload_n 1, 1) := by decide +kernel
theorem dX7_turn_200 : decode cX7_turn 200 = .ok (.iload_n 2, 1) := by decide +kernel
theorem dX7_turn_201 : decode cX7_turn 201 = .ok (.bipush 12, 2) := by decide +kernel
theorem dX7_turn_203 : decode cX7_turn 203 = .ok (.irem, 1) := by decide +kernel
theorem dX7_turn_204 : decode cX7_turn 204 = .ok (.iload_n 2, 1) := by decide +kernel
theorem dX7_turn_205 : decode cX7_turn 205 = .ok (.bipush 16, 2) := by decide +kernel
theorem dX7_turn_207 : decode cX7_turn 207 = .ok (.idiv, 1) := by decide +kernel
theorem dX7_turn_208 : decode cX7_turn 208 = .ok (.bipush 10, 2) := by decide +kernel
theorem dX7_turn_210 : decode cX7_turn 210 = .ok (.irem, 1) := by decide +kernel
theorem dX7_turn_211 : decode cX7_turn 211 = .ok (.invokevirtual 24, 3) := by decide +kernel
theorem dX7_turn_214 : decode cX7_turn 214 = .ok (.pop, 1) := by decide +kernel
theorem dX7_turn_215 : decode cX7_turn 215 = .ok (.goto 45, 3) := by decide +kernel
theorem dX7_turn_218 : decode cX7_turn 218 = .ok (.aload_n 1, 1) := by decide +kernel
theorem dX7_turn_219 : decode cX7_turn 219 = .ok (.iload_n 2, 1) := by decide +kernel
theorem dX7_turn_220 : decode cX7_turn 220 = .ok (.bipush 12, 2) := by decide +kernel
theorem dX7_turn_222 : decode cX7_turn 222 = .ok (.irem, 1) := by decide +kernel
theorem dX7_turn_223 : decode cX7_turn 223 = .ok (.iload_n 2, 1) := by decide +kernel
theorem dX7_turn_224 : decode cX7_turn 224 = .ok (.bipush 16, 2) := by decide +kernel
theorem dX7_turn_226 : decode cX7_turn 226 = .ok (.idiv, 1) := by decide +kernel
theorem dX7_turn_227 : decode cX7_turn 227 = .ok (.bipush 12, 2) := by decide +kernel
theorem dX7_turn_229 : decode cX7_turn 229 = .ok (.irem, 1) := by decide +kernel
theorem dX7_turn_230 : decode cX7_turn 230 = .ok (.iload_n 2, 1) := by decide +kernel
theorem dX7_turn_231 : decode cX7_turn 231 = .ok (.sipush 256, 3) := by decide +kernel
theorem dX7_turn_234 : decode cX7_turn 234 = .ok (.idiv, 1) := by decide +kernel
theorem dX7_turn_235 : decode cX7_turn 235 = .ok (.bipush 12, 2) := by decide +kernel
theorem dX7_turn_237 : decode cX7_turn 237 = .ok (.irem, 1) := by decide +kernel
theorem dX7_turn_238 : decode cX7_turn 238 = .ok (.iload_n 2, 1) := by decide +kernel
theorem dX7_turn_239 : decode cX7_turn 239 = .ok (.bipush 10, 2) := by decide +kernel
theorem dX7_turn_241 : decode cX7_turn 241 = .ok (.irem, 1) := by decide +kernel
theorem dX7_turn_242 : decode cX7_turn 242 = .ok (.invokevirtual 89, 3) := by decide +kernel
theorem dX7_turn_245 : decode cX7_turn 245 = .ok (.pop, 1) := by decide +kernel
theorem dX7_turn_246 : decode cX7_turn 246 = .ok (.goto 14, 3) := by decide +kernel
theorem dX7_turn_249 : decode cX7_turn 249 = .ok (.aload_n 1, 1) := by decide +kernel
theorem dX7_turn_250 : decode cX7_turn 250 = .ok (.iconst 1, 1) := by decide +kernel
theorem dX7_turn_251 : decode cX7_turn 251 = .ok (.iload_n 2, 1) := by decide +kernel
theorem dX7_turn_252 : decode cX7_turn 252 = .ok (.bipush 20, 2) := by decide +kernel
theorem dX7_turn_254 : decode cX7_turn 254 = .ok (.irem, 1) := by decide +kernel
theorem dX7_turn_255 : decode cX7_turn 255 = .ok (.iadd, 1) := by decide +kernel
theorem dX7_turn_256 : decode cX7_turn 256 = .ok (.invokevirtual 27, 3) := by decide +kernel
theorem dX7_turn_259 : decode cX7_turn 259 = .ok (.pop, 1) := by decide +kernel
theorem dX7_turn_260 : decode cX7_turn 260 = .ok (.return_, 1) := by decide +kernel
set_option maxRecDepth 100000 in
set_option maxHeartbeats 4000000 in
theorem c_X7_turn (l : Launch) (G : GT) (n : Nat) (h : AH) (r : Nat) (hr : r < 2 ^ 31) (q : Nat) (y : Nat → Nat) (hC : cty q y h) (hI : Iv y) : Ct l yX7_turn cX7_turn 3 none 5 0 0 G n h [.int (nI r), .ref q] (Rv n (fun h' => cty q (tnA (r % 16) (r / 16) y).2 h' ∧ FR q h h')) := by
  refine Ct_of mX7_turn.1 (Nat.le_of_ble_eq_true rfl) ?_
  intro p₀ e₀ s₀ m₀ as₀ bl₀ me₀ c₀ C hin
  refine V_Le (L' := [(0, .int (nI r)), (1, .ref q)]) rfl ?_
  refine V_iload_n 1 C dX7_turn_0 rfl rfl ?_
  refine V_bipush 3 C dX7_turn_1 rfl bip16 ?_
  refine V_idivN 4 C dX7_turn_3 rfl (by omega) (by omega) (by omega) ?_
  refine V_istore_n 5 C dX7_turn_4 rfl (by decide) (L' := [(0, _), (1, _), (2, _)]) rfl ?_
  refine V_iload_n 6 C dX7_turn_5 rfl rfl ?_
  refine V_bipush 8 C dX7_turn_6 rfl bip16 ?_
  refine V_iremN 9 C dX7_turn_8 rfl (by omega) (by omega) (by omega) ?_
  refine V_case 0 (fun c9_0 => ?_) (fun n9_0 => ?_)
  · refine V_tsI 80 C dX7_turn_9 c9_0 (by decide) (by decide) (by decide) rfl (by decide) ?_
    refine V_aload_n 81 C dX7_turn_80 rfl rfl ?_
    refine V_callV 84 C dX7_turn_81 rfl mX1_addTown tw924 fcX1 hC.1 (c_X1_addTown l G _ _ q y hC hI) rfl rfl (by decide) ⟨by omega, by omega⟩ (Nat.le_of_ble_eq_true rfl) ?_
    rintro _ _ h9 ⟨rfl, rfl, hC2, hF2⟩
    rw [show aTw y = tnA (r % 16) (r / 16) y from (tn_0 (by omega)).symm] at hC2
    refine V_pop 85 C dX7_turn_84 rfl rfl ?_
    refine V_goto 260 C dX7_turn_85 (by decide) ?_
    refine V_return C dX7_turn_260 rfl (by omega) (by omega) ?_
    exact ⟨rfl, rfl, hC2, hF2⟩
  · skip
    refine V_case 1 (fun c9_1 => ?_) (fun n9_1 => ?_)
    · refine V_tsI 88 C dX7_turn_9 c9_1 (by decide) (by decide) (by decide) rfl (by decide) ?_
      refine V_aload_n 89 C dX7_turn_88 rfl rfl ?_
      refine V_iload_n 90 C dX7_turn_89 rfl rfl ?_
      refine V_bipush 92 C dX7_turn_90 rfl bip6 ?_
      refine V_iremN 93 C dX7_turn_92 rfl (by omega) (by omega) (by omega) ?_
      refine V_iload_n 94 C dX7_turn_93 rfl rfl ?_
      refine V_bipush 96 C dX7_turn_94 rfl bip8 ?_
      refine V_idivN 97 C dX7_turn_96 rfl (by omega) (by omega) (by omega) ?_
      refine V_bipush 99 C dX7_turn_97 rfl bip6 ?_
      refine V_iremN 100 C dX7_turn_99 rfl (by omega) (by omega) (by omega) ?_
      refine V_iconst 101 C dX7_turn_100 rfl ic1 ?_
      refine V_iload_n 102 C dX7_turn_101 rfl rfl ?_
      refine V_bipush 104 C dX7_turn_102 rfl bip64 ?_
      refine V_idivN 105 C dX7_turn_104 rfl (by omega) (by omega) (by omega) ?_
      refine V_bipush 107 C dX7_turn_105 rfl bip20 ?_
      refine V_iremN 108 C dX7_turn_107 rfl (by omega) (by omega) (by omega) ?_
      refine V_iaddN 109 C dX7_turn_108 rfl  ?_
      refine V_callV 112 C dX7_turn_109 rfl mX1_addRoad tw925 fcX1 hC.1 (c_X1_addRoad l G _ _ q y hC hI (nI (r / 16 % 6)) (nI (r / 16 / 8 % 6)) (nI (1 + r / 16 / 64 % 20))) rfl rfl (by decide) ⟨by omega, by omega⟩ (Nat.le_of_ble_eq_true rfl) ?_
      rintro _ _ h9 ⟨rfl, rfl, hC2, hF2⟩
      rw [show aRd y (nI (r / 16 % 6)) (nI (r / 16 / 8 % 6)) (nI (1 + r / 16 / 64 % 20)) = tnA (r % 16) (r / 16) y from (tn_1 (by omega)).symm] at hC2
      refine V_pop 113 C dX7_turn_112 rfl rfl ?_
      refine V_goto 260 C dX7_turn_113 (by decide) ?_
      refine V_return C dX7_turn_260 rfl (by omega) (by omega) ?_
      exact ⟨rfl, rfl, hC2, hF2⟩
    · skip
      refine V_case 2 (fun c9_2 => ?_) (fun n9_2 => ?_)
      · refine V_tsI 88 C dX7_turn_9 c9_2 (by decide) (by decide) (by decide) rfl (by decide) ?_
        refine V_aload_n 89 C dX7_turn_88 rfl rfl ?_
        refine V_iload_n 90 C dX7_turn_89 rfl rfl ?_
        refine V_bipush 92 C dX7_turn_90 rfl bip6 ?_
        refine V_iremN 93 C dX7_turn_92 rfl (by omega) (by omega) (by omega) ?_
        refine V_iload_n 94 C dX7_turn_93 rfl rfl ?_
        refine V_bipush 96 C dX7_turn_94 rfl bip8 ?_
        refine V_idivN 97 C dX7_turn_96 rfl (by omega) (by omega) (by omega) ?_
        refine V_bipush 99 C dX7_turn_97 rfl bip6 ?_
        refine V_iremN 100 C dX7_turn_99 rfl (by omega) (by omega) (by omega) ?_
        refine V_iconst 101 C dX7_turn_100 rfl ic1 ?_
        refine V_iload_n 102 C dX7_turn_101 rfl rfl ?_
        refine V_bipush 104 C dX7_turn_102 rfl bip64 ?_
        refine V_idivN 105 C dX7_turn_104 rfl (by omega) (by omega) (by omega) ?_
        refine V_bipush 107 C dX7_turn_105 rfl bip20 ?_
        refine V_iremN 108 C dX7_turn_107 rfl (by omega) (by omega) (by omega) ?_
        refine V_iaddN 109 C dX7_turn_108 rfl  ?_
        refine V_callV 112 C dX7_turn_109 rfl mX1_addRoad tw925 fcX1 hC.1 (c_X1_addRoad l G _ _ q y hC hI (nI (r / 16 % 6)) (nI (r / 16 / 8 % 6)) (nI (1 + r / 16 / 64 % 20))) rfl rfl (by decide) ⟨by omega, by omega⟩ (Nat.le_of_ble_eq_true rfl) ?_
        rintro _ _ h9 ⟨rfl, rfl, hC2, hF2⟩
        rw [show aRd y (nI (r / 16 % 6)) (nI (r / 16 / 8 % 6)) (nI (1 + r / 16 / 64 % 20)) = tnA (r % 16) (r / 16) y from (tn_1 (by omega)).symm] at hC2
        refine V_pop 113 C dX7_turn_112 rfl rfl ?_
        refine V_goto 260 C dX7_turn_113 (by decide) ?_
        refine V_return C dX7_turn_260 rfl (by omega) (by omega) ?_
        exact ⟨rfl, rfl, hC2, hF2⟩
      · skip
        refine V_case 3 (fun c9_3 => ?_) (fun n9_3 => ?_)
        · refine V_tsI 116 C dX7_turn_9 c9_3 (by decide) (by decide) (by decide) rfl (by decide) ?_
          refine V_aload_n 117 C dX7_turn_116 rfl rfl ?_
          refine V_iload_n 118 C dX7_turn_117 rfl rfl ?_
          refine V_bipush 120 C dX7_turn_118 rfl bip6 ?_
          refine V_iremN 121 C dX7_turn_120 rfl (by omega) (by omega) (by omega) ?_
          refine V_callV 124 C dX7_turn_121 rfl mX1_addRunner tw926 fcX1 hC.1 (c_X1_addRunner l G _ _ q y hC hI (nI (r / 16 % 6))) rfl rfl (by decide) ⟨by omega, by omega⟩ (Nat.le_of_ble_eq_true rfl) ?_
          rintro _ _ h9 ⟨rfl, rfl, hC2, hF2⟩
          rw [show aRu y (nI (r / 16 % 6)) = tnA (r % 16) (r / 16) y from (tn_2 (by omega)).symm] at hC2
          refine V_pop 125 C dX7_turn_124 rfl rfl ?_
          refine V_goto 260 C dX7_turn_125 (by decide) ?_
          refine V_return C dX7_turn_260 rfl (by omega) (by omega) ?_
          exact ⟨rfl, rfl, hC2, hF2⟩
        · skip
          refine V_case 4 (fun c9_4 => ?_) (fun n9_4 => ?_)
          · refine V_tsI 128 C dX7_turn_9 c9_4 (by decide) (by decide) (by decide) rfl (by decide) ?_
            refine V_aload_n 129 C dX7_turn_128 rfl rfl ?_
            refine V_iload_n 130 C dX7_turn_129 rfl rfl ?_
            refine V_bipush 132 C dX7_turn_130 rfl bip6 ?_
            refine V_iremN 133 C dX7_turn_132 rfl (by omega) (by omega) (by omega) ?_
            refine V_iload_n 134 C dX7_turn_133 rfl rfl ?_
            refine V_bipush 136 C dX7_turn_134 rfl bip8 ?_
            refine V_idivN 137 C dX7_turn_136 rfl (by omega) (by omega) (by omega) ?_
            refine V_ldc 139 C dX7_turn_137 rfl tw927 ?_
            rw [show (1000000 : Int32) = nI 1000000 from by decide]
            refine V_iremN 140 C dX7_turn_139 rfl (by omega) (by omega) (by omega) ?_
            refine V_iload_n 141 C dX7_turn_140 rfl rfl ?_
            refine V_bipush 143 C dX7_turn_141 rfl bip10 ?_
            refine V_iremN 144 C dX7_turn_143 rfl (by omega) (by omega) (by omega) ?_
            refine V_callV 147 C dX7_turn_144 rfl mX1_addMessage tw928 fcX1 hC.1 (c_X1_addMessage l G _ _ q y hC hI (nI (r / 16 % 6)) (nI (r / 16 / 8 % 1000000)) (nI (r / 16 % 10))) rfl rfl (by decide) ⟨by omega, by omega⟩ (Nat.le_of_ble_eq_true rfl) ?_
            rintro _ _ h9 ⟨rfl, rfl, hC2, hF2⟩
            rw [show aWr y (nI (r / 16 % 6)) (nI (r / 16 / 8 % 1000000)) (nI (r / 16 % 10)) = tnA (r % 16) (r / 16) y from (tn_3 (by omega)).symm] at hC2
            refine V_pop 148 C dX7_turn_147 rfl rfl ?_
            refine V_goto 260 C dX7_turn_148 (by decide) ?_
            refine V_return C dX7_turn_260 rfl (by omega) (by omega) ?_
            exact ⟨rfl, rfl, hC2, hF2⟩
          · skip
            refine V_case 5 (fun c9_5 => ?_) (fun n9_5 => ?_)
            · refine V_tsI 151 C dX7_turn_9 c9_5 (by decide) (by decide) (by decide) rfl (by decide) ?_
              refine V_aload_n 152 C dX7_turn_151 rfl rfl ?_
              refine V_iload_n 153 C dX7_turn_152 rfl rfl ?_
              refine V_iconst 154 C dX7_turn_153 rfl ic5 ?_
              refine V_iremN 155 C dX7_turn_154 rfl (by omega) (by omega) (by omega) ?_
              refine V_iload_n 156 C dX7_turn_155 rfl rfl ?_
              refine V_bipush 158 C dX7_turn_156 rfl bip8 ?_
              refine V_idivN 159 C dX7_turn_158 rfl (by omega) (by omega) (by omega) ?_
              refine V_bipush 161 C dX7_turn_159 rfl bip12 ?_
              refine V_iremN 162 C dX7_turn_161 rfl (by omega) (by omega) (by omega) ?_
              refine V_callV 165 C dX7_turn_162 rfl mX1_handOver tw899 fcX1 hC.1 (c_X1_handOver l G _ _ q y hC hI (nI (r / 16 % 5)) (nI (r / 16 / 8 % 12))) rfl rfl (by decide) ⟨by omega, by omega⟩ (Nat.le_of_ble_eq_true rfl) ?_
              rintro _ _ h9 ⟨rfl, rfl, hC2, hF2⟩
              rw [show aTk y (nI (r / 16 % 5)) (nI (r / 16 / 8 % 12)) = tnA (r % 16) (r / 16) y from (tn_4 (by omega)).symm] at hC2
              refine V_pop 166 C dX7_turn_165 rfl rfl ?_
              refine V_goto 260 C dX7_turn_166 (by decide) ?_
              refine V_return C dX7_turn_260 rfl (by omega) (by omega) ?_
              exact ⟨rfl, rfl, hC2, hF2⟩
            · skip
              refine V_case 6 (fun c9_6 => ?_) (fun n9_6 => ?_)
              · refine V_tsI 151 C dX7_turn_9 c9_6 (by decide) (by decide) (by decide) rfl (by decide) ?_
                refine V_aload_n 152 C dX7_turn_151 rfl rfl ?_
                refine V_iload_n 153 C dX7_turn_152 rfl rfl ?_
                refine V_iconst 154 C dX7_turn_153 rfl ic5 ?_
                refine V_iremN 155 C dX7_turn_154 rfl (by omega) (by omega) (by omega) ?_
                refine V_iload_n 156 C dX7_turn_155 rfl rfl ?_
                refine V_bipush 158 C dX7_turn_156 rfl bip8 ?_
                refine V_idivN 159 C dX7_turn_158 rfl (by omega) (by omega) (by omega) ?_
                refine V_bipush 161 C dX7_turn_159 rfl bip12 ?_
                refine V_iremN 162 C dX7_turn_161 rfl (by omega) (by omega) (by omega) ?_
                refine V_callV 165 C dX7_turn_162 rfl mX1_handOver tw899 fcX1 hC.1 (c_X1_handOver l G _ _ q y hC hI (nI (r / 16 % 5)) (nI (r / 16 / 8 % 12))) rfl rfl (by decide) ⟨by omega, by omega⟩ (Nat.le_of_ble_eq_true rfl) ?_
                rintro _ _ h9 ⟨rfl, rfl, hC2, hF2⟩
                rw [show aTk y (nI (r / 16 % 5)) (nI (r / 16 / 8 % 12)) = tnA (r % 16) (r / 16) y from (tn_4 (by omega)).symm] at hC2
                refine V_pop 166 C dX7_turn_165 rfl rfl ?_
                refine V_goto 260 C dX7_turn_166 (by decide) ?_
                refine V_return C dX7_turn_260 rfl (by omega) (by omega) ?_
                exact ⟨rfl, rfl, hC2, hF2⟩
              · skip
                refine V_case 7 (fun c9_7 => ?_) (fun n9_7 => ?_)
                · refine V_tsI 169 C dX7_turn_9 c9_7 (by decide) (by decide) (by decide) rfl (by decide) ?_
                  refine V_aload_n 170 C dX7_turn_169 rfl rfl ?_
                  refine V_iload_n 171 C dX7_turn_170 rfl rfl ?_
                  refine V_bipush 173 C dX7_turn_171 rfl bip12 ?_
                  refine V_iremN 174 C dX7_turn_173 rfl (by omega) (by omega) (by omega) ?_
                  refine V_callV 177 C dX7_turn_174 rfl mX1_layDown tw900 fcX1 hC.1 (c_X1_layDown l G _ _ q y hC hI (nI (r / 16 % 12))) rfl rfl (by decide) ⟨by omega, by omega⟩ (Nat.le_of_ble_eq_true rfl) ?_
                  rintro _ _ h9 ⟨rfl, rfl, hC2, hF2⟩
                  rw [show aLy y (nI (r / 16 % 12)) = tnA (r % 16) (r / 16) y from (tn_5 (by omega)).symm] at hC2
                  refine V_pop 178 C dX7_turn_177 rfl rfl ?_
                  refine V_goto 260 C dX7_turn_178 (by decide) ?_
                  refine V_return C dX7_turn_260 rfl (by omega) (by omega) ?_
                  exact ⟨rfl, rfl, hC2, hF2⟩
                · skip
                  refine V_case 8 (fun c9_8 => ?_) (fun n9_8 => ?_)
                  · refine V_tsI 181 C dX7_turn_9 c9_8 (by decide) (by decide) (by decide) rfl (by decide) ?_
                    refine V_aload_n 182 C dX7_turn_181 rfl rfl ?_
                    refine V_iload_n 183 C dX7_turn_182 rfl rfl ?_
                    refine V_iconst 184 C dX7_turn_183 rfl ic5 ?_
                    refine V_iremN 185 C dX7_turn_184 rfl (by omega) (by omega) (by omega) ?_
                    refine V_iload_n 186 C dX7_turn_185 rfl rfl ?_
                    refine V_bipush 188 C dX7_turn_186 rfl bip8 ?_
                    refine V_idivN 189 C dX7_turn_188 rfl (by omega) (by omega) (by omega) ?_
                    refine V_bipush 191 C dX7_turn_189 rfl bip10 ?_
                    refine V_iremN 192 C dX7_turn_191 rfl (by omega) (by omega) (by omega) ?_
                    refine V_callV 195 C dX7_turn_192 rfl mX1_send tw901 fcX1 hC.1 (c_X1_send l G _ _ q y hC hI (nI (r / 16 % 5)) (nI (r / 16 / 8 % 10))) rfl rfl (by decide) ⟨by omega, by omega⟩ (Nat.le_of_ble_eq_true rfl) ?_
                    rintro _ _ h9 ⟨rfl, rfl, hC2, hF2⟩
                    rw [show aGo y (nI (r / 16 % 5)) (nI (r / 16 / 8 % 10)) = tnA (r % 16) (r / 16) y from (tn_6 (by omega)).symm] at hC2
                    refine V_pop 196 C dX7_turn_195 rfl rfl ?_
                    refine V_goto 260 C dX7_turn_196 (by decide) ?_
                    refine V_return C dX7_turn_260 rfl (by omega) (by omega) ?_
                    exact ⟨rfl, rfl, hC2, hF2⟩
                  · skip
                    refine V_case 9 (fun c9_9 => ?_) (fun n9_9 => ?_)
                    · refine V_tsI 181 C dX7_turn_9 c9_9 (by decide) (by decide) (by decide) rfl (by decide) ?_
                      refine V_aload_n 182 C dX7_turn_181 rfl rfl ?_
                      refine V_iload_n 183 C dX7_turn_182 rfl rfl ?_
                      refine V_iconst 184 C dX7_turn_183 rfl ic5 ?_
                      refine V_iremN 185 C dX7_turn_184 rfl (by omega) (by omega) (by omega) ?_
                      refine V_iload_n 186 C dX7_turn_185 rfl rfl ?_
                      refine V_bipush 188 C dX7_turn_186 rfl bip8 ?_
                      refine V_idivN 189 C dX7_turn_188 rfl (by omega) (by omega) (by omega) ?_
                      refine V_bipush 191 C dX7_turn_189 rfl bip10 ?_
                      refine V_iremN 192 C dX7_turn_191 rfl (by omega) (by omega) (by omega) ?_
                      refine V_callV 195 C dX7_turn_192 rfl mX1_send tw901 fcX1 hC.1 (c_X1_send l G _ _ q y hC hI (nI (r / 16 % 5)) (nI (r / 16 / 8 % 10))) rfl rfl (by decide) ⟨by omega, by omega⟩ (Nat.le_of_ble_eq_true rfl) ?_
                      rintro _ _ h9 ⟨rfl, rfl, hC2, hF2⟩
                      rw [show aGo y (nI (r / 16 % 5)) (nI (r / 16 / 8 % 10)) = tnA (r % 16) (r / 16) y from (tn_6 (by omega)).symm] at hC2
                      refine V_pop 196 C dX7_turn_195 rfl rfl ?_
                      refine V_goto 260 C dX7_turn_196 (by decide) ?_
                      refine V_return C dX7_turn_260 rfl (by omega) (by omega) ?_
                      exact ⟨rfl, rfl, hC2, hF2⟩
                    · skip
                      refine V_case 10 (fun c9_10 => ?_) (fun n9_10 => ?_)
                      · refine V_tsI 181 C dX7_turn_9 c9_10 (by decide) (by decide) (by decide) rfl (by decide) ?_
                        refine V_aload_n 182 C dX7_turn_181 rfl rfl ?_
                        refine V_iload_n 183 C dX7_turn_182 rfl rfl ?_
                        refine V_iconst 184 C dX7_turn_183 rfl ic5 ?_
                        refine V_iremN 185 C dX7_turn_184 rfl (by omega) (by omega) (by omega) ?_
                        refine V_iload_n 186 C dX7_turn_185 rfl rfl ?_
                        refine V_bipush 188 C dX7_turn_186 rfl bip8 ?_
                        refine V_idivN 189 C dX7_turn_188 rfl (by omega) (by omega) (by omega) ?_
                        refine V_bipush 191 C dX7_turn_189 rfl bip10 ?_
                        refine V_iremN 192 C dX7_turn_191 rfl (by omega) (by omega) (by omega) ?_
                        refine V_callV 195 C dX7_turn_192 rfl mX1_send tw901 fcX1 hC.1 (c_X1_send l G _ _ q y hC hI (nI (r / 16 % 5)) (nI (r / 16 / 8 % 10))) rfl rfl (by decide) ⟨by omega, by omega⟩ (Nat.le_of_ble_eq_true rfl) ?_
                        rintro _ _ h9 ⟨rfl, rfl, hC2, hF2⟩
                        rw [show aGo y (nI (r / 16 % 5)) (nI (r / 16 / 8 % 10)) = tnA (r % 16) (r / 16) y from (tn_6 (by omega)).symm] at hC2
                        refine V_pop 196 C dX7_turn_195 rfl rfl ?_
                        refine V_goto 260 C dX7_turn_196 (by decide) ?_
                        refine V_return C dX7_turn_260 rfl (by omega) (by omega) ?_
                        exact ⟨rfl, rfl, hC2, hF2⟩
                      · skip
                        refine V_case 11 (fun c9_11 => ?_) (fun n9_11 => ?_)
                        · refine V_tsI 199 C dX7_turn_9 c9_11 (by decide) (by decide) (by decide) rfl (by decide) ?_
                          refine V_aload_n 200 C dX7_turn_199 rfl rfl ?_
                          refine V_iload_n 201 C dX7_turn_200 rfl rfl ?_
                          refine V_bipush 203 C dX7_turn_201 rfl bip12 ?_
                          refine V_iremN 204 C dX7_turn_203 rfl (by omega) (by omega) (by omega) ?_
                          refine V_iload_n 205 C dX7_turn_204 rfl rfl ?_
                          refine V_bipush 207 C dX7_turn_205 rfl bip16 ?_
                          refine V_idivN 208 C dX7_turn_207 rfl (by omega) (by omega) (by omega) ?_
                          refine V_bipush 210 C dX7_turn_208 rfl bip10 ?_
                          refine V_iremN 211 C dX7_turn_210 rfl (by omega) (by omega) (by omega) ?_
                          refine V_callV 214 C dX7_turn_211 rfl mX1_addCopy tw902 fcX1 hC.1 (c_X1_addCopy l G _ _ q y hC hI (nI (r / 16 % 12)) (nI (r / 16 / 16 % 10))) rfl rfl (by decide) ⟨by omega, by omega⟩ (Nat.le_of_ble_eq_true rfl) ?_
                          rintro _ _ h9 ⟨rfl, rfl, hC2, hF2⟩
                          rw [show aCp y (nI (r / 16 % 12)) (nI (r / 16 / 16 % 10)) = tnA (r % 16) (r / 16) y from (tn_7 (by omega)).symm] at hC2
                          refine V_pop 215 C dX7_turn_214 rfl rfl ?_
                          refine V_goto 260 C dX7_turn_215 (by decide) ?_
                          refine V_return C dX7_turn_260 rfl (by omega) (by omega) ?_
                          exact ⟨rfl, rfl, hC2, hF2⟩
                        · skip
                          refine V_case 12 (fun c9_12 => ?_) (fun n9_12 => ?_)
                          · refine V_tsI 199 C dX7_turn_9 c9_12 (by decide) (by decide) (by decide) rfl (by decide) ?_
                            refine V_aload_n 200 C dX7_turn_199 rfl rfl ?_
                            refine V_iload_n 201 C dX7_turn_200 rfl rfl ?_
                            refine V_bipush 203 C dX7_turn_201 rfl bip12 ?_
                            refine V_iremN 204 C dX7_turn_203 rfl (by omega) (by omega) (by omega) ?_
                            refine V_iload_n 205 C dX7_turn_204 rfl rfl ?_
                            refine V_bipush 207 C dX7_turn_205 rfl bip16 ?_
                            refine V_idivN 208 C dX7_turn_207 rfl (by omega) (by omega) (by omega) ?_
                            refine V_bipush 210 C dX7_turn_208 rfl bip10 ?_
                            refine V_iremN 211 C dX7_turn_210 rfl (by omega) (by omega) (by omega) ?_
                            refine V_callV 214 C dX7_turn_211 rfl mX1_addCopy tw902 fcX1 hC.1 (c_X1_addCopy l G _ _ q y hC hI (nI (r / 16 % 12)) (nI (r / 16 / 16 % 10))) rfl rfl (by decide) ⟨by omega, by omega⟩ (Nat.le_of_ble_eq_true rfl) ?_
                            rintro _ _ h9 ⟨rfl, rfl, hC2, hF2⟩
                            rw [show aCp y (nI (r / 16 % 12)) (nI (r / 16 / 16 % 10)) = tnA (r % 16) (r / 16) y from (tn_7 (by omega)).symm] at hC2
                            refine V_pop 215 C dX7_turn_214 rfl rfl ?_
                            refine V_goto 260 C dX7_turn_215 (by decide) ?_
                            refine V_return C dX7_turn_260 rfl (by omega) (by omega) ?_
                            exact ⟨rfl, rfl, hC2, hF2⟩
                          · skip
                            refine V_case 13 (fun c9_13 => ?_) (fun n9_13 => ?_)
                            · refine V_tsI 218 C dX7_turn_9 c9_13 (by decide) (by decide) (by decide) rfl (by decide) ?_
                              refine V_aload_n 219 C dX7_turn_218 rfl rfl ?_
                              refine V_iload_n 220 C dX7_turn_219 rfl rfl ?_
                              refine V_bipush 222 C dX7_turn_220 rfl bip12 ?_
                              refine V_iremN 223 C dX7_turn_222 rfl (by omega) (by omega) (by omega) ?_
                              refine V_iload_n 224 C dX7_turn_223 rfl rfl ?_
                              refine V_bipush 226 C dX7_turn_224 rfl bip16 ?_
                              refine V_idivN 227 C dX7_turn_226 rfl (by omega) (by omega) (by omega) ?_
                              refine V_bipush 229 C dX7_turn_227 rfl bip12 ?_
                              refine V_iremN 230 C dX7_turn_229 rfl (by omega) (by omega) (by omega) ?_
                              refine V_iload_n 231 C dX7_turn_230 rfl rfl ?_
                              refine V_sipush 234 C dX7_turn_231 rfl sip256 ?_
                              refine V_idivN 235 C dX7_turn_234 rfl (by omega) (by omega) (by omega) ?_
                              refine V_bipush 237 C dX7_turn_235 rfl bip12 ?_
                              refine V_iremN 238 C dX7_turn_237 rfl (by omega) (by omega) (by omega) ?_
                              refine V_iload_n 239 C dX7_turn_238 rfl rfl ?_
                              refine V_bipush 241 C dX7_turn_239 rfl bip10 ?_
                              refine V_iremN 242 C dX7_turn_241 rfl (by omega) (by omega) (by omega) ?_
                              refine V_callV 245 C dX7_turn_242 rfl mX1_addProof tw929 fcX1 hC.1 (c_X1_addProof l G _ _ q y hC hI (nI (r / 16 % 12)) (nI (r / 16 / 16 % 12)) (nI (r / 16 / 256 % 12)) (nI (r / 16 % 10))) rfl rfl (by decide) ⟨by omega, by omega⟩ (Nat.le_of_ble_eq_true rfl) ?_
                              rintro _ _ h9 ⟨rfl, rfl, hC2, hF2⟩
                              rw [show aPr y (nI (r / 16 % 12)) (nI (r / 16 / 16 % 12)) (nI (r / 16 / 256 % 12)) (nI (r / 16 % 10)) = tnA (r % 16) (r / 16) y from (tn_8 (by omega)).symm] at hC2
                              refine V_pop 246 C dX7_turn_245 rfl rfl ?_
                              refine V_goto 260 C dX7_turn_246 (by decide) ?_
                              refine V_return C dX7_turn_260 rfl (by omega) (by omega) ?_
                              exact ⟨rfl, rfl, hC2, hF2⟩
                            · skip
                              refine V_tsD 249 [0, 1, 2, 3, 4, 5, 6, 7, 8, 9, 10, 11, 12, 13] C dX7_turn_9 (lo' := 0) rfl rfl (by omega) ⟨n9_0, n9_1, n9_2, n9_3, n9_4, n9_5, n9_6, n9_7, n9_8, n9_9, n9_10, n9_11, n9_12, n9_13, trivial⟩ (by decide) (by decide) ?_
                              refine V_aload_n 250 C dX7_turn_249 rfl rfl ?_
                              refine V_iconst 251 C dX7_turn_250 rfl ic1 ?_
                              refine V_iload_n 252 C dX7_turn_251 rfl rfl ?_
                              refine V_bipush 254 C dX7_turn_252 rfl bip20 ?_
                              refine V_iremN 255 C dX7_turn_254 rfl (by omega) (by omega) (by omega) ?_
                              refine V_iaddN 256 C dX7_turn_255 rfl  ?_
                              refine V_callV 259 C dX7_turn_256 rfl mX1_passHours tw903 fcX1 hC.1 (c_X1_passHours l G _ _ q y hC hI (nI (1 + r / 16 % 20))) rfl rfl (by decide) ⟨by omega, by omega⟩ (Nat.le_of_ble_eq_true rfl) ?_
                              rintro _ _ h9 ⟨rfl, rfl, hC2, hF2⟩
                              rw [show aHr y (nI (1 + r / 16 % 20)) = tnA (r % 16) (r / 16) y from (tn_9 (by omega)).symm] at hC2
                              refine V_pop 260 C dX7_turn_259 rfl rfl ?_
                              refine V_return C dX7_turn_260 rfl (by omega) (by omega) ?_
                              exact ⟨rfl, rfl, hC2, hF2⟩


