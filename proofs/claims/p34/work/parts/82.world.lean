/-! THE WORLD AT THE LAW'S ENTRY -/
theorem tb_hts {args : Array Value} {s : State} (hts : ∀ w ∈ lw_tbl, w.before args s = true) : ∀ w ∈ TB, w.before args s = true := fun w hw => hts w (tb_tbl hw)
theorem tbl_i {w : Cond} (i : Nat) (h : lw_tbl[i]? = some w) : w ∈ lw_tbl := List.mem_of_getElem? h
theorem world_K {args : Array Value} {s : State} (hts : ∀ w ∈ lw_tbl, w.before args s = true) (b : Nat) : ∃ G : GT, G.2.2 = b ∧ va_K G.1 vwCl (tyL G) s := by
  have hB := tb_hts hts
  obtain ⟨c0, i0, k0⟩ := u_known hB fcX0.2.1 (hB _ tw206)
  obtain ⟨c1, i1, k1⟩ := u_known hB fcX1.2.1 (hB _ tw28)
  obtain ⟨c3, i3, k3⟩ := u_known hB fcX3.2.1 (hB _ tw172)
  obtain ⟨c4, i4, k4⟩ := u_known hB fcX4.2.1 (hB _ tw192)
  obtain ⟨c5, i5, k5⟩ := u_known hB fcX5.2.1 (hB _ tw35)
  obtain ⟨c6, i6, k6⟩ := u_known hB fcX6.2.1 (hB _ tw61)
  obtain ⟨c8, i8, k8⟩ := u_known hB fcX8.2.1 (hB _ tw84)
  obtain ⟨c9, i9, k9⟩ := u_known hB fcX9.2.1 (hB _ tw20)
  obtain ⟨a0, ka0, co0, f0, g0, hw0⟩ := Cond.arrayClass_spec (hB _ tw121)
  obtain ⟨a1, ka1, co1, f1, g1, hw1⟩ := Cond.arrayClass_spec (hB _ tw204)
  obtain ⟨a2, ka2, co2, f2, g2, hw2⟩ := Cond.arrayClass_spec (hB _ tw227)
  obtain ⟨a3, ka3, co3, f3, g3, hw3⟩ := Cond.arrayClass_spec (hB _ tw335)
  obtain ⟨co4, a4, ka4, pw4, q4, r4, t4, u4⟩ := Cond.arrayOver_spec (hts (.arrayOver (.object RX1)) (tbl_i 195 (by decide +kernel)))
  obtain ⟨co5, a5, ka5, pw5, q5, r5, t5, u5⟩ := Cond.arrayOver_spec (hts (.arrayOver (.object RX5)) (tbl_i 51 (by decide +kernel)))
  obtain ⟨co6, a6, ka6, pw6, q6, r6, t6, u6⟩ := Cond.arrayOver_spec (hts (.arrayOver (.object RX6)) (tbl_i 77 (by decide +kernel)))
  obtain ⟨co7, a7, ka7, pw7, q7, r7, t7, u7⟩ := Cond.arrayOver_spec (hts (.arrayOver (.object RX8)) (tbl_i 100 (by decide +kernel)))
  refine ⟨((fun k => [c0, c1, c3, c4, c5, c6, c8, c9].getD k c0, fun k => [i0, i1, i3, i4, i5, i6, i8, i9].getD k i0), fun t => [a0, a1, a2, a3, a4, a5, a6, a7].getD t a0, b), rfl, ?_, ?_⟩
  · intro k q hq
    match k, hq with
    | 0, hq => cases hq; exact k0
    | 1, hq => cases hq; exact k1
    | 2, hq => cases hq; exact k3
    | 3, hq => cases hq; exact k4
    | 4, hq => cases hq; exact k5
    | 5, hq => cases hq; exact k6
    | 6, hq => cases hq; exact k8
    | 7, hq => cases hq; exact k9
    | k + 8, hq => simp [vwCl] at hq
  · intro k q hq
    match k, hq with
    | 0, hq => cases hq; exact ⟨fun N z => ⟨(fun k h => by cases h), ka0, g0, co0, hw0⟩, f0⟩
    | 1, hq => cases hq; exact ⟨fun N z => ⟨(fun k h => by cases h), ka1, g1, co1, hw1⟩, f1⟩
    | 2, hq => cases hq; exact ⟨fun N z => ⟨(fun k h => by cases h), ka2, g2, co2, hw2⟩, f2⟩
    | 3, hq => cases hq; exact ⟨fun N z => ⟨(fun k h => by cases h), ka3, g3, co3, hw3⟩, f3⟩
    | 4, hq => cases hq; exact ⟨fun N z => ⟨(fun k h => by cases h), ka4, r4, co4, t4⟩, ka4, co4, r4, t4, pw4, u4⟩
    | 5, hq => cases hq; exact ⟨fun N z => ⟨(fun k h => by cases h), ka5, r5, co5, t5⟩, ka5, co5, r5, t5, pw5, u5⟩
    | 6, hq => cases hq; exact ⟨fun N z => ⟨(fun k h => by cases h), ka6, r6, co6, t6⟩, ka6, co6, r6, t6, pw6, u6⟩
    | 7, hq => cases hq; exact ⟨fun N z => ⟨(fun k h => by cases h), ka7, r7, co7, t7⟩, ka7, co7, r7, t7, pw7, u7⟩
    | k + 8, hq => simp [tyL] at hq
