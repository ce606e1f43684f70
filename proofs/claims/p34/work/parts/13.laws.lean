/-! LAWS OF THE ROW -/
theorem y3_n {y : Nat → Nat} {k a b c j : Nat} (h : j < k ∨ k + 2 < j) : y3 y k a b c j = y j := by
  unfold y3
  rw [ys_n _ (by omega), ys_n _ (by omega), ys_n _ (by omega)]
theorem y3_0 (y : Nat → Nat) (k a b c : Nat) : y3 y k a b c k = a := by unfold y3; rw [ys_n _ (by omega), ys_n _ (by omega), ys_s]
theorem y3_1 (y : Nat → Nat) (k a b c : Nat) : y3 y k a b c (k + 1) = b := by unfold y3; rw [ys_n _ (by omega), ys_s]
theorem y3_2 (y : Nat → Nat) (k a b c : Nat) : y3 y k a b c (k + 2) = c := by unfold y3; rw [ys_s]
theorem s6_n {y : Nat → Nat} {k m d f t j : Nat} (h : j < k ∨ k + 5 < j) : s6 y k m d f t j = y j := by
  unfold s6
  rw [ys_n _ (by omega), ys_n _ (by omega), ys_n _ (by omega), ys_n _ (by omega), ys_n _ (by omega), ys_n _ (by omega)]
theorem s6_at (y : Nat → Nat) (k m d f t : Nat) : s6 y k m d f t k = m ∧ s6 y k m d f t (k + 1) = d ∧ s6 y k m d f t (k + 2) = 99 ∧ s6 y k m d f t (k + 3) = f ∧ s6 y k m d f t (k + 4) = NO ∧ s6 y k m d f t (k + 5) = t := by
  unfold s6
  refine ⟨?_, ?_, ?_, ?_, ?_, ?_⟩
  · rw [ys_n _ (by omega), ys_n _ (by omega), ys_n _ (by omega), ys_n _ (by omega), ys_n _ (by omega), ys_s]
  · rw [ys_n _ (by omega), ys_n _ (by omega), ys_n _ (by omega), ys_n _ (by omega), ys_s]
  · rw [ys_n _ (by omega), ys_n _ (by omega), ys_n _ (by omega), ys_s]
  · rw [ys_n _ (by omega), ys_n _ (by omega), ys_s]
  · rw [ys_n _ (by omega), ys_s]
  · rw [ys_s]
theorem sub1 (k : Nat) : nI (k + 1) - nI 1 = nI k := by rw [pk_sub (by omega), Nat.add_sub_cancel]
theorem inkk_n {Y : Nat → Nat} {j : Nat} : ∀ {k : Nat}, (∀ i, i < k → ¬ j = 58 + 6 * i + 2) → inkk Y k j = Y j
  | 0, _ => rfl
  | k + 1, h => by
    simp only [inkk]
    rw [ys_n _ (h k (by omega))]
    exact inkk_n (fun i hi => h i (by omega))
theorem inkk_at {Y : Nat → Nat} {i : Nat} : ∀ {k : Nat}, i < k → inkk Y k (58 + 6 * i + 2) = Y (58 + 6 * i + 2) - Y (58 + 6 * i + 3)
  | k + 1, h => by
    simp only [inkk]
    by_cases e : i = k
    · subst e
      rw [ys_s]
      unfold ink
      rw [inkk_n (fun q hq => by omega), inkk_n (fun q hq => by omega), Nat.one_mul]
    · rw [ys_n _ (by omega)]
      exact inkk_at (by omega)
theorem walk1_n {y : Nat → Nat} {r j : Nat} (h : ¬ j = 37 + 3 * r + 1) (h2 : ¬ j = 37 + 3 * r + 2) : walk1 y r j = y j := by
  unfold walk1 walk0
  split
  · rfl
  · rw [ys_n _ h2, ys_n _ h]
theorem walk1_1 (y : Nat → Nat) (r : Nat) : walk1 y r (37 + 3 * r + 1) = y (37 + 3 * r + 1) - 1 := by
  unfold walk1 walk0
  split
  · omega
  · rw [ys_n _ (by omega), ys_s]
theorem walkk_n {Z : Nat → Nat} {j : Nat} : ∀ {k : Nat}, (∀ i, i < k → ¬ j = 37 + 3 * i + 1 ∧ ¬ j = 37 + 3 * i + 2) → walkk Z k j = Z j
  | 0, _ => rfl
  | k + 1, h => by
    simp only [walkk]
    rw [walk1_n (h k (by omega)).1 (h k (by omega)).2]
    exact walkk_n (fun i hi => h i (by omega))
theorem walkk_1 {Z : Nat → Nat} {i : Nat} : ∀ {k : Nat}, i < k → walkk Z k (37 + 3 * i + 1) = Z (37 + 3 * i + 1) - 1
  | k + 1, h => by
    simp only [walkk]
    by_cases e : i = k
    · subst e
      rw [walk1_1, walkk_n (fun q hq => by omega)]
    · rw [walk1_n (by omega) (by omega)]
      exact walkk_1 (by omega)
theorem hrI_n {y : Nat → Nat} {j : Nat} (h5 : ¬ j = 5) (h : ∀ i, i < y 4 → ¬ j = 58 + 6 * i + 2) : hrI y j = y j := by
  unfold hrI
  rw [inkk_n h, ys_n _ h5]
theorem hrI_ink {y : Nat → Nat} {i : Nat} (h : i < y 4) : hrI y (58 + 6 * i + 2) = y (58 + 6 * i + 2) - y (58 + 6 * i + 3) := by
  unfold hrI
  rw [inkk_at h, ys_n _ (by omega), ys_n _ (by omega)]
theorem hr_n {y : Nat → Nat} {j : Nat} (h5 : ¬ j = 5) (h : ∀ i, i < y 4 → ¬ j = 58 + 6 * i + 2) (h2 : ∀ i, i < y 2 → ¬ j = 37 + 3 * i + 1 ∧ ¬ j = 37 + 3 * i + 2) : hr y j = y j := by
  unfold hr
  rw [walkk_n h2, hrI_n h5 h]
theorem hr_ink {y : Nat → Nat} {i : Nat} (h : i < y 4) (h2 : y 2 ≤ 5) : hr y (58 + 6 * i + 2) = y (58 + 6 * i + 2) - y (58 + 6 * i + 3) := by
  unfold hr
  rw [walkk_n (fun q hq => by omega), hrI_ink h]
theorem hr_left {y : Nat → Nat} {i : Nat} (h : i < y 2) (h2 : y 2 ≤ 5) : hr y (37 + 3 * i + 1) = y (37 + 3 * i + 1) - 1 := by
  unfold hr
  rw [walkk_1 h, hrI_n (by omega) (fun q hq => by omega)]
theorem Iv_hr {y : Nat → Nat} (hI : Iv y) : Iv (hr y) := by
  obtain ⟨⟨i0, i1, i2, i3, i4⟩, iR, iU, iM, iS⟩ := hI
  have e0 : hr y 0 = y 0 := hr_n (by omega) (fun q hq => by omega) (fun q hq => by omega)
  have e1 : hr y 1 = y 1 := hr_n (by omega) (fun q hq => by omega) (fun q hq => by omega)
  have e2 : hr y 2 = y 2 := hr_n (by omega) (fun q hq => by omega) (fun q hq => by omega)
  have e3 : hr y 3 = y 3 := hr_n (by omega) (fun q hq => by omega) (fun q hq => by omega)
  have e4 : hr y 4 = y 4 := hr_n (by omega) (fun q hq => by omega) (fun q hq => by omega)
  refine ⟨by rw [e0, e1, e2, e3, e4]; exact ⟨i0, i1, i2, i3, i4⟩, fun i hi => ?_, fun i hi => ?_, fun i hi => ?_, fun i hi => ?_⟩
  · rw [e1] at hi
    rw [e0, hr_n (j := 7 + 3 * i) (by omega) (fun q hq => by omega) (fun q hq => by omega), hr_n (j := 7 + 3 * i + 1) (by omega) (fun q hq => by omega) (fun q hq => by omega), hr_n (j := 7 + 3 * i + 2) (by omega) (fun q hq => by omega) (fun q hq => by omega)]
    exact iR i hi
  · rw [e2] at hi
    obtain ⟨u0, u1⟩ := iU i hi
    rw [e0, hr_n (j := 37 + 3 * i) (by omega) (fun q hq => by omega) (fun q hq => by omega), hr_left hi i2]
    omega
  · rw [e3] at hi
    rw [hr_n (j := 52 + i) (by omega) (fun q hq => by omega) (fun q hq => by omega)]
    exact iM i hi
  · rw [e4] at hi
    obtain ⟨s0, s1, s2, s3, s4, s5⟩ := iS i hi
    rw [e0, e2, e3, hr_ink hi i2, hr_n (j := 58 + 6 * i) (by omega) (fun q hq => by omega) (fun q hq => by omega), hr_n (j := 58 + 6 * i + 1) (by omega) (fun q hq => by omega) (fun q hq => by omega), hr_n (j := 58 + 6 * i + 3) (by omega) (fun q hq => by omega) (fun q hq => by omega), hr_n (j := 58 + 6 * i + 4) (by omega) (fun q hq => by omega) (fun q hq => by omega), hr_n (j := 58 + 6 * i + 5) (by omega) (fun q hq => by omega) (fun q hq => by omega)]
    exact ⟨s0, s1, by omega, s3, s4, s5⟩
theorem Iv_hrs {y : Nat → Nat} (hI : Iv y) : ∀ k, Iv (hrs y k)
  | 0 => hI
  | k + 1 => Iv_hr (Iv_hrs hI k)
theorem comek_le (y : Nat → Nat) : ∀ k, comek y k ≤ k
  | 0 => Nat.le_refl _
  | k + 1 => by have := comek_le y k; have := bp_le (P := y (37 + 3 * k + 1) = 1); simp only [comek]; omega
theorem comek_t {y : Nat → Nat} {k : Nat} (h : y (37 + 3 * k + 1) = 1) : comek y k + 1 = comek y (k + 1) := by simp only [comek]; rw [bp_t h]
theorem comek_f {y : Nat → Nat} {k : Nat} (h : ¬ y (37 + 3 * k + 1) = 1) : comek y k = comek y (k + 1) := by simp only [comek]; rw [bp_f h]; rfl
theorem crs_le (y : Nat → Nat) (s : Nat) : crs y s ≤ 4 := by
  unfold crs
  repeat' split
  all_goals omega
theorem crs_0 {y : Nat → Nat} {s : Nat} (h : crs y s = 0) : ¬ pof y s = NO ∧ ¬ y (58 + 6 * s + 2) = 0 ∧ ¬ y 4 = 12 := by
  unfold crs at h
  repeat' split at h
  all_goals first | exact ⟨by assumption, by assumption, by assumption⟩ | omega
theorem prs_le (y : Nat → Nat) (a b c : Nat) : prs y a b c ≤ 4 := by
  unfold prs
  repeat' split
  all_goals omega
theorem prs_0 {y : Nat → Nat} {a b c : Nat} (h : prs y a b c = 0) : ¬ (pof y a = NO ∨ ¬ pof y b = pof y a ∨ ¬ pof y c = pof y a) ∧ ¬ (y (58 + 6 * a + 2) = 0 ∨ y (58 + 6 * b + 2) = 0 ∨ y (58 + 6 * c + 2) = 0) ∧ ¬ y 4 = 12 := by
  unfold prs at h
  repeat' split at h
  all_goals first | exact ⟨by assumption, by assumption, by assumption⟩ | omega

