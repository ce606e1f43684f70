/-! WHAT ALWAYS HOLDS OF A STATE IS KEPT -/
theorem Iv_mk {y' : Nat → Nat} {n0 n1 n2 n3 n4 : Nat} (e0 : y' 0 = n0) (e1 : y' 1 = n1) (e2 : y' 2 = n2) (e3 : y' 3 = n3) (e4 : y' 4 = n4) (b : n0 ≤ 6 ∧ n1 ≤ 10 ∧ n2 ≤ 5 ∧ n3 ≤ 6 ∧ n4 ≤ 12)
    (R : ∀ i, i < n1 → y' (7 + 3 * i) < n0 ∧ y' (7 + 3 * i + 1) < n0 ∧ ¬ y' (7 + 3 * i) = y' (7 + 3 * i + 1) ∧ 1 ≤ y' (7 + 3 * i + 2) ∧ y' (7 + 3 * i + 2) ≤ 20) (U : ∀ i, i < n2 → y' (37 + 3 * i) < n0 ∧ y' (37 + 3 * i + 1) ≤ 20) (M : ∀ i, i < n3 → y' (52 + i) < 1000000)
    (S : ∀ i, i < n4 → y' (58 + 6 * i) < n3 ∧ y' (58 + 6 * i + 1) < 1000000 ∧ y' (58 + 6 * i + 2) ≤ 99 ∧ y' (58 + 6 * i + 3) ≤ 9 ∧ (y' (58 + 6 * i + 4) = NO ∨ y' (58 + 6 * i + 4) < n2) ∧ y' (58 + 6 * i + 5) < n0) : Iv y' := by
  subst e0 e1 e2 e3 e4
  exact ⟨b, R, U, M, S⟩
theorem Iv_0 {y : Nat → Nat} (h : ∀ j, j < 5 → y j = 0) : Iv y := Iv_mk (h 0 (by omega)) (h 1 (by omega)) (h 2 (by omega)) (h 3 (by omega)) (h 4 (by omega)) (by omega) (fun i hi => absurd hi (by omega)) (fun i hi => absurd hi (by omega)) (fun i hi => absurd hi (by omega)) (fun i hi => absurd hi (by omega))
theorem z_ix {t : Int32} {n : Nat} (h : ix t n) : z t < n := by
  have h1 := h.1
  have h2 := h.2
  unfold z
  omega
theorem Iv_twOn {y : Nat → Nat} (hI : Iv y) (h : y 0 < 6) : Iv (twOn y) := by
  obtain ⟨⟨i0, i1, i2, i3, i4⟩, iR, iU, iM, iS⟩ := hI
  have e : ∀ j, ¬ j = 0 → twOn y j = y j := fun j hj => ys_n _ hj
  refine Iv_mk (ys_s _ _ _) (e 1 (by omega)) (e 2 (by omega)) (e 3 (by omega)) (e 4 (by omega)) (by omega) (fun i hi => ?_) (fun i hi => ?_) (fun i hi => ?_) (fun i hi => ?_)
  · have := iR i hi
    rw [e (7 + 3 * i) (by omega), e (7 + 3 * i + 1) (by omega), e (7 + 3 * i + 2) (by omega)]
    omega
  · have := iU i hi
    rw [e (37 + 3 * i) (by omega), e (37 + 3 * i + 1) (by omega)]
    omega
  · rw [e (52 + i) (by omega)]
    exact iM i hi
  · have := iS i hi
    rw [e (58 + 6 * i) (by omega), e (58 + 6 * i + 1) (by omega), e (58 + 6 * i + 2) (by omega), e (58 + 6 * i + 3) (by omega), e (58 + 6 * i + 4) (by omega), e (58 + 6 * i + 5) (by omega)]
    omega
theorem rdOn_n {y : Nat → Nat} {a b c j : Nat} (h : ¬ j = 1) (h2 : j < 7 + 3 * y 1 ∨ 7 + 3 * y 1 + 2 < j) : rdOn y a b c j = y j := by unfold rdOn; rw [ys_n _ h, y3_n h2]
theorem rdOn_1 (y : Nat → Nat) (a b c : Nat) : rdOn y a b c 1 = y 1 + 1 := by unfold rdOn; rw [ys_s, y3_n (by omega)]
theorem rdOn_at (y : Nat → Nat) (a b c : Nat) : rdOn y a b c (7 + 3 * y 1) = a ∧ rdOn y a b c (7 + 3 * y 1 + 1) = b ∧ rdOn y a b c (7 + 3 * y 1 + 2) = c := by
  unfold rdOn
  rw [ys_n _ (by omega), ys_n _ (by omega), ys_n _ (by omega), y3_0, y3_1, y3_2]
  exact ⟨rfl, rfl, rfl⟩
theorem Iv_rdOn {y : Nat → Nat} (hI : Iv y) {a b c : Nat} (h : y 1 < 10) (ha : a < y 0) (hb : b < y 0) (hab : ¬ a = b) (hc : 1 ≤ c ∧ c ≤ 20) : Iv (rdOn y a b c) := by
  obtain ⟨⟨i0, i1, i2, i3, i4⟩, iR, iU, iM, iS⟩ := hI
  have e : ∀ j, ¬ j = 1 → (j < 7 + 3 * y 1 ∨ 7 + 3 * y 1 + 2 < j) → rdOn y a b c j = y j := fun j h1 h2 => rdOn_n h1 h2
  obtain ⟨g1, g2, g3⟩ := rdOn_at y a b c
  refine Iv_mk (e 0 (by omega) (by omega)) (rdOn_1 y a b c) (e 2 (by omega) (by omega)) (e 3 (by omega) (by omega)) (e 4 (by omega) (by omega)) (by omega) (fun i hi => ?_) (fun i hi => ?_) (fun i hi => ?_) (fun i hi => ?_)
  · by_cases ei : i = y 1
    · subst ei
      rw [g1, g2, g3]
      omega
    · have := iR i (by omega)
      rw [e (7 + 3 * i) (by omega) (by omega), e (7 + 3 * i + 1) (by omega) (by omega), e (7 + 3 * i + 2) (by omega) (by omega)]
      omega
  · have := iU i hi
    rw [e (37 + 3 * i) (by omega) (by omega), e (37 + 3 * i + 1) (by omega) (by omega)]
    omega
  · rw [e (52 + i) (by omega) (by omega)]
    exact iM i hi
  · have := iS i hi
    rw [e (58 + 6 * i) (by omega) (by omega), e (58 + 6 * i + 1) (by omega) (by omega), e (58 + 6 * i + 2) (by omega) (by omega), e (58 + 6 * i + 3) (by omega) (by omega), e (58 + 6 * i + 4) (by omega) (by omega), e (58 + 6 * i + 5) (by omega) (by omega)]
    omega
theorem ruOn_n {y : Nat → Nat} {t j : Nat} (h : ¬ j = 2) (h2 : j < 37 + 3 * y 2 ∨ 37 + 3 * y 2 + 2 < j) : ruOn y t j = y j := by unfold ruOn; rw [ys_n _ h, y3_n h2]
theorem ruOn_2 (y : Nat → Nat) (t : Nat) : ruOn y t 2 = y 2 + 1 := by unfold ruOn; rw [ys_s, y3_n (by omega)]
theorem ruOn_at (y : Nat → Nat) (t : Nat) : ruOn y t (37 + 3 * y 2) = t ∧ ruOn y t (37 + 3 * y 2 + 1) = 0 := by
  unfold ruOn
  rw [ys_n _ (by omega), ys_n _ (by omega), y3_0, y3_1]
  exact ⟨rfl, rfl⟩
theorem Iv_ruOn {y : Nat → Nat} (hI : Iv y) {t : Nat} (h : y 2 < 5) (ht : t < y 0) : Iv (ruOn y t) := by
  obtain ⟨⟨i0, i1, i2, i3, i4⟩, iR, iU, iM, iS⟩ := hI
  have e : ∀ j, ¬ j = 2 → (j < 37 + 3 * y 2 ∨ 37 + 3 * y 2 + 2 < j) → ruOn y t j = y j := fun j h1 h2 => ruOn_n h1 h2
  obtain ⟨g1, g2⟩ := ruOn_at y t
  refine Iv_mk (e 0 (by omega) (by omega)) (e 1 (by omega) (by omega)) (ruOn_2 y t) (e 3 (by omega) (by omega)) (e 4 (by omega) (by omega)) (by omega) (fun i hi => ?_) (fun i hi => ?_) (fun i hi => ?_) (fun i hi => ?_)
  · have := iR i hi
    rw [e (7 + 3 * i) (by omega) (by omega), e (7 + 3 * i + 1) (by omega) (by omega), e (7 + 3 * i + 2) (by omega) (by omega)]
    omega
  · by_cases ei : i = y 2
    · subst ei
      rw [g1, g2]
      omega
    · have := iU i (by omega)
      rw [e (37 + 3 * i) (by omega) (by omega), e (37 + 3 * i + 1) (by omega) (by omega)]
      omega
  · rw [e (52 + i) (by omega) (by omega)]
    exact iM i hi
  · have := iS i hi
    rw [e (58 + 6 * i) (by omega) (by omega), e (58 + 6 * i + 1) (by omega) (by omega), e (58 + 6 * i + 2) (by omega) (by omega), e (58 + 6 * i + 3) (by omega) (by omega), e (58 + 6 * i + 4) (by omega) (by omega), e (58 + 6 * i + 5) (by omega) (by omega)]
    omega
theorem shOn_n {y : Nat → Nat} {m d f t j : Nat} (h : ¬ j = 4) (h2 : j < 58 + 6 * y 4 ∨ 58 + 6 * y 4 + 5 < j) : shOn y m d f t j = y j := by unfold shOn; rw [ys_n _ h, s6_n h2]
theorem shOn_4 (y : Nat → Nat) (m d f t : Nat) : shOn y m d f t 4 = y 4 + 1 := by unfold shOn; rw [ys_s, s6_n (by omega)]
theorem shOn_at (y : Nat → Nat) (m d f t : Nat) : shOn y m d f t (58 + 6 * y 4) = m ∧ shOn y m d f t (58 + 6 * y 4 + 1) = d ∧ shOn y m d f t (58 + 6 * y 4 + 2) = 99 ∧ shOn y m d f t (58 + 6 * y 4 + 3) = f ∧ shOn y m d f t (58 + 6 * y 4 + 4) = NO ∧ shOn y m d f t (58 + 6 * y 4 + 5) = t := by
  unfold shOn
  rw [ys_n _ (by omega), ys_n _ (by omega), ys_n _ (by omega), ys_n _ (by omega), ys_n _ (by omega), ys_n _ (by omega)]
  exact s6_at y (58 + 6 * y 4) m d f t
theorem Iv_shOn {y : Nat → Nat} (hI : Iv y) {m d f t : Nat} (h : y 4 < 12) (hm : m < y 3) (hd : d < 1000000) (hf : f ≤ 9) (ht : t < y 0) : Iv (shOn y m d f t) := by
  obtain ⟨⟨i0, i1, i2, i3, i4⟩, iR, iU, iM, iS⟩ := hI
  have e : ∀ j, ¬ j = 4 → (j < 58 + 6 * y 4 ∨ 58 + 6 * y 4 + 5 < j) → shOn y m d f t j = y j := fun j h1 h2 => shOn_n h1 h2
  obtain ⟨g1, g2, g3, g4, g5, g6⟩ := shOn_at y m d f t
  refine Iv_mk (e 0 (by omega) (by omega)) (e 1 (by omega) (by omega)) (e 2 (by omega) (by omega)) (e 3 (by omega) (by omega)) (shOn_4 y m d f t) (by omega) (fun i hi => ?_) (fun i hi => ?_) (fun i hi => ?_) (fun i hi => ?_)
  · have := iR i hi
    rw [e (7 + 3 * i) (by omega) (by omega), e (7 + 3 * i + 1) (by omega) (by omega), e (7 + 3 * i + 2) (by omega) (by omega)]
    omega
  · have := iU i hi
    rw [e (37 + 3 * i) (by omega) (by omega), e (37 + 3 * i + 1) (by omega) (by omega)]
    omega
  · rw [e (52 + i) (by omega) (by omega)]
    exact iM i hi
  · by_cases ei : i = y 4
    · subst ei
      rw [g1, g2, g3, g4, g5, g6]
      exact ⟨hm, hd, by omega, hf, Or.inl rfl, ht⟩
    · have := iS i (by omega)
      rw [e (58 + 6 * i) (by omega) (by omega), e (58 + 6 * i + 1) (by omega) (by omega), e (58 + 6 * i + 2) (by omega) (by omega), e (58 + 6 * i + 3) (by omega) (by omega), e (58 + 6 * i + 4) (by omega) (by omega), e (58 + 6 * i + 5) (by omega) (by omega)]
      omega
theorem wrP_n {y : Nat → Nat} {d j : Nat} (h : ¬ j = 3) (h2 : ¬ j = 52 + y 3) : wrP y d j = y j := by unfold wrP; rw [ys_n _ h, ys_n _ h2]
theorem wrP_3 (y : Nat → Nat) (d : Nat) : wrP y d 3 = y 3 + 1 := by unfold wrP; rw [ys_s, ys_n _ (by omega)]
theorem Iv_wrP {y : Nat → Nat} (hI : Iv y) {d : Nat} (h : y 3 < 6) (hd : d < 1000000) : Iv (wrP y d) := by
  obtain ⟨⟨i0, i1, i2, i3, i4⟩, iR, iU, iM, iS⟩ := hI
  have e : ∀ j, ¬ j = 3 → ¬ j = 52 + y 3 → wrP y d j = y j := fun j h1 h2 => wrP_n h1 h2
  refine Iv_mk (e 0 (by omega) (by omega)) (e 1 (by omega) (by omega)) (e 2 (by omega) (by omega)) (wrP_3 y d) (e 4 (by omega) (by omega)) (by omega) (fun i hi => ?_) (fun i hi => ?_) (fun i hi => ?_) (fun i hi => ?_)
  · have := iR i hi
    rw [e (7 + 3 * i) (by omega) (by omega), e (7 + 3 * i + 1) (by omega) (by omega), e (7 + 3 * i + 2) (by omega) (by omega)]
    omega
  · have := iU i hi
    rw [e (37 + 3 * i) (by omega) (by omega), e (37 + 3 * i + 1) (by omega) (by omega)]
    omega
  · by_cases ei : i = y 3
    · subst ei
      unfold wrP
      rw [ys_n _ (by omega), ys_s]
      exact hd
    · rw [e (52 + i) (by omega) (by omega)]
      exact iM i (by omega)
  · have := iS i hi
    rw [e (58 + 6 * i) (by omega) (by omega), e (58 + 6 * i + 1) (by omega) (by omega), e (58 + 6 * i + 2) (by omega) (by omega), e (58 + 6 * i + 3) (by omega) (by omega), e (58 + 6 * i + 4) (by omega) (by omega), e (58 + 6 * i + 5) (by omega) (by omega)]
    omega
theorem Iv_wrOn {y : Nat → Nat} (hI : Iv y) {t d f : Nat} (h : y 3 < 6) (h4 : y 4 < 12) (ht : t < y 0) (hd : d < 1000000) (hf : f ≤ 9) : Iv (wrOn y t d f) := by
  have i0 := hI.1
  refine Iv_shOn (Iv_wrP hI h hd) ?_ ?_ hd hf ?_
  · rw [wrP_n (by omega) (by omega)]; exact h4
  · rw [wrP_3]; omega
  · rw [wrP_n (by omega) (by omega)]; exact ht
theorem Iv_tkOn {y : Nat → Nat} (hI : Iv y) {r s : Nat} (hr : r < y 2) : Iv (tkOn y r s) := by
  obtain ⟨⟨i0, i1, i2, i3, i4⟩, iR, iU, iM, iS⟩ := hI
  have e : ∀ j, ¬ j = 58 + 6 * s + 4 → tkOn y r s j = y j := fun j h1 => ys_n _ h1
  refine Iv_mk (e 0 (by omega)) (e 1 (by omega)) (e 2 (by omega)) (e 3 (by omega)) (e 4 (by omega)) (by omega) (fun i hi => ?_) (fun i hi => ?_) (fun i hi => ?_) (fun i hi => ?_)
  · have := iR i hi
    rw [e (7 + 3 * i) (by omega), e (7 + 3 * i + 1) (by omega), e (7 + 3 * i + 2) (by omega)]
    omega
  · have := iU i hi
    rw [e (37 + 3 * i) (by omega), e (37 + 3 * i + 1) (by omega)]
    omega
  · rw [e (52 + i) (by omega)]
    exact iM i hi
  · have := iS i hi
    rw [e (58 + 6 * i) (by omega), e (58 + 6 * i + 1) (by omega), e (58 + 6 * i + 2) (by omega), e (58 + 6 * i + 3) (by omega), e (58 + 6 * i + 5) (by omega)]
    by_cases ei : i = s
    · subst ei
      rw [show tkOn y r i (58 + 6 * i + 4) = r from ys_s _ _ _]
      omega
    · rw [e (58 + 6 * i + 4) (by omega)]
      omega
theorem Iv_lyOn {y : Nat → Nat} (hI : Iv y) {s : Nat} (hs : s < y 4) (hp : ¬ pof y s = NO) : Iv (lyOn y s) := by
  have hpb := (pof_b hI hs).resolve_right hp
  obtain ⟨⟨i0, i1, i2, i3, i4⟩, iR, iU, iM, iS⟩ := hI
  have e : ∀ j, ¬ j = 58 + 6 * s + 4 → ¬ j = 58 + 6 * s + 5 → lyOn y s j = y j := fun j h1 h2 => by unfold lyOn; rw [ys_n _ h2, ys_n _ h1]
  refine Iv_mk (e 0 (by omega) (by omega)) (e 1 (by omega) (by omega)) (e 2 (by omega) (by omega)) (e 3 (by omega) (by omega)) (e 4 (by omega) (by omega)) (by omega) (fun i hi => ?_) (fun i hi => ?_) (fun i hi => ?_) (fun i hi => ?_)
  · have := iR i hi
    rw [e (7 + 3 * i) (by omega) (by omega), e (7 + 3 * i + 1) (by omega) (by omega), e (7 + 3 * i + 2) (by omega) (by omega)]
    omega
  · have := iU i hi
    rw [e (37 + 3 * i) (by omega) (by omega), e (37 + 3 * i + 1) (by omega) (by omega)]
    omega
  · rw [e (52 + i) (by omega) (by omega)]
    exact iM i hi
  · have := iS i hi
    rw [e (58 + 6 * i) (by omega) (by omega), e (58 + 6 * i + 1) (by omega) (by omega), e (58 + 6 * i + 2) (by omega) (by omega), e (58 + 6 * i + 3) (by omega) (by omega)]
    by_cases ei : i = s
    · subst ei
      rw [show lyOn y i (58 + 6 * i + 4) = NO from by unfold lyOn; rw [ys_n _ (by omega), ys_s], show lyOn y i (58 + 6 * i + 5) = pof y i from ys_s _ _ _]
      omega
    · rw [e (58 + 6 * i + 4) (by omega) (by omega), e (58 + 6 * i + 5) (by omega) (by omega)]
      omega
theorem goT_b {y : Nat → Nat} (hI : Iv y) {w : Nat} (r : Nat) (hw : w < y 1) : goT y r w < y 0 := by
  have := hI.2.1 w hw
  unfold goT
  split <;> omega
theorem Iv_gOn {y : Nat → Nat} (hI : Iv y) {r w : Nat} (hr : r < y 2) (hw : w < y 1) : Iv (gOn y r w) := by
  have hg := goT_b hI r hw
  obtain ⟨⟨i0, i1, i2, i3, i4⟩, iR, iU, iM, iS⟩ := hI
  have hw5 := iR w hw
  have e : ∀ j, ¬ j = 37 + 3 * r → ¬ j = 37 + 3 * r + 1 → gOn y r w j = y j := fun j h1 h2 => by unfold gOn; rw [ys_n _ h2, ys_n _ h1]
  refine Iv_mk (e 0 (by omega) (by omega)) (e 1 (by omega) (by omega)) (e 2 (by omega) (by omega)) (e 3 (by omega) (by omega)) (e 4 (by omega) (by omega)) (by omega) (fun i hi => ?_) (fun i hi => ?_) (fun i hi => ?_) (fun i hi => ?_)
  · have := iR i hi
    rw [e (7 + 3 * i) (by omega) (by omega), e (7 + 3 * i + 1) (by omega) (by omega), e (7 + 3 * i + 2) (by omega) (by omega)]
    omega
  · have := iU i hi
    by_cases ei : i = r
    · subst ei
      rw [show gOn y i w (37 + 3 * i) = goT y i w from by unfold gOn; rw [ys_n _ (by omega), ys_s], show gOn y i w (37 + 3 * i + 1) = y (7 + 3 * w + 2) from ys_s _ _ _]
      omega
    · rw [e (37 + 3 * i) (by omega) (by omega), e (37 + 3 * i + 1) (by omega) (by omega)]
      omega
  · rw [e (52 + i) (by omega) (by omega)]
    exact iM i hi
  · have := iS i hi
    rw [e (58 + 6 * i) (by omega) (by omega), e (58 + 6 * i + 1) (by omega) (by omega), e (58 + 6 * i + 2) (by omega) (by omega), e (58 + 6 * i + 3) (by omega) (by omega), e (58 + 6 * i + 4) (by omega) (by omega), e (58 + 6 * i + 5) (by omega) (by omega)]
    omega
theorem Iv_6 {y : Nat → Nat} (hI : Iv y) (v : Nat) : Iv (ys y 6 v) := by
  obtain ⟨⟨i0, i1, i2, i3, i4⟩, iR, iU, iM, iS⟩ := hI
  have e : ∀ j, ¬ j = 6 → ys y 6 v j = y j := fun j h1 => ys_n _ h1
  refine Iv_mk (e 0 (by omega)) (e 1 (by omega)) (e 2 (by omega)) (e 3 (by omega)) (e 4 (by omega)) (by omega) (fun i hi => ?_) (fun i hi => ?_) (fun i hi => ?_) (fun i hi => ?_)
  · have := iR i hi
    rw [e (7 + 3 * i) (by omega), e (7 + 3 * i + 1) (by omega), e (7 + 3 * i + 2) (by omega)]
    omega
  · have := iU i hi
    rw [e (37 + 3 * i) (by omega), e (37 + 3 * i + 1) (by omega)]
    omega
  · rw [e (52 + i) (by omega)]
    exact iM i hi
  · have := iS i hi
    rw [e (58 + 6 * i) (by omega), e (58 + 6 * i + 1) (by omega), e (58 + 6 * i + 2) (by omega), e (58 + 6 * i + 3) (by omega), e (58 + 6 * i + 4) (by omega), e (58 + 6 * i + 5) (by omega)]
    omega
theorem Iv_cpC {y : Nat → Nat} (hI : Iv y) {s f : Nat} (hs : s < y 4) (hf : f ≤ 9) : Iv (cpC y s f) := by
  unfold cpC
  split
  · next h =>
    obtain ⟨h1, h2, h3⟩ := crs_0 h
    have h5 := hI.2.2.2.2 s hs
    have h6 := hI.1
    exact Iv_shOn hI (by omega) h5.1 (rdw_lt h5.2.1 h2) hf ((pof_b hI hs).resolve_right h1)
  · exact hI
theorem Iv_prC {y : Nat → Nat} (hI : Iv y) {a b c f : Nat} (ha : a < y 4) (hf : f ≤ 9) : Iv (prC y a b c f) := by
  unfold prC
  split
  · next h =>
    obtain ⟨h1, h2, h3⟩ := prs_0 h
    have h5 := hI.2.2.2.2 a ha
    have h6 := hI.1
    exact Iv_shOn hI (by omega) h5.1 (mj_lt _ _ _) hf ((pof_b hI ha).resolve_right (by omega))
  · exact hI
theorem Iv_cpOn {y : Nat → Nat} (hI : Iv y) {s f : Nat} (hs : s < y 4) (hf : f ≤ 9) : Iv (cpOn y s f) := by
  have h1 := Iv_cpC hI hs hf
  unfold cpC at h1
  unfold cpOn
  split
  · next h => rw [if_pos h] at h1; exact h1
  · exact Iv_6 hI _
theorem Iv_prOn {y : Nat → Nat} (hI : Iv y) {a b c f : Nat} (ha : a < y 4) (hf : f ≤ 9) : Iv (prOn y a b c f) := by
  have h1 := Iv_prC hI (b := b) (c := c) ha hf
  unfold prC at h1
  unfold prOn
  split
  · next h => rw [if_pos h] at h1; exact h1
  · exact Iv_6 hI _
/-! and by the actions -/
theorem ix_9 {f : Int32} (h : ix f 10) : z f ≤ 9 := by have := z_ix h; omega
theorem Iv_aTw {y : Nat → Nat} (hI : Iv y) : Iv (aTw y).2 := by
  unfold aTw
  split
  · next h => exact Iv_twOn hI h
  · exact hI
theorem z_eq {a b : Int32} {n : Nat} (ha : ix a n) (hb : ix b n) (h : ¬ a = b) : ¬ z a = z b := fun e => h (by
  have h1 := ha.1
  have h2 := hb.1
  unfold z at e
  exact Int32.toInt_inj.mp (by omega))
theorem Iv_aRd {y : Nat → Nat} (hI : Iv y) (a b w : Int32) : Iv (aRd y a b w).2 := by
  unfold aRd
  split
  · next h =>
    split
    · exact hI
    · next h2 =>
      split
      · next h3 => exact Iv_rdOn hI h3 (z_ix h.1) (z_ix h.2) (z_eq h.1 h.2 (fun e => h2 (Or.inl e))) (by unfold z; omega)
      · exact hI
  · exact hI
theorem Iv_aRu {y : Nat → Nat} (hI : Iv y) (t : Int32) : Iv (aRu y t).2 := by
  unfold aRu
  split
  · next h =>
    split
    · next h2 => exact Iv_ruOn hI h2 (z_ix h)
    · exact hI
  · exact hI
theorem Iv_aWr {y : Nat → Nat} (hI : Iv y) (t d f : Int32) : Iv (aWr y t d f).2 := by
  unfold aWr
  split
  · next h =>
    split
    · next h2 =>
      split
      · next h3 => exact Iv_wrOn hI h3.1 h3.2 (z_ix h) (z_ix h2.1) (ix_9 h2.2)
      · exact hI
    · exact hI
  · exact hI
theorem Iv_aTk {y : Nat → Nat} (hI : Iv y) (r s : Int32) : Iv (aTk y r s).2 := by
  unfold aTk
  split
  · next h =>
    split
    · exact Iv_tkOn hI (z_ix h.1)
    · exact hI
  · exact hI
theorem Iv_aLy {y : Nat → Nat} (hI : Iv y) (s : Int32) : Iv (aLy y s).2 := by
  unfold aLy
  split
  · next h =>
    split
    · next h2 => exact Iv_lyOn hI (z_ix h) h2.1
    · exact hI
  · exact hI
theorem Iv_aGo {y : Nat → Nat} (hI : Iv y) (r w : Int32) : Iv (aGo y r w).2 := by
  unfold aGo
  split
  · next h =>
    split
    · exact Iv_gOn hI (z_ix h.1) (z_ix h.2)
    · exact hI
  · exact hI
theorem Iv_aCp {y : Nat → Nat} (hI : Iv y) (s f : Int32) : Iv (aCp y s f).2 := by
  unfold aCp
  split
  · next h =>
    split
    · next h2 => exact Iv_cpC hI (z_ix h) (ix_9 h2)
    · exact hI
  · exact hI
theorem Iv_aPr {y : Nat → Nat} (hI : Iv y) (a b c f : Int32) : Iv (aPr y a b c f).2 := by
  unfold aPr
  split
  · next h =>
    split
    · next h2 => exact Iv_prC hI (z_ix h.1) (ix_9 h2.2)
    · exact hI
  · exact hI
theorem Iv_aHr {y : Nat → Nat} (hI : Iv y) (k : Int32) : Iv (aHr y k).2 := by
  unfold aHr
  split
  · exact Iv_hrs hI _
  · exact hI

