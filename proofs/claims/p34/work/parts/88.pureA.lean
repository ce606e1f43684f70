/-! DIGITS, SUMS, THE BEST SHEET -/
theorem rz_dg {nu p q : Nat} (h : nu < 1000000) (hp : p < 6) (hq : q < 6) : dg (rz nu p) q = if q = p then (dg nu p + 1) % 10 else dg nu q := by
  unfold rz dg
  have e0 : p10 0 = 1 := rfl
  have e1 : p10 1 = 10 := rfl
  have e2 : p10 2 = 100 := rfl
  have e3 : p10 3 = 1000 := rfl
  have e4 : p10 4 = 10000 := rfl
  have e5 : p10 5 = 100000 := rfl
  have cp : p = 0 ∨ p = 1 ∨ p = 2 ∨ p = 3 ∨ p = 4 ∨ p = 5 := by omega
  have cq : q = 0 ∨ q = 1 ∨ q = 2 ∨ q = 3 ∨ q = 4 ∨ q = 5 := by omega
  rcases cp with rfl | rfl | rfl | rfl | rfl | rfl <;> rcases cq with rfl | rfl | rfl | rfl | rfl | rfl <;> simp only [Nat.reduceSub, e0, e1, e2, e3, e4, e5, Nat.reduceEqDiff, if_true, if_false, reduceIte] <;> split <;> omega
theorem udk_c {a a' b : Nat} : ∀ {k : Nat}, (∀ i, i < k → dg a i = dg a' i) → udk a b k = udk a' b k
  | 0, _ => rfl
  | k + 1, h => by
    simp only [udk]
    rw [udk_c (fun i hi => h i (by omega)), h k (by omega)]
theorem ud_same (a : Nat) : ud a a = 0 := by
  have key : ∀ k, udk a a k = 0 := by
    intro k
    induction k with
    | zero => rfl
    | succ k ih =>
      show udk a a k + bp (¬ dg a k = dg a k) = 0
      rw [ih, bp_f (not_not_intro rfl)]
  exact key 6
/-- one place more that is unlike -/
theorem udk_set {a a' b p : Nat} (hp : ¬ dg a' p = dg b p) (hq : dg a p = dg b p) (hn : ∀ i, i < 6 → ¬ i = p → dg a' i = dg a i) : ∀ k, k ≤ 6 → udk a' b k = udk a b k + bp (p < k)
  | 0, _ => rfl
  | k + 1, h => by
    simp only [udk]
    rw [udk_set hp hq hn k (by omega)]
    by_cases e : k = p
    · subst e
      rw [bp_t hp, bp_f (not_not_intro hq), bp_f (Nat.lt_irrefl _), bp_t (Nat.lt_succ_self _)]
    · rw [hn k (by omega) e, bp_c (show p < k ↔ p < k + 1 by omega)]
      omega
theorem rz_ne {nu p : Nat} (h : nu < 1000000) (hp : p < 6) : ¬ dg (rz nu p) p = dg nu p := by
  rw [rz_dg h hp hp, if_pos rfl]
  have := dg_lt nu p
  omega
theorem ud_rz1 {d p : Nat} (h : d < 1000000) (hp : p < 6) : ud (rz d p) d = 1 := by
  have h1 := udk_set (a := d) (a' := rz d p) (b := d) (rz_ne h hp) rfl (fun i hi hn => by rw [rz_dg h hp hi, if_neg hn]) 6 (Nat.le_refl _)
  have h0 : udk d d 6 = 0 := ud_same d
  unfold ud
  rw [h1, h0, bp_t hp]
theorem ud_rz2 {d p q : Nat} (h : d < 1000000) (hp : p < 6) (hq : q < 6) (hpq : ¬ q = p) : ud (rz (rz d p) q) d = 2 := by
  have hr := rz_lt h hp
  have h1 := udk_set (a := rz d p) (a' := rz (rz d p) q) (b := d) (p := q) (by
    rw [rz_dg hr hq hq, if_pos rfl, rz_dg h hp hq, if_neg hpq]
    have := dg_lt d q
    omega) (by rw [rz_dg h hp hq, if_neg hpq]) (fun i hi hn => by rw [rz_dg hr hq hi, if_neg hn]) 6 (Nat.le_refl _)
  have h2 : udk (rz d p) d 6 = 1 := ud_rz1 h hp
  unfold ud
  rw [h1, h2, bp_t hq]
theorem ud_rdw {d k : Nat} (h : d < 1000000) (hk : ¬ k = 0) : ud (rdw d k) d = if 40 ≤ k then 0 else if 20 ≤ k then 1 else 2 := by
  unfold rdw
  rw [if_neg hk]
  by_cases h4 : 40 ≤ k
  · rw [if_pos h4, if_pos h4, ud_same]
  · rw [if_neg h4, if_neg h4]
    by_cases h2 : 20 ≤ k
    · rw [if_pos h2, if_pos h2, ud_rz1 h (by omega)]
    · rw [if_neg h2, if_neg h2, ud_rz2 h (by omega) (by omega) (by omega)]
/-- unlike places, from the lowest one on -/
def dfk (a b : Nat) : Nat → Nat
  | 0 => 0
  | k + 1 => dfk a b k + bp (¬ a / p10 k % 10 = b / p10 k % 10)
theorem dfk_6 (a b : Nat) : dfk a b 6 = ud a b := by
  have e0 : bp (¬ a / p10 0 % 10 = b / p10 0 % 10) = bp (¬ dg a 5 = dg b 5) := rfl
  have e1 : bp (¬ a / p10 1 % 10 = b / p10 1 % 10) = bp (¬ dg a 4 = dg b 4) := rfl
  have e2 : bp (¬ a / p10 2 % 10 = b / p10 2 % 10) = bp (¬ dg a 3 = dg b 3) := rfl
  have e3 : bp (¬ a / p10 3 % 10 = b / p10 3 % 10) = bp (¬ dg a 2 = dg b 2) := rfl
  have e4 : bp (¬ a / p10 4 % 10 = b / p10 4 % 10) = bp (¬ dg a 1 = dg b 1) := rfl
  have e5 : bp (¬ a / p10 5 % 10 = b / p10 5 % 10) = bp (¬ dg a 0 = dg b 0) := rfl
  show 0 + bp (¬ a / p10 0 % 10 = b / p10 0 % 10) + bp (¬ a / p10 1 % 10 = b / p10 1 % 10) + bp (¬ a / p10 2 % 10 = b / p10 2 % 10) + bp (¬ a / p10 3 % 10 = b / p10 3 % 10) + bp (¬ a / p10 4 % 10 = b / p10 4 % 10) + bp (¬ a / p10 5 % 10 = b / p10 5 % 10) = 0 + bp (¬ dg a 0 = dg b 0) + bp (¬ dg a 1 = dg b 1) + bp (¬ dg a 2 = dg b 2) + bp (¬ dg a 3 = dg b 3) + bp (¬ dg a 4 = dg b 4) + bp (¬ dg a 5 = dg b 5)
  rw [e0, e1, e2, e3, e4, e5]
  omega
theorem dfk_le (a b : Nat) : ∀ k, dfk a b k ≤ k
  | 0 => Nat.le_refl _
  | k + 1 => by have := dfk_le a b k; have := bp_le (P := ¬ a / p10 k % 10 = b / p10 k % 10); simp only [dfk]; omega
/-! errors later, ink later -/
theorem hrs_n {y : Nat → Nat} (hI : Iv y) {j : Nat} (h5 : ¬ j = 5) (h : ∀ i, i < 12 → ¬ j = 58 + 6 * i + 2) (h2 : ∀ i, i < 5 → ¬ j = 37 + 3 * i + 1 ∧ ¬ j = 37 + 3 * i + 2) : ∀ n, hrs y n j = y j
  | 0 => rfl
  | n + 1 => by
    have hI2 := Iv_hrs hI n
    have i0 := hI2.1
    show hr (hrs y n) j = y j
    rw [hr_n h5 (fun i hi => h i (by omega)) (fun i hi => h2 i (by omega)), hrs_n hI h5 h h2 n]
theorem hrs_ink {y : Nat → Nat} (hI : Iv y) {s : Nat} (hs : s < y 4) : ∀ n, hrs y n (58 + 6 * s + 2) = y (58 + 6 * s + 2) - n * y (58 + 6 * s + 3)
  | 0 => by simp [hrs]
  | n + 1 => by
    have hI2 := Iv_hrs hI n
    have i0 := hI2.1
    have e4 : hrs y n 4 = y 4 := hrs_n hI (by omega) (fun i hi => by omega) (fun i hi => by omega) n
    have e3 : hrs y n (58 + 6 * s + 3) = y (58 + 6 * s + 3) := hrs_n hI (by omega) (fun i hi => by omega) (fun i hi => by omega) n
    show hr (hrs y n) (58 + 6 * s + 2) = _
    rw [hr_ink (by rw [e4]; exact hs) (by omega), e3, hrs_ink hI hs n, Nat.add_mul n 1, Nat.one_mul]
    omega
theorem ers_hrs {y : Nat → Nat} (hI : Iv y) {s : Nat} (hs : s < y 4) (n : Nat) : ers (hrs y n) s 0 = ers y s n := by
  have hm := (hI.2.2.2.2 s hs).1
  have i0 := hI.1
  have e1 : hrs y n (58 + 6 * s + 1) = y (58 + 6 * s + 1) := hrs_n hI (by omega) (fun i hi => by omega) (fun i hi => by omega) n
  have e0 : hrs y n (58 + 6 * s) = y (58 + 6 * s) := hrs_n hI (by omega) (fun i hi => by omega) (fun i hi => by omega) n
  have em : hrs y n (52 + y (58 + 6 * s)) = y (52 + y (58 + 6 * s)) := hrs_n hI (by omega) (fun i hi => by omega) (fun i hi => by omega) n
  unfold ers ink
  rw [e1, e0, em, hrs_ink hI hs n, Nat.zero_mul, Nat.sub_zero]
theorem hrs_add (y : Nat → Nat) (a : Nat) : ∀ b, hrs (hrs y a) b = hrs y (a + b)
  | 0 => rfl
  | b + 1 => by
    show hr (hrs (hrs y a) b) = hr (hrs y (a + b))
    rw [hrs_add y a b]
/-! sums -/
def smc (y : Nat → Nat) : Nat → Nat
  | 0 => 0
  | k + 1 => smc y k + car y k
def ccs (y : Nat → Nat) : Nat → Nat
  | 0 => 0
  | k + 1 => ccs y k + bp (¬ y (58 + 6 * k + 4) = NO)
theorem smc_le (y : Nat → Nat) (h : ∀ r, car y r ≤ 12) : ∀ k, smc y k ≤ 12 * k
  | 0 => Nat.le_refl _
  | k + 1 => by have := smc_le y h k; have := h k; simp only [smc]; omega
theorem ccs_mo (y : Nat → Nat) : ∀ {a b : Nat}, a ≤ b → ccs y a ≤ ccs y b
  | a, 0, h => by rw [Nat.le_zero.mp h]; exact Nat.le_refl _
  | a, b + 1, h => by
    by_cases e : a = b + 1
    · rw [e]; exact Nat.le_refl _
    · have := ccs_mo y (a := a) (b := b) (by omega)
      simp only [ccs]; omega
def smk (y : Nat → Nat) (n : Nat) : Nat → Nat
  | 0 => 0
  | k + 1 => smk y n k + cark y k n
theorem smk_c (y : Nat → Nat) (n : Nat) : ∀ k, smk y (n + 1) k = smk y n k + bp (y (58 + 6 * n + 4) < k)
  | 0 => by simp only [smk]; rw [bp_f (Nat.not_lt_zero _)]
  | k + 1 => by
    simp only [smk, cark]
    rw [smk_c y n k]
    by_cases e : y (58 + 6 * n + 4) = k
    · rw [e, bp_t rfl, bp_f (Nat.lt_irrefl _), bp_t (Nat.lt_succ_self _)]; omega
    · rw [bp_f e, bp_c (show y (58 + 6 * n + 4) < k ↔ y (58 + 6 * n + 4) < k + 1 by omega)]; omega
theorem smk_0 (y : Nat → Nat) : ∀ k, smk y 0 k = 0
  | 0 => rfl
  | k + 1 => by simp only [smk, cark]; rw [smk_0 y k]
theorem smk_cc {y : Nat → Nat} (hI : Iv y) : ∀ n, n ≤ y 4 → smk y n (y 2) = ccs y n
  | 0, _ => smk_0 y _
  | n + 1, h => by
    rw [smk_c, smk_cc hI n (by omega)]
    simp only [ccs]
    have h1 := (hI.2.2.2.2 n (by omega)).2.2.2.2.1
    have h2 := hI.1
    have := NO_eq
    rw [bp_c (show y (58 + 6 * n + 4) < y 2 ↔ ¬ y (58 + 6 * n + 4) = NO by omega)]
theorem smc_k (y : Nat → Nat) : ∀ k, smc y k = smk y (y 4) k
  | 0 => rfl
  | k + 1 => by simp only [smc, smk]; rw [smc_k y k]; rfl
theorem smc_cc {y : Nat → Nat} (hI : Iv y) : smc y (y 2) = ccs y (y 4) := by rw [smc_k, smk_cc hI _ (Nat.le_refl _)]
/-! bits -/
theorem shl12 {k : Nat} (h : k ≤ 12) : nI 1 <<< (nI k &&& 31) = nI (2 ^ k) := by
  by_cases e : k = 12
  · subst e; decide
  · exact shl1 (by omega)
theorem shr_all : ∀ k, k < 12 → ∀ x, x < 4096 → (nI x >>> (nI k &&& 31)) &&& nI 1 = nI (x / 2 ^ k % 2) := by
  have key : (List.range 12).all (fun k => (List.range 4096).all (fun x => decide ((nI x >>> (nI k &&& 31)) &&& nI 1 = nI (x / 2 ^ k % 2)))) = true := by decide +kernel
  intro k hk x hx
  exact of_decide_eq_true (List.all_eq_true.mp (List.all_eq_true.mp key k (List.mem_range.mpr hk)) x (List.mem_range.mpr hx))
theorem cbk_bit (y : Nat → Nat) (r : Nat) {s : Nat} : ∀ {k : Nat}, s < k → cbk y r k / 2 ^ s % 2 = bp (y (58 + 6 * s + 4) = r)
  | k + 1, h => by
    simp only [cbk]
    by_cases e : s = k
    · subst e
      rw [Nat.add_mul_div_right _ _ (Nat.two_pow_pos s), Nat.div_eq_of_lt (cbk_lt y r s), Nat.zero_add]
      exact Nat.mod_eq_of_lt (by have := bp_le (P := y (58 + 6 * s + 4) = r); omega)
    · have h1 := cbk_bit y r (s := s) (k := k) (by omega)
      obtain ⟨j, hj⟩ : ∃ j, k = s + 1 + j := ⟨k - (s + 1), by omega⟩
      have h2 : bp (y (58 + 6 * k + 4) = r) * 2 ^ k = (bp (y (58 + 6 * k + 4) = r) * 2 ^ j * 2) * 2 ^ s := by
        rw [hj, Nat.pow_add, Nat.pow_succ]
        simp only [Nat.mul_comm, Nat.mul_left_comm, Nat.mul_assoc]
      rw [h2, Nat.add_mul_div_right _ _ (Nat.two_pow_pos s), Nat.add_mul_mod_self_right]
      exact h1
theorem cbk_12 (y : Nat → Nat) (r : Nat) {k : Nat} (h : k ≤ 12) : cbk y r k < 4096 := Nat.lt_of_lt_of_le (cbk_lt y r k) (Nat.pow_le_pow_right (by decide) h)
theorem bit_of {y : Nat → Nat} {r s : Nat} (hI : Iv y) (hs : s < y 4) : (nI (cbk y r (y 4)) >>> (nI s &&& 31)) &&& nI 1 = nI (bp (y (58 + 6 * s + 4) = r)) := by
  have := hI.1
  rw [shr_all s (by omega) _ (cbk_12 y r (by omega)), cbk_bit y r hs]
/-! the best sheet -/
theorem bestk_at {y : Nat → Nat} {m : Nat} : ∀ {k : Nat}, k ≤ 12 → (bestk y m k = NO ∧ ∀ s, s < k → ¬ y (58 + 6 * s) = m) ∨ (bestk y m k < k ∧ y (58 + 6 * bestk y m k) = m ∧ ∀ s, s < k → y (58 + 6 * s) = m → ers y (bestk y m k) 0 < ers y s 0 ∨ (ers y s 0 = ers y (bestk y m k) 0 ∧ (y (58 + 6 * s + 2) < y (58 + 6 * bestk y m k + 2) ∨ (y (58 + 6 * s + 2) = y (58 + 6 * bestk y m k + 2) ∧ bestk y m k ≤ s))))
  | 0, _ => Or.inl ⟨rfl, fun s hs => absurd hs (Nat.not_lt_zero s)⟩
  | k + 1, h12 => by
    have hN : NO = 4294967295 := rfl
    have ih := bestk_at (y := y) (m := m) (k := k) (by omega)
    simp only [bestk]
    by_cases hk : y (58 + 6 * k) = m
    · rcases ih with ⟨h1, h2⟩ | ⟨h1, h2, h3⟩
      · rw [if_pos ⟨hk, Or.inl (by omega)⟩]
        refine Or.inr ⟨by omega, hk, fun s hs he => ?_⟩
        by_cases e : s = k
        · subst e; exact Or.inr ⟨rfl, Or.inr ⟨rfl, Nat.le_refl _⟩⟩
        · exact absurd he (h2 s (by omega))
      · by_cases hb : ers y k 0 < ers y (bestk y m k) 0 ∨ (ers y k 0 = ers y (bestk y m k) 0 ∧ y (58 + 6 * bestk y m k + 2) < y (58 + 6 * k + 2))
        · rw [if_pos ⟨hk, Or.inr hb⟩]
          refine Or.inr ⟨by omega, hk, fun s hs he => ?_⟩
          by_cases e : s = k
          · subst e; exact Or.inr ⟨rfl, Or.inr ⟨rfl, Nat.le_refl _⟩⟩
          · have := h3 s (by omega) he
            omega
        · rw [if_neg (by intro c; rcases c.2 with c | c; omega; exact hb c)]
          refine Or.inr ⟨by omega, h2, fun s hs he => ?_⟩
          by_cases e : s = k
          · subst e; omega
          · exact h3 s (by omega) he
    · rw [if_neg (fun c => hk c.1)]
      rcases ih with ⟨h1, h2⟩ | ⟨h1, h2, h3⟩
      · refine Or.inl ⟨h1, fun s hs => ?_⟩
        by_cases e : s = k
        · subst e; exact hk
        · exact h2 s (by omega)
      · refine Or.inr ⟨by omega, h2, fun s hs he => ?_⟩
        by_cases e : s = k
        · subst e; exact absurd he hk
        · exact h3 s (by omega) he
/-- what a sheet is worth -/
theorem wo_I {a b : Nat} (ha : a < 100) (hb : b ≤ 6) : (nI a - nI (100 * b)).toInt = (a : Int) - 100 * (b : Int) := by
  have key : ∀ b, b ≤ 6 → ∀ a, a < 100 → (nI a - nI (100 * b)).toInt = (a : Int) - 100 * (b : Int) := by decide +kernel
  exact key b hb a ha
theorem wo_lt {a b a' b' : Nat} (ha : a < 100) (hb : b ≤ 6) (ha' : a' < 100) (hb' : b' ≤ 6) : nI a - nI (100 * b) < nI a' - nI (100 * b') ↔ (a : Int) - 100 * b < (a' : Int) - 100 * b' := by
  rw [Int32.lt_iff_toInt_lt, wo_I ha hb, wo_I ha' hb']
theorem wo_eq {a b a' b' : Nat} (ha : a < 100) (hb : b ≤ 6) (ha' : a' < 100) (hb' : b' ≤ 6) : nI a - nI (100 * b) = nI a' - nI (100 * b') ↔ (a : Int) - 100 * b = (a' : Int) - 100 * b' := by
  rw [← Int32.toInt_inj, wo_I ha hb, wo_I ha' hb']
/-! the least hour with more errors -/
theorem rgt_at {y : Nat → Nat} {s : Nat} : ∀ {f n : Nat}, 1 ≤ n → n + f = 201 → (rgt y s f n = NO ∧ ∀ j, n ≤ j → j ≤ 200 → ers y s j ≤ ers y s 0) ∨ (n ≤ rgt y s f n ∧ rgt y s f n ≤ 200 ∧ ers y s 0 < ers y s (rgt y s f n) ∧ ∀ j, n ≤ j → j < rgt y s f n → ers y s j ≤ ers y s 0)
  | 0, n, h1, h2 => Or.inl ⟨rfl, fun j a b => absurd b (by omega)⟩
  | f + 1, n, h1, h2 => by
    by_cases h : ers y s 0 < ers y s n
    · rw [rgt_t (Nat.succ_pos f) h]
      exact Or.inr ⟨Nat.le_refl _, by omega, h, fun j a b => absurd b (by omega)⟩
    · rw [rgt_s (Nat.succ_pos f) h, show f.succ - 1 = f from rfl]
      rcases rgt_at (y := y) (s := s) (f := f) (n := n + 1) (by omega) (by omega) with ⟨g1, g2⟩ | ⟨g1, g2, g3, g4⟩
      · refine Or.inl ⟨g1, fun j a b => ?_⟩
        by_cases e : j = n
        · rw [e]; omega
        · exact g2 j (by omega) b
      · refine Or.inr ⟨by omega, g2, g3, fun j a b => ?_⟩
        by_cases e : j = n
        · rw [e]; omega
        · exact g4 j (by omega) b
theorem rgt_1 (y : Nat → Nat) (s : Nat) : (rgt y s 200 1 = NO ∧ ∀ j, j ≤ 200 → ers y s j ≤ ers y s 0) ∨ (1 ≤ rgt y s 200 1 ∧ rgt y s 200 1 ≤ 200 ∧ ers y s 0 < ers y s (rgt y s 200 1) ∧ ∀ j, j < rgt y s 200 1 → ers y s j ≤ ers y s 0) := by
  rcases rgt_at (y := y) (s := s) (f := 200) (n := 1) (by omega) (by omega) with ⟨g1, g2⟩ | ⟨g1, g2, g3, g4⟩
  · refine Or.inl ⟨g1, fun j b => ?_⟩
    by_cases e : j = 0
    · rw [e]; exact Nat.le_refl _
    · exact g2 j (by omega) b
  · refine Or.inr ⟨g1, g2, g3, fun j b => ?_⟩
    by_cases e : j = 0
    · rw [e]; exact Nat.le_refl _
    · exact g4 j (by omega) b
