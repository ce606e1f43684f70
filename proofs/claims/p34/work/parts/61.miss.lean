/-! two rows that stood among the reference's -/
theorem nIne {a b : Nat} (ha : a < 2 ^ 32) (hb : b < 2 ^ 32) (h : ¬ a = b) : ¬ nI a = nI b := fun e => h (by rw [nI32 ha hb] at e; exact e)
theorem coms_le {y : Nat → Nat} (hI : Iv y) : ∀ k, coms y k ≤ 5 * k
  | 0 => Nat.le_refl _
  | k + 1 => by
    have h1 := coms_le hI k
    have h2 := comek_le (hrs y k) (hrs y k 2)
    have h3 := (Iv_hrs hI k).1.2.2.1
    simp only [coms]
    omega
