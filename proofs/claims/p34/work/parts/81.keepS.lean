/-! WHAT ALWAYS HOLDS IS KEPT -/
theorem SI_act {y y2 : Nat → Nat} {k kk : Nat} {D S : Nat → Nat → Nat} {sv : Nat → Bool} {N : Nat} {T : Nat → Nat} (hI : SI y k D S sv N T) (h2 : Iv y2) : SI y2 (aK kk k) (aD kk k D y) S sv N T := by
  obtain ⟨h1, hk, hD, hS, hN, hT⟩ := hI
  refine ⟨h2, ?_, ?_, hS, hN, hT⟩
  · unfold aK psC
    split
    · split <;> omega
    · exact hk
  · unfold aK aD
    by_cases e : kk = 0
    · rw [if_pos e, if_pos e]
      intro i hi
      unfold psC at hi
      unfold psD
      by_cases e14 : k = 14
      · rw [if_pos e14] at hi ⊢
        by_cases e13 : i = 13
        · rw [if_pos e13]; exact h1
        · rw [if_neg e13]; exact hD (i + 1) (by omega)
      · rw [if_neg e14] at hi ⊢
        by_cases ek : i = k
        · rw [if_pos ek]; exact h1
        · rw [if_neg ek]; exact hD i (by omega)
    · rw [if_neg e, if_neg e]; exact hD
theorem Iv_cnt {x : Ar} (h : Iv x.2) : Iv (cnt x) := by
  unfold cnt
  split
  · exact h
  · exact Iv_6 h _
theorem SI_undo {y : Nat → Nat} {k : Nat} {D S : Nat → Nat → Nat} {sv : Nat → Bool} {N : Nat} {T : Nat → Nat} (hI : SI y k D S sv N T) : SI (if k = 0 then y else D (k - 1)) (k - 1) D S sv N T := by
  obtain ⟨h1, hk, hD, hS, hN, hT⟩ := hI
  refine ⟨?_, by omega, fun i hi => hD i (by omega), hS, hN, hT⟩
  by_cases e : k = 0
  · rw [if_pos e]; exact h1
  · rw [if_neg e]; exact hD _ (by omega)
theorem SI_append {y : Nat → Nat} {k : Nat} {D S : Nat → Nat → Nat} {sv : Nat → Bool} {N : Nat} {T : Nat → Nat} {p : Int32} (hI : SI y k D S sv N T) : SI y k D S sv (aN (if ix p 256 then (if N < 120 then 0 else 2) else 1) N) (aTx (if ix p 256 then (if N < 120 then 0 else 2) else 1) N T (z p)) := by
  obtain ⟨h1, hk, hD, hS, hN, hT⟩ := hI
  by_cases e : ix p 256
  · rw [if_pos e]
    by_cases e2 : N < 120
    · rw [if_pos e2]
      refine ⟨h1, hk, hD, hS, (show N + 1 ≤ 120 by omega), fun i hi => ?_⟩
      have hi : i < N + 1 := hi
      show ys T N (z p) i < 256
      by_cases e3 : i = N
      · rw [e3, ys_s]; exact z_ix e
      · rw [ys_n _ e3]; exact hT i (by omega)
    · rw [if_neg e2]
      exact ⟨h1, hk, hD, hS, hN, hT⟩
  · rw [if_neg e]
    exact ⟨h1, hk, hD, hS, hN, hT⟩
theorem SI_clear {y : Nat → Nat} {k : Nat} {D S : Nat → Nat → Nat} {sv : Nat → Bool} {N : Nat} {T : Nat → Nat} (hI : SI y k D S sv N T) : SI y k D S sv 0 T := ⟨hI.1, hI.2.1, hI.2.2.1, hI.2.2.2.1, by omega, fun i hi => absurd hi (Nat.not_lt_zero i)⟩
theorem SI_save {y : Nat → Nat} {k : Nat} {D S : Nat → Nat → Nat} {sv : Nat → Bool} {N : Nat} {T : Nat → Nat} {kk j : Nat} (hI : SI y k D S sv N T) : SI y k D (sA kk j y S) (sB kk j sv) N T := by
  obtain ⟨h1, hk, hD, hS, hN, hT⟩ := hI
  refine ⟨h1, hk, hD, fun i hi hs => ?_, hN, hT⟩
  unfold sA
  unfold sB at hs
  by_cases e : kk = 0
  · rw [if_pos e] at hs ⊢
    have hs : (if i = j then true else sv i) = true := hs
    show Iv (if i = j then y else S i)
    by_cases e2 : i = j
    · rw [if_pos e2]; exact h1
    · rw [if_neg e2] at hs ⊢; exact hS i hi hs
  · rw [if_neg e] at hs ⊢
    exact hS i hi hs
theorem SI_restore {y : Nat → Nat} {k : Nat} {D S : Nat → Nat → Nat} {sv : Nat → Bool} {N : Nat} {T : Nat → Nat} {p : Int32} (hI : SI y k D S sv N T) : SI (if (if ix p 2 then (if sv (z p) = true then 0 else 2) else 1) = 0 then S (z p) else y) (if (if ix p 2 then (if sv (z p) = true then 0 else 2) else 1) = 0 then 0 else k) D S sv N T := by
  obtain ⟨h1, hk, hD, hS, hN, hT⟩ := id hI
  by_cases e : ix p 2
  · by_cases e2 : sv (z p) = true
    · rw [if_pos e, if_pos e2, if_pos rfl, if_pos rfl]
      exact ⟨hS _ (z_ix e) e2, by omega, fun i hi => absurd hi (Nat.not_lt_zero i), hS, hN, hT⟩
    · rw [if_pos e, if_neg e2, if_neg (by decide), if_neg (by decide)]
      exact hI
  · rw [if_neg e, if_neg (by decide), if_neg (by decide)]
    exact hI
