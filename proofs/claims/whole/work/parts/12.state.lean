/-! THE STATE AS A ROW OF NUMBERS: 0 towns, 1 roads, 2 runners, 3 messages, 4 sheets, 5 time, 6 refused; a road at 7 + 3 i, a runner at 37 + 3 i, a message at 52 + i, a sheet at 58 + 6 i -/
def ys (y : Nat → Nat) (k v : Nat) : Nat → Nat := fun j => if j = k then v else y j
theorem ys_s (y : Nat → Nat) (k v : Nat) : ys y k v k = v := if_pos rfl
theorem ys_n {y : Nat → Nat} {k j : Nat} (v : Nat) (h : j ≠ k) : ys y k v j = y j := if_neg h
theorem upd_ys (y : Nat → Nat) (k v : Nat) : upd (fun j => nI (y j)) k (nI v) = fun j => nI (ys y k v j) := by
  funext j
  unfold upd ys
  split <;> rfl
/-- a row of the reference -/
def Row (a : Nat) (y : Nat → Nat) (h : AH) : Prop := h a = some (.inl (0, 130, .inl (fun j => nI (y j))))
/-- what always holds of a state -/
def Iv (y : Nat → Nat) : Prop := (y 0 ≤ 6 ∧ y 1 ≤ 10 ∧ y 2 ≤ 5 ∧ y 3 ≤ 6 ∧ y 4 ≤ 12) ∧ (∀ i, i < y 1 → y (7 + 3 * i) < y 0 ∧ y (7 + 3 * i + 1) < y 0 ∧ ¬ y (7 + 3 * i) = y (7 + 3 * i + 1) ∧ 1 ≤ y (7 + 3 * i + 2) ∧ y (7 + 3 * i + 2) ≤ 20) ∧ (∀ i, i < y 2 → y (37 + 3 * i) < y 0 ∧ y (37 + 3 * i + 1) ≤ 20) ∧ (∀ i, i < y 3 → y (52 + i) < 1000000) ∧ (∀ i, i < y 4 → y (58 + 6 * i) < y 3 ∧ y (58 + 6 * i + 1) < 1000000 ∧ y (58 + 6 * i + 2) ≤ 99 ∧ y (58 + 6 * i + 3) ≤ 9 ∧ (y (58 + 6 * i + 4) = NO ∨ y (58 + 6 * i + 4) < y 2) ∧ y (58 + 6 * i + 5) < y 0)
/-- an index within -/
abbrev ix (t : Int32) (n : Nat) : Prop := 0 ≤ t.toInt ∧ t.toInt < n
/-- the town where a runner is, NO on a road -/
def tof (y : Nat → Nat) (r : Nat) : Nat := if y (37 + 3 * r + 1) = 0 then y (37 + 3 * r) else NO
/-- the town where a sheet is, NO in none -/
def pof (y : Nat → Nat) (s : Nat) : Nat := if y (58 + 6 * s + 4) = NO then y (58 + 6 * s + 5) else tof y (y (58 + 6 * s + 4))
/-- how many of the first k sheets the runner carries -/
def cark (y : Nat → Nat) (r : Nat) : Nat → Nat
  | 0 => 0
  | k + 1 => cark y r k + bp (y (58 + 6 * k + 4) = r)
def car (y : Nat → Nat) (r : Nat) : Nat := cark y r (y 4)
theorem cark_le (y : Nat → Nat) (r : Nat) : ∀ k, cark y r k ≤ k
  | 0 => Nat.le_refl _
  | k + 1 => by have := cark_le y r k; have := bp_le (P := y (58 + 6 * k + 4) = r); simp only [cark]; omega
/-- a runner of the first k, not 'but', is in the town -/
def rin (y : Nat → Nat) (t but : Nat) (k : Nat) : Prop := ∃ r, r < k ∧ ¬ r = but ∧ tof y r = t
theorem rin_0 {y : Nat → Nat} {t but : Nat} : ¬ rin y t but 0 := fun ⟨_, h, _⟩ => absurd h (Nat.not_lt_zero _)
theorem rin_s {y : Nat → Nat} {t but k : Nat} (h : ¬ rin y t but k) (hk : k = but ∨ ¬ tof y k = t) : ¬ rin y t but (k + 1) := by
  rintro ⟨r, h1, h2, h3⟩
  by_cases e : r = k
  · subst e
    rcases hk with hk | hk
    · exact h2 hk
    · exact hk h3
  · exact h ⟨r, by omega, h2, h3⟩
/-- the ink in n hours -/
def ink (y : Nat → Nat) (s n : Nat) : Nat := y (58 + 6 * s + 2) - n * y (58 + 6 * s + 3)
/-- what is read of a sheet now -/
def rof (y : Nat → Nat) (s : Nat) : Nat := rdw (y (58 + 6 * s + 1)) (y (58 + 6 * s + 2))
/-- its errors in n hours -/
def ers (y : Nat → Nat) (s n : Nat) : Nat := err (rdw (y (58 + 6 * s + 1)) (ink y s n)) (y (52 + y (58 + 6 * s)))
theorem ers_le (y : Nat → Nat) (s n : Nat) : ers y s n ≤ 6 := err_le _ _
def allk (y : Nat → Nat) : Nat → Nat
  | 0 => 0
  | k + 1 => allk y k + ers y k 0
theorem allk_le (y : Nat → Nat) : ∀ k, allk y k ≤ 6 * k
  | 0 => Nat.le_refl _
  | k + 1 => by have := allk_le y k; have := ers_le y k 0; simp only [allk]; omega
def blk (y : Nat → Nat) : Nat → Nat
  | 0 => 0
  | k + 1 => blk y k + bp (y (58 + 6 * k + 2) = 0)
theorem blk_le (y : Nat → Nat) : ∀ k, blk y k ≤ k
  | 0 => Nat.le_refl _
  | k + 1 => by have := blk_le y k; have := bp_le (P := y (58 + 6 * k + 2) = 0); simp only [blk]; omega
theorem toI64 {a : Nat} (ha : a < 2 ^ 31) : (nI a - nI 1).toInt64.toInt = (a : Int) - 1 := by
  by_cases h : a = 0
  · subst h; decide
  · rw [pk_sub (show 1 ≤ a by omega), Int32.toInt_toInt64, nI_toInt (by omega)]
    omega
theorem ix_of {t : Int32} {n : Nat} (h : ix t n) (hn : n < 2 ^ 31) : ∃ j, j < n ∧ t = nI j := by
  refine ⟨t.toInt.toNat, by have := h.1; have := h.2; omega, ?_⟩
  have h1 := h.1
  have h2 := h.2
  apply Int32.toInt_inj.mp
  rw [nI_toInt (by omega)]
  omega
theorem ix_nI {j n : Nat} (hj : j < 2 ^ 31) : ix (nI j) n ↔ j < n := by
  show 0 ≤ (nI j).toInt ∧ (nI j).toInt < n ↔ _
  rw [nI_toInt hj]
  omega
