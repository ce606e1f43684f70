/-! NUMBERS OF SIX DIGITS -/
def NO : Nat := 4294967295
def p10 : Nat → Nat
  | 0 => 1
  | k + 1 => 10 * p10 k
theorem p10_pos : ∀ k, 0 < p10 k
  | 0 => by decide
  | k + 1 => by have := p10_pos k; simp only [p10]; omega
theorem p10_le {k : Nat} (h : k ≤ 5) : p10 k ≤ 100000 := by
  match k, h with
  | 0, _ => decide
  | 1, _ => decide
  | 2, _ => decide
  | 3, _ => decide
  | 4, _ => decide
  | 5, _ => decide
theorem div10 (a k : Nat) : a / p10 k / 10 = a / p10 (k + 1) := by rw [Nat.div_div_eq_div_mul]; simp only [p10]; rw [Nat.mul_comm]
/-- the digit of a number at a place (the highest one at the place 0) -/
def dg (nu pl : Nat) : Nat := nu / p10 (5 - pl) % 10
theorem dg_lt (nu pl : Nat) : dg nu pl < 10 := Nat.mod_lt _ (by decide)
/-- the number with the digit at the place as 1 more, and 9 as 0 -/
def rz (nu pl : Nat) : Nat := if dg nu pl = 9 then nu - 9 * p10 (5 - pl) else nu + p10 (5 - pl)
theorem rz_sub {nu pl : Nat} (h : dg nu pl = 9) : 9 * p10 (5 - pl) ≤ nu := by
  unfold dg at h
  have h1 := Nat.div_add_mod (nu / p10 (5 - pl)) 10
  have h2 := Nat.div_mul_le_self nu (p10 (5 - pl))
  have h3 : 9 ≤ nu / p10 (5 - pl) := by omega
  exact Nat.le_trans (Nat.mul_le_mul_right _ h3) h2
theorem rz_lt {nu pl : Nat} (h : nu < 1000000) (hp : pl < 6) : rz nu pl < 1000000 := by
  unfold rz
  split
  · omega
  · next h9 =>
    have hd := dg_lt nu pl
    unfold dg at h9 hd
    have key : ∀ u : Nat, (u = 1 ∨ u = 10 ∨ u = 100 ∨ u = 1000 ∨ u = 10000 ∨ u = 100000) → ¬ nu / u % 10 = 9 → nu + u < 1000000 := by
      intro u hu h9
      rcases hu with rfl | rfl | rfl | rfl | rfl | rfl <;> omega
    refine key _ ?_ h9
    match pl, hp with
    | 0, _ => decide
    | 1, _ => decide
    | 2, _ => decide
    | 3, _ => decide
    | 4, _ => decide
    | 5, _ => decide
/-- how many of the first k places differ -/
def udk (a b : Nat) : Nat → Nat
  | 0 => 0
  | k + 1 => udk a b k + bp (¬ dg a k = dg b k)
def ud (a b : Nat) : Nat := udk a b 6
theorem udk_le (a b : Nat) : ∀ k, udk a b k ≤ k
  | 0 => Nat.le_refl _
  | k + 1 => by have := udk_le a b k; have := bp_le (P := ¬ dg a k = dg b k); simp only [udk]; omega
theorem ud_le (a b : Nat) : ud a b ≤ 6 := udk_le a b 6
def mjd (a b c k : Nat) : Nat := if dg b k = dg c k then dg b k else dg a k
theorem mjd_lt (a b c k : Nat) : mjd a b c k < 10 := by unfold mjd; split <;> exact dg_lt _ _
def mjk (a b c : Nat) : Nat → Nat
  | 0 => 0
  | k + 1 => 10 * mjk a b c k + mjd a b c k
def mj (a b c : Nat) : Nat := mjk a b c 6
theorem mjk_lt (a b c : Nat) : ∀ k, mjk a b c k < p10 k
  | 0 => by simp [mjk, p10]
  | k + 1 => by have := mjk_lt a b c k; have := mjd_lt a b c k; simp only [mjk, p10]; omega
theorem mj_lt (a b c : Nat) : mj a b c < 1000000 := mjk_lt a b c 6
/-- what is read with some ink -/
def rdw (d k : Nat) : Nat := if k = 0 then NO else if 40 ≤ k then d else if 20 ≤ k then rz d (k % 6) else rz (rz d (k % 6)) ((k + 2) % 6)
theorem rdw_lt {d k : Nat} (h : d < 1000000) (hk : k ≠ 0) : rdw d k < 1000000 := by
  unfold rdw
  rw [if_neg hk]
  split
  · exact h
  · split
    · exact rz_lt h (Nat.mod_lt _ (by decide))
    · exact rz_lt (rz_lt h (Nat.mod_lt _ (by decide))) (Nat.mod_lt _ (by decide))
theorem rdw_0 (d : Nat) : rdw d 0 = NO := if_pos rfl
theorem rdw_no {d k : Nat} (h : d < 1000000) : rdw d k = NO ↔ k = 0 := by
  constructor
  · intro e
    by_cases hk : k = 0
    · exact hk
    · have := rdw_lt h hk; rw [e] at this; unfold NO at this; omega
  · intro e; rw [e]; exact rdw_0 d
theorem rdw_b (d k : Nat) (h : d < 1000000) : rdw d k < 2 ^ 32 := by
  by_cases hk : k = 0
  · rw [hk, rdw_0]; decide
  · have := rdw_lt h hk; omega
/-- the errors of what is read against a message -/
def err (r m : Nat) : Nat := if r = NO then 6 else ud r m
theorem err_le (r m : Nat) : err r m ≤ 6 := by unfold err; split; exact Nat.le_refl _; exact ud_le _ _

