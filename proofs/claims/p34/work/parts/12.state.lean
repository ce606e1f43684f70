/-! THE STATE AS A ROW OF NUMBERS: 0 towns, 1 roads, 2 runners, 3 messages, 4 sheets, 5 time, 6 refused; a road at 7 + 3 i, a runner at 37 + 3 i, a message at 52 + i, a sheet at 58 + 6 i -/
def ys (y : Nat → Nat) (k v : Nat) : Nat → Nat := fun j => if j = k then v else y j
theorem ys_s (y : Nat → Nat) (k v : Nat) : ys y k v k = v := if_pos rfl
theorem ys_n {y : Nat → Nat} {k j : Nat} (v : Nat) (h : j ≠ k) : ys y k v j = y j := if_neg h
theorem upd_ys (y : Nat → Nat) (k v : Nat) : upd (fun j => nI (y j)) k (nI v) = fun j => nI (ys y k v j) := by
  funext j
  unfold upd ys
  split <;> rfl
/-- a row of the reference -/
def Row (a : Nat) (y : Nat → Nat) (h : AH) : Prop := h a = some (.inl (0, 130, .inl (fun j => nI (y j))))
/-- what always holds of a state -/
def Iv (y : Nat → Nat) : Prop := (y 0 ≤ 6 ∧ y 1 ≤ 10 ∧ y 2 ≤ 5 ∧ y 3 ≤ 6 ∧ y 4 ≤ 12) ∧ (∀ i, i < y 1 → y (7 + 3 * i) < y 0 ∧ y (7 + 3 * i + 1) < y 0 ∧ ¬ y (7 + 3 * i) = y (7 + 3 * i + 1) ∧ 1 ≤ y (7 + 3 * i + 2) ∧ y (7 + 3 * i + 2) ≤ 20) ∧ (∀ i, i < y 2 → y (37 + 3 * i) < y 0 ∧ y (37 + 3 * i + 1) ≤ 20) ∧ (∀ i, i < y 3 → y (52 + i) < 1000000) ∧ (∀ i, i < y 4 → y (58 + 6 * i) < y 3 ∧ y (58 + 6 * i + 1) < 1000000 ∧ y (58 + 6 * i + 2) ≤ 99 ∧ y (58 + 6 * i + 3) ≤ 9 ∧ (y (58 + 6 * i + 4) = NO ∨ y (58 + 6 * i + 4) < y 2) ∧ y (58 + 6 * i + 5) < y 0)
/-- an index within -/
abbrev ix (t : Int32) (n : Nat) : Prop := 0 ≤ t.toInt ∧ t.toInt < n
/-- the town where a runner is, NO on a road -/
def tof (y : Nat → Nat) (r : Nat) : Nat := if y (37 + 3 * r + 1) = 0 then y (37 + 3 * r) else NO
/-- the town where a sheet is, NO in none -/
def pof (y : Nat → Nat) (s : Nat) : Nat := if y (58 + 6 * s + 4) = NO then y (58 + 6 * s + 5) else tof y (y (58 + 6 * s + 4))
/-- how many of the first k sheets the runner carries -/
def cark (y : Nat → Nat) (r : Nat) : Nat → Nat
  | 0 => 0
  | k + 1 => cark y r k + bp (y (58 + 6 * k + 4) = r)
def car (y : Nat → Nat) (r : Nat) : Nat := cark y r (y 4)
theorem cark_le (y : Nat → Nat) (r : Nat) : ∀ k, cark y r k ≤ k
  | 0 => Nat.le_refl _
  | k + 1 => by have := cark_le y r k; have := bp_le (P := y (58 + 6 * k + 4) = r); simp only [cark]; omega
/-- a runner of the first k, not 'but', is in the town -/
def rin (y : Nat → Nat) (t but : Nat) (k : Nat) : Prop := ∃ r, r < k ∧ ¬ r = but ∧ tof y r = t
theorem rin_0 {y : Nat → Nat} {t but : Nat} : ¬ rin y t but 0 := fun ⟨_, h, _⟩ => absurd h (Nat.not_lt_zero _)
theorem rin_s {y : Nat → Nat} {t but k : Nat} (h : ¬ rin y t but k) (hk : k = but ∨ ¬ tof y k = t) : ¬ rin y t but (k + 1) := by
  rintro ⟨r, h1, h2, h3⟩
  by_cases e : r = k
  · subst e
    rcases hk with hk | hk
    · exact h2 hk
    · exact hk h3
  · exact h ⟨r, by omega, h2, h3⟩
/-- the ink in n hours -/
def ink (y : Nat → Nat) (s n : Nat) : Nat := y (58 + 6 * s + 2) - n * y (58 + 6 * s + 3)
/-- what is read of a sheet now -/
def rof (y : Nat → Nat) (s : Nat) : Nat := rdw (y (58 + 6 * s + 1)) (y (58 + 6 * s + 2))
/-- its errors in n hours -/
def ers (y : Nat → Nat) (s n : Nat) : Nat := err (rdw (y (58 + 6 * s + 1)) (ink y s n)) (y (52 + y (58 + 6 * s)))
theorem ers_le (y : Nat → Nat) (s n : Nat) : ers y s n ≤ 6 := err_le _ _
def allk (y : Nat → Nat) : Nat → Nat
  | 0 => 0
  | k + 1 => allk y k + ers y k 0
theorem allk_le (y : Nat → Nat) : ∀ k, allk y k ≤ 6 * k
  | 0 => Nat.le_refl _
  | k + 1 => by have := allk_le y k; have := ers_le y k 0; simp only [allk]; omega
def blk (y : Nat → Nat) : Nat → Nat
  | 0 => 0
  | k + 1 => blk y k + bp (y (58 + 6 * k + 2) = 0)
theorem blk_le (y : Nat → Nat) : ∀ k, blk y k ≤ k
  | 0 => Nat.le_refl _
  | k + 1 => by have := blk_le y k; have := bp_le (P := y (58 + 6 * k + 2) = 0); simp only [blk]; omega
theorem toI64 {a : Nat} (ha : a < 2 ^ 31) : (nI a - nI 1).toInt64.toInt = (a : Int) - 1 := by
  by_cases h : a = 0
  · subst h; decide
  · rw [pk_sub (show 1 ≤ a by omega), Int32.toInt_toInt64, nI_toInt (by omega)]
    omega
theorem ix_of {t : Int32} {n : Nat} (h : ix t n) (hn : n < 2 ^ 31) : ∃ j, j < n ∧ t = nI j := by
  refine ⟨t.toInt.toNat, by have := h.1; have := h.2; omega, ?_⟩
  have h1 := h.1
  have h2 := h.2
  apply Int32.toInt_inj.mp
  rw [nI_toInt (by omega)]
  omega
theorem ix_nI {j n : Nat} (hj : j < 2 ^ 31) : ix (nI j) n ↔ j < n := by
  show 0 ≤ (nI j).toInt ∧ (nI j).toInt < n ↔ _
  rw [nI_toInt hj]
  omega
/-! what the actions do to the row -/
def y3 (y : Nat → Nat) (k a b c : Nat) : Nat → Nat := ys (ys (ys y k a) (k + 1) b) (k + 2) c
def twOn (y : Nat → Nat) : Nat → Nat := ys y 0 (y 0 + 1)
def rdOn (y : Nat → Nat) (a b c : Nat) : Nat → Nat := ys (y3 y (7 + 3 * y 1) a b c) 1 (y3 y (7 + 3 * y 1) a b c 1 + 1)
def ruOn (y : Nat → Nat) (t : Nat) : Nat → Nat := ys (y3 y (37 + 3 * y 2) t 0 0) 2 (y3 y (37 + 3 * y 2) t 0 0 2 + 1)
def s6 (y : Nat → Nat) (k m d f t : Nat) : Nat → Nat := ys (ys (ys (ys (ys (ys y k m) (k + 1) d) (k + 2) 99) (k + 3) f) (k + 4) NO) (k + 5) t
def shOn (y : Nat → Nat) (m d f t : Nat) : Nat → Nat := ys (s6 y (58 + 6 * y 4) m d f t) 4 (s6 y (58 + 6 * y 4) m d f t 4 + 1)
def wrP (y : Nat → Nat) (d : Nat) : Nat → Nat := ys (ys y (52 + y 3) d) 3 (ys y (52 + y 3) d 3 + 1)
def wrOn (y : Nat → Nat) (t d f : Nat) : Nat → Nat := shOn (wrP y d) (y 3) d f t
def tkOn (y : Nat → Nat) (r s : Nat) : Nat → Nat := ys y (58 + 6 * s + 4) r
def lyOn (y : Nat → Nat) (s : Nat) : Nat → Nat := ys (ys y (58 + 6 * s + 4) NO) (58 + 6 * s + 5) (pof y s)
def goT (y : Nat → Nat) (r w : Nat) : Nat := if y (7 + 3 * w) = tof y r then y (7 + 3 * w + 1) else y (7 + 3 * w)
def gOn (y : Nat → Nat) (r w : Nat) : Nat → Nat := ys (ys y (37 + 3 * r) (goT y r w)) (37 + 3 * r + 1) (y (7 + 3 * w + 2))
def rfOn (y : Nat → Nat) : Nat → Nat := ys y 6 (y 6 + 1)
def rinb (y : Nat → Nat) (t but : Nat) : Nat → Bool
  | 0 => false
  | k + 1 => rinb y t but k || (!decide (k = but) && decide (tof y k = t))
theorem rinb_iff {y : Nat → Nat} {t but : Nat} : ∀ {k : Nat}, rinb y t but k = true ↔ rin y t but k
  | 0 => ⟨fun h => by simp [rinb] at h, fun h => absurd h rin_0⟩
  | k + 1 => by
    simp only [rinb, Bool.or_eq_true, Bool.and_eq_true, Bool.not_eq_true', decide_eq_false_iff_not, decide_eq_true_eq, rinb_iff (k := k)]
    constructor
    · rintro (⟨r, h1, h2, h3⟩ | ⟨h1, h2⟩)
      · exact ⟨r, by omega, h2, h3⟩
      · exact ⟨k, by omega, h1, h2⟩
    · rintro ⟨r, h1, h2, h3⟩
      by_cases e : r = k
      · subst e; exact Or.inr ⟨h2, h3⟩
      · exact Or.inl ⟨r, by omega, h2, h3⟩
/-- why a sheet cannot be copied -/
def crs (y : Nat → Nat) (s : Nat) : Nat := if pof y s = NO then 1 else if y (58 + 6 * s + 2) = 0 then 2 else if rinb y (pof y s) (y (58 + 6 * s + 4)) (y 2) = false then 3 else if y 4 = 12 then 4 else 0
/-- why no proof can be made -/
def prs (y : Nat → Nat) (a b c : Nat) : Nat := if pof y a = NO ∨ ¬ pof y b = pof y a ∨ ¬ pof y c = pof y a then 1 else if y (58 + 6 * a + 2) = 0 ∨ y (58 + 6 * b + 2) = 0 ∨ y (58 + 6 * c + 2) = 0 then 2 else if rinb y (pof y a) NO (y 2) = false then 3 else if y 4 = 12 then 4 else 0
def cpOn (y : Nat → Nat) (s f : Nat) : Nat → Nat := if crs y s = 0 then shOn y (y (58 + 6 * s)) (rof y s) f (pof y s) else rfOn y
def prOn (y : Nat → Nat) (a b c f : Nat) : Nat → Nat := if prs y a b c = 0 then shOn y (y (58 + 6 * a)) (mj (rof y a) (rof y b) (rof y c)) f (pof y a) else rfOn y
def inkk (y : Nat → Nat) : Nat → (Nat → Nat)
  | 0 => y
  | k + 1 => ys (inkk y k) (58 + 6 * k + 2) (ink (inkk y k) k 1)
def walk0 (y : Nat → Nat) (r : Nat) : Nat → Nat := ys y (37 + 3 * r + 1) (y (37 + 3 * r + 1) - 1)
def walk1 (y : Nat → Nat) (r : Nat) : Nat → Nat := if y (37 + 3 * r + 1) = 0 then y else ys (walk0 y r) (37 + 3 * r + 2) (walk0 y r (37 + 3 * r + 2) + 1)
def walkk (y : Nat → Nat) : Nat → (Nat → Nat)
  | 0 => y
  | k + 1 => walk1 (walkk y k) k
def comek (y : Nat → Nat) : Nat → Nat
  | 0 => 0
  | k + 1 => comek y k + bp (y (37 + 3 * k + 1) = 1)
/-- an hour -/
def hrI (y : Nat → Nat) : Nat → Nat := inkk (ys y 5 (y 5 + 1)) (y 4)
def hr (y : Nat → Nat) : Nat → Nat := walkk (hrI y) (y 2)
def hrs (y : Nat → Nat) : Nat → (Nat → Nat)
  | 0 => y
  | k + 1 => hr (hrs y k)
def coms (y : Nat → Nat) : Nat → Nat
  | 0 => 0
  | k + 1 => coms y k + comek (hrs y k) (hrs y k 2)
/-- the heap with a row put in -/
def HR (h : AH) (a : Nat) (y : Nat → Nat) : AH := up h a (.inl (0, 130, .inl (fun j => nI (y j))))
theorem HR_row (h : AH) (a : Nat) (y : Nat → Nat) : Row a y (HR h a y) := up_s _ _ _
theorem HR_st (h : AH) (a k v : Nat) (y : Nat → Nat) : up h a (.inl (0, 130, .inl (upd (fun j => nI (y j)) k (nI v)))) = HR h a (ys y k v) := by rw [upd_ys]; rfl
theorem up_up (h : AH) (a : Nat) (x z : AE) : up (up h a x) a z = up h a z := by
  funext q
  unfold up
  split <;> rfl
theorem HR_HR (h : AH) (a : Nat) (y z : Nat → Nat) : HR (HR h a y) a z = HR h a z := up_up _ _ _ _
theorem HR_id {h : AH} {a : Nat} {y : Nat → Nat} (hx : Row a y h) : HR h a y = h := by
  funext q
  unfold HR up
  split
  · next e => rw [e]; exact hx.symm
  · rfl
theorem HR_n {h : AH} {a q : Nat} {y : Nat → Nat} (hq : q ≠ a) : HR h a y q = h q := up_n _ hq
def errk (r m k : Nat) : Nat := if r = NO then k else udk r m k
theorem errk_t {r m : Nat} (k : Nat) (h : r = NO ∨ ¬ dg r k = dg m k) : errk r m k + 1 = errk r m (k + 1) := by
  unfold errk
  split
  · rfl
  · next hr =>
    rcases h with h | h
    · exact absurd h hr
    · simp only [udk]; rw [bp_t h]
theorem errk_f {r m : Nat} (k : Nat) (h : ¬ r = NO) (h2 : dg r k = dg m k) : errk r m k + 0 = errk r m (k + 1) := by
  unfold errk
  rw [if_neg h, if_neg h]
  simp only [udk]; rw [bp_f (not_not_intro h2)]
/-- all these keep what holds -/
theorem rof_b {y : Nat → Nat} (hI : Iv y) {s : Nat} (hs : s < y 4) : rof y s < 2 ^ 32 := rdw_b _ _ (hI.2.2.2.2 s hs).2.1
theorem tof_b {y : Nat → Nat} (hI : Iv y) {r : Nat} (hr : r < y 2) : tof y r < y 0 ∨ tof y r = NO := by
  unfold tof
  split
  · exact Or.inl (hI.2.2.1 r hr).1
  · exact Or.inr rfl
theorem pof_b {y : Nat → Nat} (hI : Iv y) {s : Nat} (hs : s < y 4) : pof y s < y 0 ∨ pof y s = NO := by
  unfold pof
  have h := hI.2.2.2.2 s hs
  split
  · exact Or.inl h.2.2.2.2.2
  · next h4 => exact tof_b hI (h.2.2.2.2.1.resolve_left h4)
theorem NO_eq : NO = 4294967295 := rfl

