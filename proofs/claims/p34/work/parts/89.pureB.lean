/-! WAYS: back as there, no longer by a third town, the next road leads on -/
theorem Wk_cons {y : Nat → Nat} {i : Nat} {d : Bool} (hi : i < y 1) : ∀ (n t L : Nat), Wn y (rdb y i d) n t L → Wk y (rda y i d) t (L + rdw' y i)
  | 0, t, L, h => by
    obtain ⟨rfl, rfl⟩ := h
    exact Wk.s i d 0 hi Wk.z
  | n + 1, t, L, h => by
    obtain ⟨j, e, L0, hj, hw, rfl, rfl⟩ := h
    have h2 := Wk.s j e _ hj (Wk_cons hi n _ _ hw)
    rw [show L0 + rdw' y j + rdw' y i = L0 + rdw' y i + rdw' y j by omega]
    exact h2
theorem Wk_rev {y : Nat → Nat} {a : Nat} : ∀ (n t L : Nat), Wn y a n t L → Wk y t a L
  | 0, t, L, h => by
    obtain ⟨rfl, rfl⟩ := h
    exact Wk.z
  | n + 1, t, L, h => by
    obtain ⟨j, e, L0, hj, hw, rfl, rfl⟩ := h
    obtain ⟨n2, h2⟩ := Wk_rev n _ _ hw
    have e1 : rdb y j (!e) = rda y j e := by cases e <;> rfl
    have e2 : rda y j (!e) = rdb y j e := by cases e <;> rfl
    rw [← e1] at h2
    have h3 := Wk_cons hj n2 _ _ h2
    rw [e2] at h3
    exact h3
theorem Wk.sy {y : Nat → Nat} {a t L : Nat} (h : Wk y a t L) : Wk y t a L := by
  obtain ⟨n, hn⟩ := h
  exact Wk_rev n t L hn
theorem Wk_app {y : Nat → Nat} {a c L1 : Nat} (h : Wk y a c L1) : ∀ (n t L : Nat), Wn y c n t L → Wk y a t (L1 + L)
  | 0, t, L, g => by
    obtain ⟨rfl, rfl⟩ := g
    exact h
  | n + 1, t, L, g => by
    obtain ⟨j, e, L0, hj, hw, rfl, rfl⟩ := g
    rw [← Nat.add_assoc]
    exact Wk.s j e _ hj (Wk_app h n _ _ hw)
theorem dst_sy (y : Nat → Nat) (a t : Nat) : dst y a t = dst y t a := by
  rcases dst_sp y a t with ⟨h1, h2⟩ | ⟨h1, h2, h3⟩ <;> rcases dst_sp y t a with ⟨g1, g2⟩ | ⟨g1, g2, g3⟩
  · rw [h1, g1]
  · have := h2 _ g2.sy; omega
  · have := g2 _ h2.sy; omega
  · have := h3 _ g2.sy
    have := g3 _ h2.sy
    omega
theorem dst_tri {y : Nat → Nat} {a b c : Nat} (h1 : ¬ dst y a c = FAR) (h2 : ¬ dst y c b = FAR) (hs : dst y a c + dst y c b < FAR) : ¬ dst y a b = FAR ∧ dst y a b ≤ dst y a c + dst y c b := by
  rcases dst_sp y a c with ⟨g1, -⟩ | ⟨-, g2, -⟩
  · exact absurd g1 h1
  · rcases dst_sp y c b with ⟨k1, -⟩ | ⟨-, ⟨n, k2⟩, -⟩
    · exact absurd k1 h2
    · have hw := Wk_app g2 n _ _ k2
      rcases dst_sp y a b with ⟨q1, q2⟩ | ⟨q1, -, q3⟩
      · have := q2 _ hw; omega
      · have := q3 _ hw
        exact ⟨by omega, this⟩
theorem dst_z {y : Nat → Nat} (hI : Iv y) {a t : Nat} : dst y a t = 0 ↔ a = t := by
  constructor
  · intro h
    rcases dst_sp y a t with ⟨g1, -⟩ | ⟨-, ⟨n, g2⟩, -⟩
    · rw [h] at g1; exact absurd g1 (by decide)
    · rw [h] at g2
      match n, g2 with
      | 0, g2 => exact g2.1.symm
      | n + 1, ⟨j, e, L0, hj, hw, e1, e2⟩ =>
        have := (Rds_Iv hI).w j hj
        omega
  · rintro rfl
    exact (Sol_dst y a).z
def onw (y : Nat → Nat) (a : Nat) (D : Nat → Nat) (q : Nat) : Prop := (y (7 + 3 * q) = a ∧ y (7 + 3 * q + 2) + D (y (7 + 3 * q + 1)) = D a) ∨ (y (7 + 3 * q + 1) = a ∧ y (7 + 3 * q + 2) + D (y (7 + 3 * q)) = D a)
theorem lr_at {y : Nat → Nat} {a : Nat} {D : Nat → Nat} : ∀ j i, (lr y a D i j = NO ∧ ∀ q, i ≤ q → q < i + j → ¬ onw y a D q) ∨ (lr y a D i j < i + j ∧ onw y a D (lr y a D i j))
  | 0, i => Or.inl ⟨rfl, fun q h1 h2 => absurd h2 (by omega)⟩
  | j + 1, i => by
    simp only [lr]
    by_cases h : (y (7 + 3 * i) = a ∧ y (7 + 3 * i + 2) + D (y (7 + 3 * i + 1)) = D a) ∨ (y (7 + 3 * i + 1) = a ∧ y (7 + 3 * i + 2) + D (y (7 + 3 * i)) = D a)
    · rw [if_pos h]
      exact Or.inr ⟨by omega, h⟩
    · rw [if_neg h]
      rcases lr_at (y := y) (a := a) (D := D) j (i + 1) with ⟨g1, g2⟩ | ⟨g1, g2⟩
      · refine Or.inl ⟨g1, fun q h1 h2 => ?_⟩
        by_cases e : q = i
        · rw [e]; exact h
        · exact g2 q (by omega) (by omega)
      · exact Or.inr ⟨by omega, g2⟩
/-- where the next road leads -/
def nto (y : Nat → Nat) (a r : Nat) : Nat := if y (7 + 3 * r) = a then y (7 + 3 * r + 1) else y (7 + 3 * r)
theorem rto_at {y : Nat → Nat} (hI : Iv y) (a b : Nat) : (rto y a b = NO ∧ (a = b ∨ dst y a b = FAR)) ∨ (¬ a = b ∧ dst y a b < FAR ∧ rto y a b < y 1 ∧ (y (7 + 3 * rto y a b) = a ∨ y (7 + 3 * rto y a b + 1) = a) ∧ dst y (nto y a (rto y a b)) b + y (7 + 3 * rto y a b + 2) = dst y a b) := by
  have hle := dst_le y b a
  by_cases hc : a = b ∨ dst y b a = FAR
  · refine Or.inl ⟨rto_1 hc, ?_⟩
    rw [dst_sy y a b]; exact hc
  · rw [rto_2 hc]
    have hne : ¬ a = b := fun e => hc (Or.inl e)
    have hlt : dst y b a < FAR := by
      have : ¬ dst y b a = FAR := fun e => hc (Or.inr e)
      omega
    rcases lr_at (y := y) (a := a) (D := dst y b) (y 1) 0 with ⟨g1, g2⟩ | ⟨g1, g2⟩
    · exfalso
      obtain ⟨i, d, hi, e1, e2⟩ := (Sol_dst y b).ti a hne hlt
      refine g2 i (Nat.zero_le _) (by omega) ?_
      cases d with
      | false => exact Or.inr ⟨e1, by have e2 : dst y b a = dst y b (y (7 + 3 * i)) + y (7 + 3 * i + 2) := e2; omega⟩
      | true => exact Or.inl ⟨e1, by have e2 : dst y b a = dst y b (y (7 + 3 * i + 1)) + y (7 + 3 * i + 2) := e2; omega⟩
    · generalize lr y a (dst y b) 0 (y 1) = r at g1 g2 ⊢
      have g1 : r < y 1 := by omega
      have hRd := hI.2.1 r g1
      refine Or.inr ⟨hne, by rw [dst_sy]; exact hlt, g1, g2.elim (fun e => Or.inl e.1) (fun e => Or.inr e.1), ?_⟩
      rw [dst_sy y a b, dst_sy y _ b]
      unfold nto
      rcases g2 with ⟨e1, e2⟩ | ⟨e1, e2⟩
      · rw [if_pos e1]; omega
      · rw [if_neg (by omega)]; omega
theorem mo_lt {v : Nat} (h : v ≤ 100) : mo v = v := mo_n (by have := FAR_eq; omega)
/-- a way told: none, or so many hours -/
theorem mo_dst {y : Nat → Nat} (hI : Iv y) {a t : Nat} (ht : t < 6) : (dst y a t = FAR ∧ mo (dst y a t) = NO) ∨ (dst y a t ≤ 100 ∧ mo (dst y a t) = dst y a t) := by
  rcases dst_100 hI (a := a) ht with h | h
  · exact Or.inl ⟨h, mo_y h⟩
  · exact Or.inr ⟨h, mo_lt h⟩
