/-! A COUNTRY OF THE CLASS: 32 cells from q on, which hold the row y as far as it lives -/
def obj (q : Nat) (y : Nat → Nat) : AE := .inr (1, [.int (nI (y 0)), .int (nI (y 1)), .int (nI (y 2)), .int (nI (y 3)), .int (nI (y 4)), .int (nI (y 5)), .int (nI (y 6)), .ref (q + 1), .ref (q + 12), .ref (q + 18), .ref (q + 19)])
def c3 (ci a b c : Nat) : AE := .inr (ci, [.int (nI a), .int (nI b), .int (nI c)])
def c6 (m d k f w t : Nat) : AE := .inr (6, [.int (nI m), .int (nI d), .int (nI k), .int (nI f), .int (nI w), .int (nI t)])
def cty (q : Nat) (y : Nat → Nat) (h : AH) : Prop :=
  h q = some (obj q y) ∧
  (∃ f : Nat → Option Nat, h (q + 1) = some (.inl (5, 10, .inr (.inr (.inr (.inr f))))) ∧ ∀ i, i < 10 → f i = some (q + 2 + i)) ∧
  (∃ f : Nat → Option Nat, h (q + 12) = some (.inl (6, 5, .inr (.inr (.inr (.inr f))))) ∧ ∀ i, i < 5 → f i = some (q + 13 + i)) ∧
  (∃ f : Nat → Option Nat, h (q + 19) = some (.inl (7, 12, .inr (.inr (.inr (.inr f))))) ∧ ∀ i, i < 12 → f i = some (q + 20 + i)) ∧
  (∃ f : Nat → Int32, h (q + 18) = some (.inl (0, 6, .inl f)) ∧ ∀ i, i < y 3 → f i = nI (y (52 + i))) ∧
  (∀ i, i < 10 → ∃ a b c : Int32, h (q + 2 + i) = some (.inr (4, [.int a, .int b, .int c])) ∧ (i < y 1 → a = nI (y (7 + 3 * i)) ∧ b = nI (y (7 + 3 * i + 1)) ∧ c = nI (y (7 + 3 * i + 2)))) ∧
  (∀ i, i < 5 → ∃ a b c : Int32, h (q + 13 + i) = some (.inr (5, [.int a, .int b, .int c])) ∧ (i < y 2 → a = nI (y (37 + 3 * i)) ∧ b = nI (y (37 + 3 * i + 1)) ∧ c = nI (y (37 + 3 * i + 2)))) ∧
  (∀ i, i < 12 → ∃ a b c d e g : Int32, h (q + 20 + i) = some (.inr (6, [.int a, .int b, .int c, .int d, .int e, .int g])) ∧ (i < y 4 → a = nI (y (58 + 6 * i)) ∧ b = nI (y (58 + 6 * i + 1)) ∧ c = nI (y (58 + 6 * i + 2)) ∧ d = nI (y (58 + 6 * i + 3)) ∧ e = nI (y (58 + 6 * i + 4)) ∧ g = nI (y (58 + 6 * i + 5))))
/-- outside of a country nothing becomes different -/
def FR (q : Nat) (h h' : AH) : Prop := ∀ a, (a < q ∨ q + 32 ≤ a) → h' a = h a
theorem FR.rf {q : Nat} {h : AH} : FR q h h := fun _ _ => rfl
theorem FR.up {q a : Nat} {h h' : AH} (hF : FR q h h') (x : AE) (ha : q ≤ a ∧ a < q + 32) : FR q h (up h' a x) := fun b hb => by rw [up_n _ (by omega)]; exact hF b hb
theorem FR.tr {q : Nat} {h h' h2 : AH} (hF : FR q h h') (hG : FR q h' h2) : FR q h h2 := fun a ha => (hG a ha).trans (hF a ha)
theorem cty.fr {q : Nat} {y : Nat → Nat} {h h' : AH} (hC : cty q y h) (hF : ∀ a, q ≤ a → a < q + 32 → h' a = h a) : cty q y h' := by
  obtain ⟨hob, ⟨fR, hfR, hR⟩, ⟨fU, hfU, hU⟩, ⟨fS, hfS, hS⟩, ⟨fM, hfM, hM⟩, hRd, hRu, hSh⟩ := hC
  refine ⟨by rw [hF _ (by omega) (by omega)]; exact hob, ⟨fR, by rw [hF _ (by omega) (by omega)]; exact hfR, hR⟩, ⟨fU, by rw [hF _ (by omega) (by omega)]; exact hfU, hU⟩, ⟨fS, by rw [hF _ (by omega) (by omega)]; exact hfS, hS⟩, ⟨fM, by rw [hF _ (by omega) (by omega)]; exact hfM, hM⟩, fun i hi => ?_, fun i hi => ?_, fun i hi => ?_⟩
  · rw [hF _ (by omega) (by omega)]; exact hRd i hi
  · rw [hF _ (by omega) (by omega)]; exact hRu i hi
  · rw [hF _ (by omega) (by omega)]; exact hSh i hi
theorem cty_rd {q i : Nat} {y : Nat → Nat} {h : AH} (hC : cty q y h) (hi : i < y 1) (h1 : y 1 ≤ 10) : h (q + 2 + i) = some (c3 4 (y (7 + 3 * i)) (y (7 + 3 * i + 1)) (y (7 + 3 * i + 2))) := by
  obtain ⟨a, b, c, g, e⟩ := hC.2.2.2.2.2.1 i (by omega)
  obtain ⟨rfl, rfl, rfl⟩ := e hi
  exact g
theorem cty_ru {q i : Nat} {y : Nat → Nat} {h : AH} (hC : cty q y h) (hi : i < y 2) (h2 : y 2 ≤ 5) : h (q + 13 + i) = some (c3 5 (y (37 + 3 * i)) (y (37 + 3 * i + 1)) (y (37 + 3 * i + 2))) := by
  obtain ⟨a, b, c, g, e⟩ := hC.2.2.2.2.2.2.1 i (by omega)
  obtain ⟨rfl, rfl, rfl⟩ := e hi
  exact g
theorem cty_sh {q i : Nat} {y : Nat → Nat} {h : AH} (hC : cty q y h) (hi : i < y 4) (h4 : y 4 ≤ 12) : h (q + 20 + i) = some (c6 (y (58 + 6 * i)) (y (58 + 6 * i + 1)) (y (58 + 6 * i + 2)) (y (58 + 6 * i + 3)) (y (58 + 6 * i + 4)) (y (58 + 6 * i + 5))) := by
  obtain ⟨a, b, c, d, e, g, g1, g2⟩ := hC.2.2.2.2.2.2.2 i (by omega)
  obtain ⟨rfl, rfl, rfl, rfl, rfl, rfl⟩ := g2 hi
  exact g1
/-- numbers of the object itself -/
theorem cty_ob {q : Nat} {y y' : Nat → Nat} {h : AH} (hC : cty q y h) (h1 : y' 1 ≤ y 1) (h2 : y' 2 ≤ y 2) (h3 : y' 3 ≤ y 3) (h4 : y' 4 ≤ y 4) (he : ∀ j, 7 ≤ j → y' j = y j) : cty q y' (up h q (obj q y')) := by
  obtain ⟨hob, ⟨fR, hfR, hR⟩, ⟨fU, hfU, hU⟩, ⟨fS, hfS, hS⟩, ⟨fM, hfM, hM⟩, hRd, hRu, hSh⟩ := hC
  refine ⟨up_s _ _ _, ⟨fR, by rw [up_n _ (by omega)]; exact hfR, hR⟩, ⟨fU, by rw [up_n _ (by omega)]; exact hfU, hU⟩, ⟨fS, by rw [up_n _ (by omega)]; exact hfS, hS⟩, ⟨fM, by rw [up_n _ (by omega)]; exact hfM, fun i hi => by rw [he _ (by omega)]; exact hM i (by omega)⟩, fun i hi => ?_, fun i hi => ?_, fun i hi => ?_⟩
  · obtain ⟨a, b, c, g, e⟩ := hRd i hi
    exact ⟨a, b, c, by rw [up_n _ (by omega)]; exact g, fun z => by rw [he _ (by omega), he _ (by omega), he _ (by omega)]; exact e (by omega)⟩
  · obtain ⟨a, b, c, g, e⟩ := hRu i hi
    exact ⟨a, b, c, by rw [up_n _ (by omega)]; exact g, fun z => by rw [he _ (by omega), he _ (by omega), he _ (by omega)]; exact e (by omega)⟩
  · obtain ⟨a, b, c, d, e, g, g1, g2⟩ := hSh i hi
    exact ⟨a, b, c, d, e, g, by rw [up_n _ (by omega)]; exact g1, fun z => by rw [he _ (by omega), he _ (by omega), he _ (by omega), he _ (by omega), he _ (by omega), he _ (by omega)]; exact g2 (by omega)⟩
/-- a road's numbers -/
theorem cty_rdp {q i a b c : Nat} {y y' : Nat → Nat} {h : AH} (hC : cty q y h) (hi : i < 10) (h3 : y 3 ≤ 6) (hy : ∀ j, ¬ (7 + 3 * i ≤ j ∧ j ≤ 7 + 3 * i + 2) → y' j = y j) (ha : y' (7 + 3 * i) = a) (hb : y' (7 + 3 * i + 1) = b) (hc : y' (7 + 3 * i + 2) = c) : cty q y' (up h (q + 2 + i) (c3 4 a b c)) := by
  obtain ⟨hob, ⟨fR, hfR, hR⟩, ⟨fU, hfU, hU⟩, ⟨fS, hfS, hS⟩, ⟨fM, hfM, hM⟩, hRd, hRu, hSh⟩ := hC
  have eo : obj q y' = obj q y := by unfold obj; rw [hy 0 (by omega), hy 1 (by omega), hy 2 (by omega), hy 3 (by omega), hy 4 (by omega), hy 5 (by omega), hy 6 (by omega)]
  have e1 := hy 1 (by omega)
  have e2 := hy 2 (by omega)
  have e3 := hy 3 (by omega)
  have e4 := hy 4 (by omega)
  refine ⟨by rw [up_n _ (by omega), eo]; exact hob, ⟨fR, by rw [up_n _ (by omega)]; exact hfR, hR⟩, ⟨fU, by rw [up_n _ (by omega)]; exact hfU, hU⟩, ⟨fS, by rw [up_n _ (by omega)]; exact hfS, hS⟩, ⟨fM, by rw [up_n _ (by omega)]; exact hfM, fun k hk => by rw [hy _ (by omega)]; exact hM k (by omega)⟩, fun k hk => ?_, fun k hk => ?_, fun k hk => ?_⟩
  · by_cases ek : k = i
    · subst ek
      exact ⟨_, _, _, up_s _ _ _, fun _ => by rw [ha, hb, hc]; exact ⟨rfl, rfl, rfl⟩⟩
    · obtain ⟨u, v, w, g, e⟩ := hRd k hk
      exact ⟨u, v, w, by rw [up_n _ (by omega)]; exact g, fun z => by rw [hy _ (by omega), hy _ (by omega), hy _ (by omega)]; exact e (by omega)⟩
  · obtain ⟨u, v, w, g, e⟩ := hRu k hk
    exact ⟨u, v, w, by rw [up_n _ (by omega)]; exact g, fun z => by rw [hy _ (by omega), hy _ (by omega), hy _ (by omega)]; exact e (by omega)⟩
  · obtain ⟨u, v, w, d, e, g, g1, g2⟩ := hSh k hk
    exact ⟨u, v, w, d, e, g, by rw [up_n _ (by omega)]; exact g1, fun z => by rw [hy _ (by omega), hy _ (by omega), hy _ (by omega), hy _ (by omega), hy _ (by omega), hy _ (by omega)]; exact g2 (by omega)⟩
/-- a runner's numbers -/
theorem cty_rup {q i a b c : Nat} {y y' : Nat → Nat} {h : AH} (hC : cty q y h) (hi : i < 5) (h3 : y 3 ≤ 6) (hy : ∀ j, ¬ (37 + 3 * i ≤ j ∧ j ≤ 37 + 3 * i + 2) → y' j = y j) (ha : y' (37 + 3 * i) = a) (hb : y' (37 + 3 * i + 1) = b) (hc : y' (37 + 3 * i + 2) = c) : cty q y' (up h (q + 13 + i) (c3 5 a b c)) := by
  obtain ⟨hob, ⟨fR, hfR, hR⟩, ⟨fU, hfU, hU⟩, ⟨fS, hfS, hS⟩, ⟨fM, hfM, hM⟩, hRd, hRu, hSh⟩ := hC
  have eo : obj q y' = obj q y := by unfold obj; rw [hy 0 (by omega), hy 1 (by omega), hy 2 (by omega), hy 3 (by omega), hy 4 (by omega), hy 5 (by omega), hy 6 (by omega)]
  have e1 := hy 1 (by omega)
  have e2 := hy 2 (by omega)
  have e3 := hy 3 (by omega)
  have e4 := hy 4 (by omega)
  refine ⟨by rw [up_n _ (by omega), eo]; exact hob, ⟨fR, by rw [up_n _ (by omega)]; exact hfR, hR⟩, ⟨fU, by rw [up_n _ (by omega)]; exact hfU, hU⟩, ⟨fS, by rw [up_n _ (by omega)]; exact hfS, hS⟩, ⟨fM, by rw [up_n _ (by omega)]; exact hfM, fun k hk => by rw [hy _ (by omega)]; exact hM k (by omega)⟩, fun k hk => ?_, fun k hk => ?_, fun k hk => ?_⟩
  · obtain ⟨u, v, w, g, e⟩ := hRd k hk
    exact ⟨u, v, w, by rw [up_n _ (by omega)]; exact g, fun z => by rw [hy _ (by omega), hy _ (by omega), hy _ (by omega)]; exact e (by omega)⟩
  · by_cases ek : k = i
    · subst ek
      exact ⟨_, _, _, up_s _ _ _, fun _ => by rw [ha, hb, hc]; exact ⟨rfl, rfl, rfl⟩⟩
    · obtain ⟨u, v, w, g, e⟩ := hRu k hk
      exact ⟨u, v, w, by rw [up_n _ (by omega)]; exact g, fun z => by rw [hy _ (by omega), hy _ (by omega), hy _ (by omega)]; exact e (by omega)⟩
  · obtain ⟨u, v, w, d, e, g, g1, g2⟩ := hSh k hk
    exact ⟨u, v, w, d, e, g, by rw [up_n _ (by omega)]; exact g1, fun z => by rw [hy _ (by omega), hy _ (by omega), hy _ (by omega), hy _ (by omega), hy _ (by omega), hy _ (by omega)]; exact g2 (by omega)⟩
/-- a sheet's numbers -/
theorem cty_shp {q i a b c d e0 g0 : Nat} {y y' : Nat → Nat} {h : AH} (hC : cty q y h) (hi : i < 12) (h1 : y 1 ≤ 10) (h2 : y 2 ≤ 5) (h3 : y 3 ≤ 6) (hy : ∀ j, ¬ (58 + 6 * i ≤ j ∧ j ≤ 58 + 6 * i + 5) → y' j = y j) (ha : y' (58 + 6 * i) = a) (hb : y' (58 + 6 * i + 1) = b) (hc : y' (58 + 6 * i + 2) = c) (hd : y' (58 + 6 * i + 3) = d) (he : y' (58 + 6 * i + 4) = e0) (hg : y' (58 + 6 * i + 5) = g0) : cty q y' (up h (q + 20 + i) (c6 a b c d e0 g0)) := by
  obtain ⟨hob, ⟨fR, hfR, hR⟩, ⟨fU, hfU, hU⟩, ⟨fS, hfS, hS⟩, ⟨fM, hfM, hM⟩, hRd, hRu, hSh⟩ := hC
  have eo : obj q y' = obj q y := by unfold obj; rw [hy 0 (by omega), hy 1 (by omega), hy 2 (by omega), hy 3 (by omega), hy 4 (by omega), hy 5 (by omega), hy 6 (by omega)]
  have e1 := hy 1 (by omega)
  have e2 := hy 2 (by omega)
  have e3 := hy 3 (by omega)
  have e4 := hy 4 (by omega)
  refine ⟨by rw [up_n _ (by omega), eo]; exact hob, ⟨fR, by rw [up_n _ (by omega)]; exact hfR, hR⟩, ⟨fU, by rw [up_n _ (by omega)]; exact hfU, hU⟩, ⟨fS, by rw [up_n _ (by omega)]; exact hfS, hS⟩, ⟨fM, by rw [up_n _ (by omega)]; exact hfM, fun k hk => by rw [hy _ (by omega)]; exact hM k (by omega)⟩, fun k hk => ?_, fun k hk => ?_, fun k hk => ?_⟩
  · obtain ⟨u, v, w, g, e⟩ := hRd k hk
    exact ⟨u, v, w, by rw [up_n _ (by omega)]; exact g, fun z => by rw [hy _ (by omega), hy _ (by omega), hy _ (by omega)]; exact e (by omega)⟩
  · obtain ⟨u, v, w, g, e⟩ := hRu k hk
    exact ⟨u, v, w, by rw [up_n _ (by omega)]; exact g, fun z => by rw [hy _ (by omega), hy _ (by omega), hy _ (by omega)]; exact e (by omega)⟩
  · by_cases ek : k = i
    · subst ek
      exact ⟨_, _, _, _, _, _, up_s _ _ _, fun _ => by rw [ha, hb, hc, hd, he, hg]; exact ⟨rfl, rfl, rfl, rfl, rfl, rfl⟩⟩
    · obtain ⟨u, v, w, d1, e5, g, g1, g2⟩ := hSh k hk
      exact ⟨u, v, w, d1, e5, g, by rw [up_n _ (by omega)]; exact g1, fun z => by rw [hy _ (by omega), hy _ (by omega), hy _ (by omega), hy _ (by omega), hy _ (by omega), hy _ (by omega)]; exact g2 (by omega)⟩
/-- one more road, runner, sheet, message, whose numbers are there already -/
theorem cty_c1 {q : Nat} {y : Nat → Nat} {h : AH} (hC : cty q y h) (hr : h (q + 2 + y 1) = some (c3 4 (y (7 + 3 * y 1)) (y (7 + 3 * y 1 + 1)) (y (7 + 3 * y 1 + 2)))) : cty q (ys y 1 (y 1 + 1)) (up h q (obj q (ys y 1 (y 1 + 1)))) := by
  obtain ⟨hob, ⟨fR, hfR, hR⟩, ⟨fU, hfU, hU⟩, ⟨fS, hfS, hS⟩, ⟨fM, hfM, hM⟩, hRd, hRu, hSh⟩ := hC
  refine ⟨up_s _ _ _, ⟨fR, by rw [up_n _ (by omega)]; exact hfR, hR⟩, ⟨fU, by rw [up_n _ (by omega)]; exact hfU, hU⟩, ⟨fS, by rw [up_n _ (by omega)]; exact hfS, hS⟩, ⟨fM, by rw [up_n _ (by omega)]; exact hfM, fun k hk => by rw [ys_n _ (by omega)] at hk ⊢; exact hM k hk⟩, fun k hk => ?_, fun k hk => ?_, fun k hk => ?_⟩
  · by_cases ek : k = y 1
    · subst ek
      refine ⟨_, _, _, by rw [up_n _ (by omega)]; exact hr, fun _ => ?_⟩
      rw [ys_n _ (by omega), ys_n _ (by omega), ys_n _ (by omega)]
      exact ⟨rfl, rfl, rfl⟩
    · obtain ⟨u, v, w, g, e⟩ := hRd k hk
      exact ⟨u, v, w, by rw [up_n _ (by omega)]; exact g, fun z => by rw [ys_s] at z; rw [ys_n _ (by omega), ys_n _ (by omega), ys_n _ (by omega)]; exact e (by omega)⟩
  · obtain ⟨u, v, w, g, e⟩ := hRu k hk
    exact ⟨u, v, w, by rw [up_n _ (by omega)]; exact g, fun z => by rw [ys_n _ (by omega)] at z; rw [ys_n _ (by omega), ys_n _ (by omega), ys_n _ (by omega)]; exact e z⟩
  · obtain ⟨u, v, w, d, e, g, g1, g2⟩ := hSh k hk
    exact ⟨u, v, w, d, e, g, by rw [up_n _ (by omega)]; exact g1, fun z => by rw [ys_n _ (by omega)] at z; rw [ys_n _ (by omega), ys_n _ (by omega), ys_n _ (by omega), ys_n _ (by omega), ys_n _ (by omega), ys_n _ (by omega)]; exact g2 z⟩
theorem cty_c2 {q : Nat} {y : Nat → Nat} {h : AH} (hC : cty q y h) (hr : h (q + 13 + y 2) = some (c3 5 (y (37 + 3 * y 2)) (y (37 + 3 * y 2 + 1)) (y (37 + 3 * y 2 + 2)))) : cty q (ys y 2 (y 2 + 1)) (up h q (obj q (ys y 2 (y 2 + 1)))) := by
  obtain ⟨hob, ⟨fR, hfR, hR⟩, ⟨fU, hfU, hU⟩, ⟨fS, hfS, hS⟩, ⟨fM, hfM, hM⟩, hRd, hRu, hSh⟩ := hC
  refine ⟨up_s _ _ _, ⟨fR, by rw [up_n _ (by omega)]; exact hfR, hR⟩, ⟨fU, by rw [up_n _ (by omega)]; exact hfU, hU⟩, ⟨fS, by rw [up_n _ (by omega)]; exact hfS, hS⟩, ⟨fM, by rw [up_n _ (by omega)]; exact hfM, fun k hk => by rw [ys_n _ (by omega)] at hk ⊢; exact hM k hk⟩, fun k hk => ?_, fun k hk => ?_, fun k hk => ?_⟩
  · obtain ⟨u, v, w, g, e⟩ := hRd k hk
    exact ⟨u, v, w, by rw [up_n _ (by omega)]; exact g, fun z => by rw [ys_n _ (by omega)] at z; rw [ys_n _ (by omega), ys_n _ (by omega), ys_n _ (by omega)]; exact e z⟩
  · by_cases ek : k = y 2
    · subst ek
      refine ⟨_, _, _, by rw [up_n _ (by omega)]; exact hr, fun _ => ?_⟩
      rw [ys_n _ (by omega), ys_n _ (by omega), ys_n _ (by omega)]
      exact ⟨rfl, rfl, rfl⟩
    · obtain ⟨u, v, w, g, e⟩ := hRu k hk
      exact ⟨u, v, w, by rw [up_n _ (by omega)]; exact g, fun z => by rw [ys_s] at z; rw [ys_n _ (by omega), ys_n _ (by omega), ys_n _ (by omega)]; exact e (by omega)⟩
  · obtain ⟨u, v, w, d, e, g, g1, g2⟩ := hSh k hk
    exact ⟨u, v, w, d, e, g, by rw [up_n _ (by omega)]; exact g1, fun z => by rw [ys_n _ (by omega)] at z; rw [ys_n _ (by omega), ys_n _ (by omega), ys_n _ (by omega), ys_n _ (by omega), ys_n _ (by omega), ys_n _ (by omega)]; exact g2 z⟩
theorem cty_c3 {q : Nat} {y : Nat → Nat} {h : AH} {f : Nat → Int32} (hC : cty q y h) (hf : h (q + 18) = some (.inl (0, 6, .inl f))) (hk3 : f (y 3) = nI (y (52 + y 3))) : cty q (ys y 3 (y 3 + 1)) (up h q (obj q (ys y 3 (y 3 + 1)))) := by
  obtain ⟨hob, ⟨fR, hfR, hR⟩, ⟨fU, hfU, hU⟩, ⟨fS, hfS, hS⟩, ⟨fM, hfM, hM⟩, hRd, hRu, hSh⟩ := hC
  rw [hf] at hfM
  cases hfM
  refine ⟨up_s _ _ _, ⟨fR, by rw [up_n _ (by omega)]; exact hfR, hR⟩, ⟨fU, by rw [up_n _ (by omega)]; exact hfU, hU⟩, ⟨fS, by rw [up_n _ (by omega)]; exact hfS, hS⟩, ⟨f, by rw [up_n _ (by omega)]; exact hf, fun k hk => ?_⟩, fun k hk => ?_, fun k hk => ?_, fun k hk => ?_⟩
  · rw [ys_s] at hk
    rw [ys_n _ (by omega)]
    by_cases ek : k = y 3
    · rw [ek]; exact hk3
    · exact hM k (by omega)
  · obtain ⟨u, v, w, g, e⟩ := hRd k hk
    exact ⟨u, v, w, by rw [up_n _ (by omega)]; exact g, fun z => by rw [ys_n _ (by omega)] at z; rw [ys_n _ (by omega), ys_n _ (by omega), ys_n _ (by omega)]; exact e z⟩
  · obtain ⟨u, v, w, g, e⟩ := hRu k hk
    exact ⟨u, v, w, by rw [up_n _ (by omega)]; exact g, fun z => by rw [ys_n _ (by omega)] at z; rw [ys_n _ (by omega), ys_n _ (by omega), ys_n _ (by omega)]; exact e z⟩
  · obtain ⟨u, v, w, d, e, g, g1, g2⟩ := hSh k hk
    exact ⟨u, v, w, d, e, g, by rw [up_n _ (by omega)]; exact g1, fun z => by rw [ys_n _ (by omega)] at z; rw [ys_n _ (by omega), ys_n _ (by omega), ys_n _ (by omega), ys_n _ (by omega), ys_n _ (by omega), ys_n _ (by omega)]; exact g2 z⟩
theorem cty_c4 {q : Nat} {y : Nat → Nat} {h : AH} (hC : cty q y h) (hr : h (q + 20 + y 4) = some (c6 (y (58 + 6 * y 4)) (y (58 + 6 * y 4 + 1)) (y (58 + 6 * y 4 + 2)) (y (58 + 6 * y 4 + 3)) (y (58 + 6 * y 4 + 4)) (y (58 + 6 * y 4 + 5)))) : cty q (ys y 4 (y 4 + 1)) (up h q (obj q (ys y 4 (y 4 + 1)))) := by
  obtain ⟨hob, ⟨fR, hfR, hR⟩, ⟨fU, hfU, hU⟩, ⟨fS, hfS, hS⟩, ⟨fM, hfM, hM⟩, hRd, hRu, hSh⟩ := hC
  refine ⟨up_s _ _ _, ⟨fR, by rw [up_n _ (by omega)]; exact hfR, hR⟩, ⟨fU, by rw [up_n _ (by omega)]; exact hfU, hU⟩, ⟨fS, by rw [up_n _ (by omega)]; exact hfS, hS⟩, ⟨fM, by rw [up_n _ (by omega)]; exact hfM, fun k hk => by rw [ys_n _ (by omega)] at hk ⊢; exact hM k hk⟩, fun k hk => ?_, fun k hk => ?_, fun k hk => ?_⟩
  · obtain ⟨u, v, w, g, e⟩ := hRd k hk
    exact ⟨u, v, w, by rw [up_n _ (by omega)]; exact g, fun z => by rw [ys_n _ (by omega)] at z; rw [ys_n _ (by omega), ys_n _ (by omega), ys_n _ (by omega)]; exact e z⟩
  · obtain ⟨u, v, w, g, e⟩ := hRu k hk
    exact ⟨u, v, w, by rw [up_n _ (by omega)]; exact g, fun z => by rw [ys_n _ (by omega)] at z; rw [ys_n _ (by omega), ys_n _ (by omega), ys_n _ (by omega)]; exact e z⟩
  · by_cases ek : k = y 4
    · subst ek
      refine ⟨_, _, _, _, _, _, by rw [up_n _ (by omega)]; exact hr, fun _ => ?_⟩
      rw [ys_n _ (by omega), ys_n _ (by omega), ys_n _ (by omega), ys_n _ (by omega), ys_n _ (by omega), ys_n _ (by omega)]
      exact ⟨rfl, rfl, rfl, rfl, rfl, rfl⟩
    · obtain ⟨u, v, w, d, e, g, g1, g2⟩ := hSh k hk
      exact ⟨u, v, w, d, e, g, by rw [up_n _ (by omega)]; exact g1, fun z => by rw [ys_s] at z; rw [ys_n _ (by omega), ys_n _ (by omega), ys_n _ (by omega), ys_n _ (by omega), ys_n _ (by omega), ys_n _ (by omega)]; exact g2 (by omega)⟩

