/-! WHAT ALWAYS HOLDS IN THE LAW'S COUNTRIES -/
def EV (B : Nat) (y : Nat → Nat) : Prop := Iv y ∧ (y 3 ≤ y 4 ∧ ∀ m, m < y 3 → ∃ s, s < y 4 ∧ y (58 + 6 * s) = m) ∧ (∀ r, r < y 2 → car y r ≤ 3) ∧ (∀ r, r < y 2 → y (37 + 3 * r + 2) ≤ y 5) ∧ y 5 ≤ B ∧ y 6 ≤ B
def MN (y y' : Nat → Nat) : Prop := y 0 ≤ y' 0 ∧ y 2 ≤ y' 2 ∧ y 4 ≤ y' 4
theorem MN.rf {y : Nat → Nat} : MN y y := ⟨Nat.le_refl _, Nat.le_refl _, Nat.le_refl _⟩
theorem MN.tr {y y' y2 : Nat → Nat} (a : MN y y') (b : MN y' y2) : MN y y2 := ⟨Nat.le_trans a.1 b.1, Nat.le_trans a.2.1 b.2.1, Nat.le_trans a.2.2 b.2.2⟩
theorem MN_e {y y' : Nat → Nat} (h : ∀ j, j = 0 ∨ j = 2 ∨ j = 4 → y' j = y j) : MN y y' := ⟨Nat.le_of_eq (h 0 (by omega)).symm, Nat.le_of_eq (h 2 (by omega)).symm, Nat.le_of_eq (h 4 (by omega)).symm⟩
theorem EV.up {B B' : Nat} {y : Nat → Nat} (h : EV B y) (hB : B ≤ B') : EV B' y := ⟨h.1, h.2.1, h.2.2.1, h.2.2.2.1, Nat.le_trans h.2.2.2.2.1 hB, Nat.le_trans h.2.2.2.2.2 hB⟩
theorem cark_c {y y' : Nat → Nat} {r : Nat} : ∀ {k : Nat}, (∀ s, s < k → y' (58 + 6 * s + 4) = y (58 + 6 * s + 4)) → cark y' r k = cark y r k
  | 0, _ => rfl
  | k + 1, h => by
    simp only [cark]
    rw [cark_c (fun s hs => h s (by omega)), h k (by omega)]
theorem cark_le' {y y' : Nat → Nat} {r : Nat} : ∀ {k : Nat}, (∀ s, s < k → y' (58 + 6 * s + 4) = r → y (58 + 6 * s + 4) = r) → cark y' r k ≤ cark y r k
  | 0, _ => Nat.le_refl _
  | k + 1, h => by
    simp only [cark]
    have h1 := cark_le' (k := k) (fun s hs => h s (by omega))
    have h2 := bp_mo (P := y' (58 + 6 * k + 4) = r) (P' := y (58 + 6 * k + 4) = r) (h k (by omega))
    omega
theorem cark_0' {y : Nat → Nat} {r : Nat} : ∀ {k : Nat}, (∀ s, s < k → ¬ y (58 + 6 * s + 4) = r) → cark y r k = 0
  | 0, _ => rfl
  | k + 1, h => by
    simp only [cark]
    rw [cark_0' (fun s hs => h s (by omega)), bp_f (h k (by omega))]
theorem cark_1 {y y' : Nat → Nat} {r s : Nat} (hn : ∀ j, ¬ j = s → y' (58 + 6 * j + 4) = y (58 + 6 * j + 4)) : ∀ {k : Nat}, cark y' r k ≤ cark y r k + 1
  | 0 => Nat.zero_le _
  | k + 1 => by
    simp only [cark]
    by_cases e : k = s
    · have h1 : cark y' r k = cark y r k := cark_c (fun j hj => hn j (by omega))
      have := bp_le (P := y' (58 + 6 * k + 4) = r)
      omega
    · have h1 := cark_1 (r := r) hn (k := k)
      rw [hn k e]
      omega
theorem EV_same {B B' : Nat} {y y' : Nat → Nat} (h : EV B y) (hI : Iv y') (e2 : y' 2 = y 2) (e3 : y' 3 = y 3) (e4 : y' 4 = y 4) (e5 : y' 5 = y 5) (hm : ∀ s, s < y 4 → y' (58 + 6 * s) = y (58 + 6 * s)) (hc : ∀ s, s < y 4 → y' (58 + 6 * s + 4) = y (58 + 6 * s + 4)) (hw : ∀ r, r < y 2 → y' (37 + 3 * r + 2) = y (37 + 3 * r + 2)) (hB : B ≤ B') (h6 : y' 6 ≤ B') : EV B' y' := by
  obtain ⟨-, ⟨g1, g2⟩, g3, g4, g5, -⟩ := h
  refine ⟨hI, ⟨by rw [e3, e4]; exact g1, fun m hm2 => ?_⟩, fun r hr => ?_, fun r hr => ?_, by omega, h6⟩
  · rw [e3] at hm2
    obtain ⟨s, hs, hs2⟩ := g2 m hm2
    exact ⟨s, by rw [e4]; exact hs, by rw [hm s hs]; exact hs2⟩
  · rw [e2] at hr
    unfold car
    rw [e4, cark_c hc]
    exact g3 r hr
  · rw [e2] at hr
    rw [hw r hr, e5]
    exact g4 r hr
theorem EV_tw {B : Nat} {y : Nat → Nat} (h : EV B y) (hI : Iv (twOn y)) : EV B (twOn y) := by
  have e : ∀ j, ¬ j = 0 → twOn y j = y j := fun j hj => ys_n _ hj
  exact EV_same h hI (e _ (by omega)) (e _ (by omega)) (e _ (by omega)) (e _ (by omega)) (fun s _ => e _ (by omega)) (fun s _ => e _ (by omega)) (fun s _ => e _ (by omega)) (Nat.le_refl _) (by rw [e 6 (by omega)]; exact h.2.2.2.2.2)
theorem EV_rd {B : Nat} {y : Nat → Nat} {a b c : Nat} (h : EV B y) (h1 : y 1 < 10) (hI : Iv (rdOn y a b c)) : EV B (rdOn y a b c) := by
  have e : ∀ j, ¬ j = 1 → (j < 7 ∨ 36 < j) → rdOn y a b c j = y j := fun j g1 g2 => rdOn_n g1 (by omega)
  exact EV_same h hI (e _ (by omega) (by omega)) (e _ (by omega) (by omega)) (e _ (by omega) (by omega)) (e _ (by omega) (by omega)) (fun s _ => e _ (by omega) (by omega)) (fun s _ => e _ (by omega) (by omega)) (fun s _ => e _ (by omega) (by omega)) (Nat.le_refl _) (by rw [e 6 (by omega) (by omega)]; exact h.2.2.2.2.2)
theorem EV_go {B : Nat} {y : Nat → Nat} {r w : Nat} (h : EV B y) (hr : r < 5) (hI : Iv (gOn y r w)) : EV B (gOn y r w) := by
  have e : ∀ j, ¬ j = 37 + 3 * r → ¬ j = 37 + 3 * r + 1 → gOn y r w j = y j := fun j g1 g2 => by unfold gOn; rw [ys_n _ g2, ys_n _ g1]
  exact EV_same h hI (e _ (by omega) (by omega)) (e _ (by omega) (by omega)) (e _ (by omega) (by omega)) (e _ (by omega) (by omega)) (fun s _ => e _ (by omega) (by omega)) (fun s _ => e _ (by omega) (by omega)) (fun s _ => e _ (by omega) (by omega)) (Nat.le_refl _) (by rw [e 6 (by omega) (by omega)]; exact h.2.2.2.2.2)
theorem EV_rf {B : Nat} {y : Nat → Nat} (h : EV B y) (hI : Iv (rfOn y)) : EV (B + 1) (rfOn y) := by
  have e : ∀ j, ¬ j = 6 → rfOn y j = y j := fun j hj => ys_n _ hj
  exact EV_same h hI (e _ (by omega)) (e _ (by omega)) (e _ (by omega)) (e _ (by omega)) (fun s _ => e _ (by omega)) (fun s _ => e _ (by omega)) (fun s _ => e _ (by omega)) (by omega) (by rw [show rfOn y 6 = y 6 + 1 from ys_s _ _ _]; have := h.2.2.2.2.2; omega)
theorem EV_ru {B : Nat} {y : Nat → Nat} {t : Nat} (h : EV B y) (h2 : y 2 < 5) (hI : Iv (ruOn y t)) : EV B (ruOn y t) := by
  have e : ∀ j, ¬ j = 2 → (j < 37 + 3 * y 2 ∨ 37 + 3 * y 2 + 2 < j) → ruOn y t j = y j := fun j g1 g2 => ruOn_n g1 g2
  obtain ⟨hIy, ⟨g1, g2⟩, g3, g4, g5, g6⟩ := h
  have hS := hIy.2.2.2.2
  have hw : ruOn y t (37 + 3 * y 2 + 2) = 0 := by unfold ruOn; rw [ys_n _ (by omega), y3_2]
  have e3 := e 3 (by omega) (by omega)
  have e4 := e 4 (by omega) (by omega)
  have e5 := e 5 (by omega) (by omega)
  have ec : ∀ s, s < y 4 → ruOn y t (58 + 6 * s + 4) = y (58 + 6 * s + 4) := fun s _ => e _ (by omega) (by omega)
  refine ⟨hI, ⟨by rw [e3, e4]; exact g1, fun m hm => ?_⟩, fun r hr => ?_, fun r hr => ?_, by rw [e5]; exact g5, by rw [e 6 (by omega) (by omega)]; exact g6⟩
  · rw [e3] at hm
    obtain ⟨s, hs, hs2⟩ := g2 m hm
    exact ⟨s, by rw [e4]; exact hs, by rw [e _ (by omega) (by omega)]; exact hs2⟩
  · rw [ruOn_2] at hr
    unfold car
    rw [e4, cark_c ec]
    by_cases er : r = y 2
    · rw [cark_0' (fun s hs => by have := (hS s hs).2.2.2.2.1; have := NO_eq; omega)]
      omega
    · exact g3 r (by omega)
  · rw [ruOn_2] at hr
    rw [e5]
    by_cases er : r = y 2
    · rw [er, hw]; omega
    · rw [e _ (by omega) (by omega)]
      exact g4 r (by omega)
theorem EV_sh {B : Nat} {y : Nat → Nat} {m d f t : Nat} (h : EV B y) (h4 : y 4 < 12) (hI : Iv (shOn y m d f t)) : EV B (shOn y m d f t) := by
  have e : ∀ j, ¬ j = 4 → (j < 58 + 6 * y 4 ∨ 58 + 6 * y 4 + 5 < j) → shOn y m d f t j = y j := fun j g1 g2 => shOn_n g1 g2
  obtain ⟨hIy, ⟨g1, g2⟩, g3, g4, g5, g6⟩ := h
  have i2 := hIy.1
  obtain ⟨a1, a2, a3, a4, a5, a6⟩ := shOn_at y m d f t
  have e2 := e 2 (by omega) (by omega)
  have e3 := e 3 (by omega) (by omega)
  have e4 := shOn_4 y m d f t
  have e5 := e 5 (by omega) (by omega)
  refine ⟨hI, ⟨by rw [e3, e4]; omega, fun m hm => ?_⟩, fun r hr => ?_, fun r hr => ?_, by rw [e5]; exact g5, by rw [e 6 (by omega) (by omega)]; exact g6⟩
  · rw [e3] at hm
    obtain ⟨s, hs, hs2⟩ := g2 m hm
    exact ⟨s, by rw [e4]; omega, by rw [e _ (by omega) (by omega)]; exact hs2⟩
  · rw [e2] at hr
    unfold car
    rw [e4]
    simp only [cark]
    rw [a5, cark_c (fun s hs => e _ (by omega) (by omega)), bp_f (by have := NO_eq; omega)]
    exact g3 r hr
  · rw [e2] at hr
    rw [e5, e _ (by omega) (by omega)]
    exact g4 r hr
theorem EV_wr {B : Nat} {y : Nat → Nat} {t d f : Nat} (h : EV B y) (h3 : y 3 < 6) (h4 : y 4 < 12) (hI : Iv (wrOn y t d f)) : EV B (wrOn y t d f) := by
  have eP : ∀ j, ¬ j = 3 → ¬ j = 52 + y 3 → wrP y d j = y j := fun j g1 g2 => wrP_n g1 g2
  have e : ∀ j, ¬ j = 3 → ¬ j = 52 + y 3 → ¬ j = 4 → (j < 58 + 6 * y 4 ∨ 58 + 6 * y 4 + 5 < j) → wrOn y t d f j = y j := fun j g1 g2 g3 g4 => by unfold wrOn; rw [shOn_n g3 (by rw [eP 4 (by omega) (by omega)]; exact g4), eP j g1 g2]
  obtain ⟨hIy, ⟨g1, g2⟩, g3, g4, g5, g6⟩ := h
  have i2 := hIy.1
  have e2 := e 2 (by omega) (by omega) (by omega) (by omega)
  have e3 : wrOn y t d f 3 = y 3 + 1 := by unfold wrOn; rw [shOn_n (by omega) (by rw [eP 4 (by omega) (by omega)]; omega), wrP_3]
  have e4 : wrOn y t d f 4 = y 4 + 1 := by unfold wrOn; rw [shOn_4, eP 4 (by omega) (by omega)]
  have e5 := e 5 (by omega) (by omega) (by omega) (by omega)
  obtain ⟨a1, a2, a3, a4, a5, a6⟩ := shOn_at (wrP y d) (y 3) d f t
  rw [eP 4 (by omega) (by omega)] at a1 a5
  have a1 : wrOn y t d f (58 + 6 * y 4) = y 3 := a1
  have a5 : wrOn y t d f (58 + 6 * y 4 + 4) = NO := a5
  refine ⟨hI, ⟨by rw [e3, e4]; omega, fun m hm => ?_⟩, fun r hr => ?_, fun r hr => ?_, by rw [e5]; exact g5, by rw [e 6 (by omega) (by omega) (by omega) (by omega)]; exact g6⟩
  · rw [e3] at hm
    by_cases em : m = y 3
    · exact ⟨y 4, by rw [e4]; omega, by rw [a1, em]⟩
    · obtain ⟨s, hs, hs2⟩ := g2 m (by omega)
      exact ⟨s, by rw [e4]; omega, by rw [e _ (by omega) (by omega) (by omega) (by omega)]; exact hs2⟩
  · rw [e2] at hr
    unfold car
    rw [e4]
    simp only [cark]
    rw [a5, cark_c (fun s hs => e _ (by omega) (by omega) (by omega) (by omega)), bp_f (by have := NO_eq; omega)]
    exact g3 r hr
  · rw [e2] at hr
    rw [e5, e _ (by omega) (by omega) (by omega) (by omega)]
    exact g4 r hr
theorem EV_tk {B : Nat} {y : Nat → Nat} {r s : Nat} (h : EV B y) (hc : car y r < 3) (hI : Iv (tkOn y r s)) : EV B (tkOn y r s) := by
  have e : ∀ j, ¬ j = 58 + 6 * s + 4 → tkOn y r s j = y j := fun j hj => ys_n _ hj
  have es : tkOn y r s (58 + 6 * s + 4) = r := ys_s _ _ _
  obtain ⟨hIy, ⟨g1, g2⟩, g3, g4, g5, g6⟩ := h
  have e2 := e 2 (by omega)
  have e3 := e 3 (by omega)
  have e4 := e 4 (by omega)
  have e5 := e 5 (by omega)
  refine ⟨hI, ⟨by rw [e3, e4]; exact g1, fun m hm => ?_⟩, fun q hq => ?_, fun q hq => ?_, by rw [e5]; exact g5, by rw [e 6 (by omega)]; exact g6⟩
  · rw [e3] at hm
    obtain ⟨i, hs, hs2⟩ := g2 m hm
    exact ⟨i, by rw [e4]; exact hs, by rw [e _ (by omega)]; exact hs2⟩
  · rw [e2] at hq
    unfold car
    rw [e4]
    by_cases eq : q = r
    · subst eq
      have := cark_1 (y := y) (y' := tkOn y q s) (r := q) (s := s) (fun j hj => e _ (by omega)) (k := y 4)
      unfold car at hc
      omega
    · have := cark_le' (y := y) (y' := tkOn y r s) (r := q) (k := y 4) (fun j hj g => by
        by_cases ej : j = s
        · rw [ej, es] at g; exact absurd g.symm eq
        · rw [e _ (by omega)] at g; exact g)
      have := g3 q hq
      unfold car at this
      omega
  · rw [e2] at hq
    rw [e5, e _ (by omega)]
    exact g4 q hq
theorem EV_ly {B : Nat} {y : Nat → Nat} {s : Nat} (h : EV B y) (hI : Iv (lyOn y s)) : EV B (lyOn y s) := by
  have e : ∀ j, ¬ j = 58 + 6 * s + 4 → ¬ j = 58 + 6 * s + 5 → lyOn y s j = y j := fun j g1 g2 => by unfold lyOn; rw [ys_n _ g2, ys_n _ g1]
  have es : lyOn y s (58 + 6 * s + 4) = NO := by unfold lyOn; rw [ys_n _ (by omega), ys_s]
  obtain ⟨hIy, ⟨g1, g2⟩, g3, g4, g5, g6⟩ := h
  have i2 := hIy.1
  have e2 := e 2 (by omega) (by omega)
  have e3 := e 3 (by omega) (by omega)
  have e4 := e 4 (by omega) (by omega)
  have e5 := e 5 (by omega) (by omega)
  refine ⟨hI, ⟨by rw [e3, e4]; exact g1, fun m hm => ?_⟩, fun q hq => ?_, fun q hq => ?_, by rw [e5]; exact g5, by rw [e 6 (by omega) (by omega)]; exact g6⟩
  · rw [e3] at hm
    obtain ⟨i, hs, hs2⟩ := g2 m hm
    exact ⟨i, by rw [e4]; exact hs, by rw [e _ (by omega) (by omega)]; exact hs2⟩
  · rw [e2] at hq
    unfold car
    rw [e4]
    have := cark_le' (y := y) (y' := lyOn y s) (r := q) (k := y 4) (fun j hj g => by
      by_cases ej : j = s
      · rw [ej, es] at g; have := NO_eq; omega
      · rw [e _ (by omega) (by omega)] at g; exact g)
    have := g3 q hq
    unfold car at this
    omega
  · rw [e2] at hq
    rw [e5, e _ (by omega) (by omega)]
    exact g4 q hq
theorem walk1_2 (y : Nat → Nat) (r : Nat) : walk1 y r (37 + 3 * r + 2) ≤ y (37 + 3 * r + 2) + 1 := by
  unfold walk1 walk0
  split
  · omega
  · rw [ys_s, ys_n _ (by omega)]; omega
theorem walkk_2 {Z : Nat → Nat} {i : Nat} : ∀ {k : Nat}, walkk Z k (37 + 3 * i + 2) ≤ Z (37 + 3 * i + 2) + 1
  | 0 => by simp only [walkk]; omega
  | k + 1 => by
    simp only [walkk]
    by_cases e : i = k
    · subst e
      have := walk1_2 (walkk Z i) i
      rw [walkk_n (Z := Z) (k := i) (j := 37 + 3 * i + 2) (fun q hq => by omega)] at this
      exact this
    · rw [walk1_n (by omega) (by omega)]
      exact walkk_2
theorem hr_5 {y : Nat → Nat} : hr y 5 = y 5 + 1 := by
  unfold hr
  rw [walkk_n (fun q hq => by omega)]
  unfold hrI
  rw [inkk_n (fun q hq => by omega), ys_s]
theorem hr_w {y : Nat → Nat} (r : Nat) (h2 : y 2 ≤ 5) (hr' : r < y 2) : hr y (37 + 3 * r + 2) ≤ y (37 + 3 * r + 2) + 1 := by
  have h := walkk_2 (Z := hrI y) (i := r) (k := y 2)
  rw [hrI_n (j := 37 + 3 * r + 2) (by omega) (fun q hq => by omega)] at h
  exact h
theorem EV_hr {B : Nat} {y : Nat → Nat} (h : EV B y) : EV (B + 1) (hr y) := by
  have hI := Iv_hr h.1
  obtain ⟨hIy, ⟨g1, g2⟩, g3, g4, g5, g6⟩ := h
  obtain ⟨⟨i0, i1, i2, i3, i4⟩, -⟩ := id hIy
  have e : ∀ j, j < 37 → ¬ j = 5 → hr y j = y j := fun j a b => hr_n b (fun q hq => by omega) (fun q hq => by omega)
  have e2 := e 2 (by omega) (by omega)
  have e3 := e 3 (by omega) (by omega)
  have e4 := e 4 (by omega) (by omega)
  have e5 := hr_5 (y := y)
  refine ⟨hI, ⟨by rw [e3, e4]; exact g1, fun m hm => ?_⟩, fun q hq => ?_, fun q hq => ?_, by rw [e5]; omega, by rw [e 6 (by omega) (by omega)]; omega⟩
  · rw [e3] at hm
    obtain ⟨i, hs, hs2⟩ := g2 m hm
    exact ⟨i, by rw [e4]; exact hs, by rw [hr_n (by omega) (fun q hq => by omega) (fun q hq => by omega)]; exact hs2⟩
  · rw [e2] at hq
    unfold car
    rw [e4, cark_c (fun s hs => hr_n (by omega) (fun q hq => by omega) (fun q hq => by omega))]
    exact g3 q hq
  · rw [e2] at hq
    have := hr_w q i2 hq
    have := g4 q hq
    rw [e5]
    omega
theorem MN_hr {y : Nat → Nat} (hI : Iv y) : MN y (hr y) := by
  have e : ∀ j, j < 37 → ¬ j = 5 → hr y j = y j := fun j a b => hr_n b (fun q hq => by omega) (fun q hq => by have := hI.1; omega)
  exact ⟨Nat.le_of_eq (e 0 (by omega) (by omega)).symm, Nat.le_of_eq (e 2 (by omega) (by omega)).symm, Nat.le_of_eq (e 4 (by omega) (by omega)).symm⟩
theorem EV_hrs {B : Nat} {y : Nat → Nat} (h : EV B y) : ∀ k, EV (B + k) (hrs y k) ∧ MN y (hrs y k) ∧ hrs y k 5 = y 5 + k
  | 0 => ⟨h, MN.rf, rfl⟩
  | k + 1 => by
    obtain ⟨a, b, c⟩ := EV_hrs h k
    refine ⟨EV_hr a, b.tr (MN_hr a.1), ?_⟩
    show hr (hrs y k) 5 = _
    rw [hr_5, c]; omega
/-! the actions -/
theorem EA_tw {B : Nat} {y : Nat → Nat} (h : EV B y) : EV B (aTw y).2 ∧ MN y (aTw y).2 := by
  have hI := Iv_aTw h.1
  unfold aTw at hI ⊢
  split
  · next c =>
    rw [if_pos c] at hI
    have e : ∀ j, ¬ j = 0 → twOn y j = y j := fun j hj => ys_n _ hj
    exact ⟨EV_tw h hI, (by show y 0 ≤ twOn y 0; unfold twOn; rw [ys_s]; omega), Nat.le_of_eq (e 2 (by omega)).symm, Nat.le_of_eq (e 4 (by omega)).symm⟩
  · exact ⟨h, MN.rf⟩
theorem EA_rd {B : Nat} {y : Nat → Nat} (h : EV B y) (a b w : Int32) : EV B (aRd y a b w).2 ∧ MN y (aRd y a b w).2 := by
  have hI := Iv_aRd h.1 a b w
  unfold aRd at hI ⊢
  split
  · next c =>
    rw [if_pos c] at hI
    split
    · exact ⟨h, MN.rf⟩
    · next c2 =>
      rw [if_neg c2] at hI
      split
      · next c3 =>
        rw [if_pos c3] at hI
        exact ⟨EV_rd h c3 hI, MN_e (y' := rdOn y (z a) (z b) (z w)) (fun j hj => rdOn_n (by omega) (by omega))⟩
      · exact ⟨h, MN.rf⟩
  · exact ⟨h, MN.rf⟩
theorem EA_ru {B : Nat} {y : Nat → Nat} (h : EV B y) (t : Int32) : EV B (aRu y t).2 ∧ MN y (aRu y t).2 := by
  have hI := Iv_aRu h.1 t
  unfold aRu at hI ⊢
  split
  · next c =>
    rw [if_pos c] at hI
    split
    · next c2 =>
      rw [if_pos c2] at hI
      refine ⟨EV_ru h c2 hI, Nat.le_of_eq (ruOn_n (by omega) (by omega)).symm, ?_, Nat.le_of_eq (ruOn_n (by omega) (by omega)).symm⟩
      show y 2 ≤ ruOn y (z t) 2
      rw [ruOn_2]; omega
    · exact ⟨h, MN.rf⟩
  · exact ⟨h, MN.rf⟩
theorem EA_wr {B : Nat} {y : Nat → Nat} (h : EV B y) (t d f : Int32) : EV B (aWr y t d f).2 ∧ MN y (aWr y t d f).2 := by
  have hI := Iv_aWr h.1 t d f
  unfold aWr at hI ⊢
  split
  · next c =>
    rw [if_pos c] at hI
    split
    · next c2 =>
      rw [if_pos c2] at hI
      split
      · next c3 =>
        rw [if_pos c3] at hI
        have eP : ∀ j, ¬ j = 3 → ¬ j = 52 + y 3 → wrP y (z d) j = y j := fun j g1 g2 => wrP_n g1 g2
        refine ⟨EV_wr h c3.1 c3.2 hI, ?_, ?_, ?_⟩
        · show y 0 ≤ shOn (wrP y (z d)) (y 3) (z d) (z f) (z t) 0
          rw [shOn_n (by omega) (by rw [eP 4 (by omega) (by omega)]; omega), eP _ (by omega) (by omega)]; exact Nat.le_refl _
        · show y 2 ≤ shOn (wrP y (z d)) (y 3) (z d) (z f) (z t) 2
          rw [shOn_n (by omega) (by rw [eP 4 (by omega) (by omega)]; omega), eP _ (by omega) (by omega)]; exact Nat.le_refl _
        · show y 4 ≤ shOn (wrP y (z d)) (y 3) (z d) (z f) (z t) 4
          rw [shOn_4, eP _ (by omega) (by omega)]; omega
      · exact ⟨h, MN.rf⟩
    · exact ⟨h, MN.rf⟩
  · exact ⟨h, MN.rf⟩
theorem EA_tk {B : Nat} {y : Nat → Nat} (h : EV B y) (r s : Int32) : EV B (aTk y r s).2 ∧ MN y (aTk y r s).2 := by
  have hI := Iv_aTk h.1 r s
  unfold aTk at hI ⊢
  split
  · next c =>
    rw [if_pos c] at hI
    split
    · next c2 =>
      rw [if_pos c2] at hI
      exact ⟨EV_tk h c2.2.2.2 hI, MN_e (y' := tkOn y (z r) (z s)) (fun j hj => ys_n _ (by omega))⟩
    · exact ⟨h, MN.rf⟩
  · exact ⟨h, MN.rf⟩
theorem EA_ly {B : Nat} {y : Nat → Nat} (h : EV B y) (s : Int32) : EV B (aLy y s).2 ∧ MN y (aLy y s).2 := by
  have hI := Iv_aLy h.1 s
  unfold aLy at hI ⊢
  split
  · next c =>
    rw [if_pos c] at hI
    split
    · next c2 =>
      rw [if_pos c2] at hI
      have e : ∀ j, j < 58 → y j ≤ lyOn y (z s) j := fun j hj => Nat.le_of_eq (by unfold lyOn; rw [ys_n _ (by omega), ys_n _ (by omega)])
      exact ⟨EV_ly h hI, e 0 (by omega), e 2 (by omega), e 4 (by omega)⟩
    · exact ⟨h, MN.rf⟩
  · exact ⟨h, MN.rf⟩
theorem EA_go {B : Nat} {y : Nat → Nat} (h : EV B y) (r w : Int32) : EV B (aGo y r w).2 ∧ MN y (aGo y r w).2 := by
  have hI := Iv_aGo h.1 r w
  unfold aGo at hI ⊢
  split
  · next c =>
    rw [if_pos c] at hI
    split
    · next c2 =>
      rw [if_pos c2] at hI
      have e : ∀ j, j < 37 → y j ≤ gOn y (z r) (z w) j := fun j hj => Nat.le_of_eq (by unfold gOn; rw [ys_n _ (by omega), ys_n _ (by omega)])
      exact ⟨EV_go h (by have := z_ix c.1; have := h.1.1; omega) hI, e 0 (by omega), e 2 (by omega), e 4 (by omega)⟩
    · exact ⟨h, MN.rf⟩
  · exact ⟨h, MN.rf⟩
theorem EA_sh {B : Nat} {y : Nat → Nat} {m d f t : Nat} (h : EV B y) (h4 : y 4 < 12) (hI : Iv (shOn y m d f t)) : EV B (shOn y m d f t) ∧ MN y (shOn y m d f t) := by
  refine ⟨EV_sh h h4 hI, Nat.le_of_eq (shOn_n (by omega) (by omega)).symm, Nat.le_of_eq (shOn_n (by omega) (by omega)).symm, ?_⟩
  rw [shOn_4]; omega
theorem EA_rf {B : Nat} {y : Nat → Nat} (h : EV B y) : EV (B + 1) (rfOn y) ∧ MN y (rfOn y) := ⟨EV_rf h (Iv_6 h.1 _), Nat.le_of_eq (ys_n _ (by omega)).symm, Nat.le_of_eq (ys_n _ (by omega)).symm, Nat.le_of_eq (ys_n _ (by omega)).symm⟩
theorem EA_cnt {B : Nat} {y : Nat → Nat} {A : Ar} (h : EV B A.2 ∧ MN y A.2) : EV (B + 1) (cnt A) ∧ MN y (cnt A) := by
  unfold cnt
  split
  · exact ⟨h.1.up (by omega), h.2⟩
  · exact ⟨(EA_rf h.1).1, h.2.tr (EA_rf h.1).2⟩
theorem EA_cp {B : Nat} {y : Nat → Nat} (h : EV B y) (s f : Int32) : EV (B + 1) (cnt (aCp y s f)) ∧ MN y (cnt (aCp y s f)) := by
  refine EA_cnt ?_
  have hI := Iv_aCp h.1 s f
  unfold aCp at hI ⊢
  split
  · next c =>
    rw [if_pos c] at hI
    split
    · next c2 =>
      rw [if_pos c2] at hI
      have hI : Iv (cpC y (z s) (z f)) := hI
      show EV B (cpC y (z s) (z f)) ∧ MN y (cpC y (z s) (z f))
      unfold cpC at hI ⊢
      split
      · next c3 =>
        rw [if_pos c3] at hI
        have := (crs_0 c3).2.2
        have := h.1.1
        exact EA_sh h (by omega) hI
      · exact ⟨h, MN.rf⟩
    · exact ⟨h, MN.rf⟩
  · exact ⟨h, MN.rf⟩
theorem EA_pr {B : Nat} {y : Nat → Nat} (h : EV B y) (a b c f : Int32) : EV (B + 1) (cnt (aPr y a b c f)) ∧ MN y (cnt (aPr y a b c f)) := by
  refine EA_cnt ?_
  have hI := Iv_aPr h.1 a b c f
  unfold aPr at hI ⊢
  split
  · next g =>
    rw [if_pos g] at hI
    split
    · next c2 =>
      rw [if_pos c2] at hI
      have hI : Iv (prC y (z a) (z b) (z c) (z f)) := hI
      show EV B (prC y (z a) (z b) (z c) (z f)) ∧ MN y (prC y (z a) (z b) (z c) (z f))
      unfold prC at hI ⊢
      split
      · next c3 =>
        rw [if_pos c3] at hI
        have := (prs_0 c3).2.2
        have := h.1.1
        exact EA_sh h (by omega) hI
      · exact ⟨h, MN.rf⟩
    · exact ⟨h, MN.rf⟩
  · exact ⟨h, MN.rf⟩
theorem EA_hr {B : Nat} {y : Nat → Nat} (h : EV B y) (k : Int32) : EV (B + 60) (aHr y k).2 ∧ MN y (aHr y k).2 := by
  unfold aHr
  split
  · next c =>
    have hz : z k ≤ 60 := by unfold z; omega
    exact ⟨(EV_hrs h (z k)).1.up (by omega), (EV_hrs h (z k)).2.1⟩
  · exact ⟨h.up (by omega), MN.rf⟩
/-! the whole state -/
def JV (B : Nat) (y : Nat → Nat) : Prop := EV B y ∧ 3 ≤ y 0 ∧ 1 ≤ y 2 ∧ 1 ≤ y 4
theorem JV.up {B B' : Nat} {y : Nat → Nat} (h : JV B y) (hB : B ≤ B') : JV B' y := ⟨h.1.up hB, h.2⟩
theorem JV.mn {B B' : Nat} {y y' : Nat → Nat} (h : JV B y) (g : EV B' y' ∧ MN y y') : JV B' y' := ⟨g.1, Nat.le_trans h.2.1 g.2.1, Nat.le_trans h.2.2.1 g.2.2.1, Nat.le_trans h.2.2.2 g.2.2.2⟩
/-- the state that came behind the i-th remembered one -/
def nxt (y : Nat → Nat) (k : Nat) (D : Nat → Nat → Nat) (i : Nat) : Nat → Nat := if i + 1 = k then y else D (i + 1)
def JS (B : Nat) (σ : St) : Prop := JV B σ.1 ∧ σ.2.1 ≤ 14 ∧ (∀ i, i < σ.2.1 → Iv (σ.2.2.1 i)) ∧ (∀ i, i < σ.2.1 → 1 ≤ nxt σ.1 σ.2.1 σ.2.2.1 i 5 → JV B (σ.2.2.1 i)) ∧ ∀ i, i < 2 → σ.2.2.2.2 i = true → JV B (σ.2.2.2.1 i)
theorem JS.up {B B' : Nat} {σ : St} (h : JS B σ) (hB : B ≤ B') : JS B' σ := ⟨h.1.up hB, h.2.1, h.2.2.1, fun i hi g => (h.2.2.2.1 i hi g).up hB, fun i hi g => (h.2.2.2.2 i hi g).up hB⟩
theorem JS.si {B : Nat} {σ : St} (h : JS B σ) : SIs σ := ⟨h.1.1.1, h.2.1, h.2.2.1, fun i hi g => (h.2.2.2.2 i hi g).1.1, Nat.zero_le _, fun i hi => absurd hi (Nat.not_lt_zero i)⟩
def psh (σ : St) (y' : Nat → Nat) : St := (y', psC σ.2.1, psD σ.2.1 σ.2.2.1 σ.1, σ.2.2.2.1, σ.2.2.2.2)
def pop (σ : St) : St := (σ.2.2.1 (σ.2.1 - 1), σ.2.1 - 1, σ.2.2.1, σ.2.2.2.1, σ.2.2.2.2)
theorem JS_psh {B B' : Nat} {σ : St} {y' : Nat → Nat} (h : JS B σ) (hB : B ≤ B') (hJ : JV B' y') : JS B' (psh σ y') := by
  obtain ⟨hy, hk, hI, hc, hS⟩ := h
  obtain ⟨y, k, D, S, sv⟩ := σ
  have hk : k ≤ 14 := hk
  refine ⟨hJ, ?_, ?_, ?_, fun i hi g => (hS i hi g).up hB⟩
  · show psC k ≤ 14
    unfold psC; split <;> omega
  · show ∀ i, i < psC k → Iv (psD k D y i)
    intro i hi
    unfold psC at hi
    unfold psD
    by_cases e14 : k = 14
    · rw [if_pos e14] at hi ⊢
      by_cases e13 : i = 13
      · rw [if_pos e13]; exact hy.1.1
      · rw [if_neg e13]; exact hI (i + 1) (show i + 1 < k by omega)
    · rw [if_neg e14] at hi ⊢
      by_cases ek : i = k
      · rw [if_pos ek]; exact hy.1.1
      · rw [if_neg ek]; exact hI i (show i < k by omega)
  · show ∀ i, i < psC k → 1 ≤ nxt y' (psC k) (psD k D y) i 5 → JV B' (psD k D y i)
    intro i hi
    unfold psC at hi ⊢
    unfold nxt psD
    by_cases e14 : k = 14
    · rw [if_pos e14] at hi ⊢
      rw [if_pos e14, if_pos e14]
      by_cases e13 : i = 13
      · rw [if_pos e13]; exact fun _ => hy.up hB
      · rw [if_neg e13, if_neg (show ¬ i + 1 = 14 by omega)]
        have h2 := hc (i + 1) (show i + 1 < k by omega)
        unfold nxt at h2
        have h2 : 1 ≤ (if i + 1 + 1 = k then y else D (i + 1 + 1)) 5 → JV B (D (i + 1)) := h2
        intro g
        refine (h2 ?_).up hB
        by_cases e12 : i + 1 = 13
        · rw [if_pos e12] at g
          rw [if_pos (by omega)]; exact g
        · rw [if_neg e12] at g
          rw [if_neg (by omega)]; exact g
    · rw [if_neg e14] at hi ⊢
      rw [if_neg e14, if_neg e14]
      by_cases ek : i = k
      · rw [if_pos ek]; exact fun _ => hy.up hB
      · rw [if_neg ek, if_neg (show ¬ i + 1 = k + 1 by omega)]
        have h2 := hc i (show i < k by omega)
        unfold nxt at h2
        intro g
        exact (h2 g).up hB
theorem JS_pop {B : Nat} {σ : St} (h : JS B σ) (hk : 0 < σ.2.1) (h5 : 1 ≤ σ.1 5) : JS B (pop σ) := by
  obtain ⟨hy, hk14, hI, hc, hS⟩ := h
  obtain ⟨y, k, D, S, sv⟩ := σ
  have hk : 0 < k := hk
  have hk14 : k ≤ 14 := hk14
  refine ⟨?_, (show k - 1 ≤ 14 by omega), fun i hi => hI i (show i < k by have hi : i < k - 1 := hi; omega), ?_, hS⟩
  · have h2 := hc (k - 1) (show k - 1 < k by omega)
    unfold nxt at h2
    have h2 : 1 ≤ (if k - 1 + 1 = k then y else D (k - 1 + 1)) 5 → JV B (D (k - 1)) := h2
    rw [if_pos (by omega)] at h2
    exact h2 h5
  · show ∀ i, i < k - 1 → 1 ≤ nxt (D (k - 1)) (k - 1) D i 5 → JV B (D i)
    intro i hi g
    have h2 := hc i (show i < k by omega)
    have h2 : 1 ≤ nxt y k D i 5 → JV B (D i) := h2
    refine h2 ?_
    unfold nxt at g ⊢
    rw [if_neg (by omega)]
    by_cases e : i + 1 = k - 1
    · rw [if_pos e] at g; rw [e]; exact g
    · rw [if_neg e] at g; exact g
/-- the j-th remembered state, from the last one on -/
def tp (σ : St) (j : Nat) : Nat → Nat := σ.2.2.1 (σ.2.1 - 1 - j)
theorem tp_0 (σ : St) (y' : Nat → Nat) (hk : σ.2.1 ≤ 14) : tp (psh σ y') 0 = σ.1 := by
  obtain ⟨y, k, D, S, sv⟩ := σ
  have hk : k ≤ 14 := hk
  show psD k D y (psC k - 1 - 0) = y
  unfold psC psD
  by_cases e : k = 14
  · rw [if_pos e, if_pos e, if_pos (by omega)]
  · rw [if_neg e, if_neg e, if_pos (by omega)]
theorem tp_s (σ : St) (y' : Nat → Nat) {j : Nat} (hk : σ.2.1 ≤ 14) (hj : j < σ.2.1) (hj2 : j < 13) : tp (psh σ y') (j + 1) = tp σ j := by
  obtain ⟨y, k, D, S, sv⟩ := σ
  have hk : k ≤ 14 := hk
  have hj : j < k := hj
  show psD k D y (psC k - 1 - (j + 1)) = D (k - 1 - j)
  unfold psC psD
  by_cases e : k = 14
  · rw [if_pos e, if_pos e, if_neg (by omega)]
    congr 1
    omega
  · rw [if_neg e, if_neg e, if_neg (by omega)]
    congr 1
    omega
theorem tp_p (σ : St) (j : Nat) : tp (pop σ) j = tp σ (j + 1) := by
  exact congrArg σ.2.2.1 (show σ.2.1 - 1 - 1 - j = σ.2.1 - 1 - (j + 1) by omega)
theorem pop_1 (σ : St) : (pop σ).1 = tp σ 0 := rfl
theorem psC_k {k : Nat} (hk : k ≤ 14) : psC k ≤ 14 ∧ 1 ≤ psC k ∧ (k < 14 → psC k = k + 1) ∧ k ≤ psC k := by
  unfold psC
  split <;> omega
