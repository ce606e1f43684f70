/-! WHAT THE LAW'S CALLS ANSWER: numbers told, calls refused -/
theorem rv_0 {kk : Nat} {ans : Int32} {cs : List Int32} (h : kk = 0) : rv kk ans cs = ans := if_pos h
theorem rv_n {kk : Nat} {ans v : Int32} {cs : List Int32} (j : Nat) (h : kk = j + 1) (hv : cs.getD j 0 = v) : rv kk ans cs = v := by
  unfold rv
  rw [if_neg (by omega), h, Nat.add_sub_cancel, hv]
theorem v_ab {y : Nat → Nat} {j w : Nat} (hj : j < 10) (hq : qAbout y j = w) : rv (if ix (nI j) 10 then 0 else 1) (nI (qAbout y (z (nI j)))) [eA] = nI w := by
  rw [if_pos ((ix_nI (by omega)).mpr hj), zn (by omega), hq]; rfl
theorem v_way {y : Nat → Nat} {i j w : Nat} (hi : i < y 1) (hI : Iv y) (hj : j < 3) (hq : y (7 + 3 * i + j) = w) : rv (if ix (nI i) (y 1) then (if ix (nI j) 3 then 0 else 2) else 1) (nI (y (7 + 3 * z (nI i) + z (nI j)))) [eI, eA] = nI w := by
  have := hI.1
  rw [if_pos ((ix_nI (by omega)).mpr hi), if_pos ((ix_nI (by omega)).mpr hj), zn (by omega), zn (by omega), hq]; rfl
theorem v_car {y : Nat → Nat} {i j w : Nat} (hi : i < y 2) (hI : Iv y) (hj : j < 4) (hq : qRunner y i j = w) : rv (if ix (nI i) (y 2) then (if ix (nI j) 4 then 0 else 2) else 1) (nI (qRunner y (z (nI i)) (z (nI j)))) [eI, eA] = nI w := by
  have := hI.1
  rw [if_pos ((ix_nI (by omega)).mpr hi), if_pos ((ix_nI (by omega)).mpr hj), zn (by omega), zn (by omega), hq]; rfl
theorem v_sh {y : Nat → Nat} {i j w : Nat} (hi : i < y 4) (hI : Iv y) (hj : j < 8) (hq : qSheet y i j = w) : rv (if ix (nI i) (y 4) then (if ix (nI j) 8 then 0 else 2) else 1) (nI (qSheet y (z (nI i)) (z (nI j)))) [eI, eA] = nI w := by
  have := hI.1
  rw [if_pos ((ix_nI (by omega)).mpr hi), if_pos ((ix_nI (by omega)).mpr hj), zn (by omega), zn (by omega), hq]; rfl
theorem v_told {y : Nat → Nat} {i : Nat} (hi : i < y 3) (hI : Iv y) : rv (if ix (nI i) (y 3) then 0 else 1) (nI (y (52 + z (nI i)))) [eI] = nI (y (52 + i)) := by
  have := hI.1
  rw [if_pos ((ix_nI (by omega)).mpr hi), zn (by omega)]; rfl
theorem v_why {y : Nat → Nat} {i : Nat} (hi : i < y 4) (hI : Iv y) : rv (if ix (nI i) (y 4) then 0 else 1) (nI (crs y (z (nI i)))) [eI] = nI (crs y i) := by
  have := hI.1
  rw [if_pos ((ix_nI (by omega)).mpr hi), zn (by omega)]; rfl
theorem v_later {y : Nat → Nat} {i j : Nat} (hi : i < y 4) (hI : Iv y) (hj : j < 201) : rv (if ix (nI i) (y 4) then (if ix (nI j) 201 then 0 else 2) else 1) (nI (ers y (z (nI i)) (z (nI j)))) [eI, eA] = nI (ers y i j) := by
  have := hI.1
  rw [if_pos ((ix_nI (by omega)).mpr hi), if_pos ((ix_nI (by omega)).mpr hj), zn (by omega), zn (by omega)]; rfl
theorem v_right {y : Nat → Nat} {i : Nat} (hi : i < y 4) (hI : Iv y) : rv (if ix (nI i) (y 4) then 0 else 1) (nI (rgt y (z (nI i)) 200 1)) [eI] = nI (rgt y i 200 1) := by
  have := hI.1
  rw [if_pos ((ix_nI (by omega)).mpr hi), zn (by omega)]; rfl
theorem v_route {y : Nat → Nat} {a b w : Nat} (ha : a < y 0) (hb : b < y 0) (hI : Iv y) (hw : w < 2) : rv (if ix (nI a) (y 0) ∧ ix (nI b) (y 0) then (if ix (nI w) 2 then 0 else 2) else 1) (nI (mo (dst y (z (nI a)) (z (nI b))))) [eI, eA] = nI (mo (dst y a b)) := by
  have := hI.1
  rw [if_pos ⟨(ix_nI (by omega)).mpr ha, (ix_nI (by omega)).mpr hb⟩, if_pos ((ix_nI (by omega)).mpr hw), zn (by omega), zn (by omega)]; rfl
theorem v_next {y : Nat → Nat} {a b : Nat} (ha : a < y 0) (hb : b < y 0) (hI : Iv y) : rv (if ix (nI a) (y 0) ∧ ix (nI b) (y 0) then 0 else 1) (nI (rto y (z (nI a)) (z (nI b)))) [eI] = nI (rto y a b) := by
  have := hI.1
  rw [if_pos ⟨(ix_nI (by omega)).mpr ha, (ix_nI (by omega)).mpr hb⟩, zn (by omega), zn (by omega)]; rfl
theorem v_bring {y : Nat → Nat} {a b : Nat} (ha : a < y 4) (hb : b < y 0) (hI : Iv y) : rv (if ix (nI a) (y 4) ∧ ix (nI b) (y 0) then 0 else 1) (nI (qIb y (z (nI a)) (z (nI b)))) [eI] = nI (qIb y a b) := by
  have := hI.1
  rw [if_pos ⟨(ix_nI (by omega)).mpr ha, (ix_nI (by omega)).mpr hb⟩, zn (by omega), zn (by omega)]; rfl
theorem v_best {y : Nat → Nat} {i : Nat} (hi : i < y 3) (hI : Iv y) : rv (if ix (nI i) (y 3) then 0 else 1) (nI (bestk y (z (nI i)) (y 4))) [eI] = nI (bestk y i (y 4)) := by
  have := hI.1
  rw [if_pos ((ix_nI (by omega)).mpr hi), zn (by omega)]; rfl
/-! refused -/
theorem x_1 {P : Prop} [Decidable P] {ans : Int32} {v : Int32} {cs : List Int32} (h : ¬ P) (hv : cs.getD 0 0 = v) : rv (if P then 0 else 1) ans cs = v := rv_n 0 (if_neg h) hv
theorem x_21 {P P2 : Prop} [Decidable P] [Decidable P2] {ans : Int32} {v : Int32} {cs : List Int32} (h : ¬ P) (hv : cs.getD 0 0 = v) : rv (if P then (if P2 then 0 else 2) else 1) ans cs = v := rv_n 0 (if_neg h) hv
theorem x_22 {P P2 : Prop} [Decidable P] [Decidable P2] {ans : Int32} {v : Int32} {cs : List Int32} (h : P) (h2 : ¬ P2) (hv : cs.getD 1 0 = v) : rv (if P then (if P2 then 0 else 2) else 1) ans cs = v := rv_n 1 (by rw [if_pos h, if_neg h2]) hv
theorem a_N {σ : St} {A : Ar} {i2 i3 : Nat} {cs : List Int32} (h : A = (cN, σ.1)) : rv (kA 1 i2 i3 A.1) A.1 (eI :: cs) = eI ∧ (A.2, aK (kA 1 i2 i3 A.1) σ.2.1, aD (kA 1 i2 i3 A.1) σ.2.1 σ.2.2.1 σ.1, σ.2.2.2.1, σ.2.2.2.2) = σ := by
  subst h
  have e : kA 1 i2 i3 ((cN, σ.1) : Ar).1 = 1 := kA_1 rfl
  rw [e]
  exact ⟨rfl, rfl⟩
theorem a_R {σ : St} {A : Ar} {i1 i3 : Nat} {c1 : Int32} {cs : List Int32} (h : A = (cR, σ.1)) : rv (kA i1 2 i3 A.1) A.1 (c1 :: eA :: cs) = eA ∧ (A.2, aK (kA i1 2 i3 A.1) σ.2.1, aD (kA i1 2 i3 A.1) σ.2.1 σ.2.2.1 σ.1, σ.2.2.2.1, σ.2.2.2.2) = σ := by
  subst h
  have e : kA i1 2 i3 ((cR, σ.1) : Ar).1 = 2 := kA_2 rfl
  rw [e]
  exact ⟨rfl, rfl⟩
theorem a_R1 {σ : St} {A : Ar} {i1 i3 : Nat} {cs : List Int32} (h : A = (cR, σ.1)) : rv (kA i1 1 i3 A.1) A.1 (eA :: cs) = eA ∧ (A.2, aK (kA i1 1 i3 A.1) σ.2.1, aD (kA i1 1 i3 A.1) σ.2.1 σ.2.2.1 σ.1, σ.2.2.2.1, σ.2.2.2.2) = σ := by
  subst h
  have e : kA i1 1 i3 ((cR, σ.1) : Ar).1 = 1 := kA_2 rfl
  rw [e]
  exact ⟨rfl, rfl⟩
theorem a_W {σ : St} {A : Ar} {i1 i2 j : Nat} {cs : List Int32} (h : A = (cW, σ.1)) (hj : cs.getD j 0 = eS) : rv (kA i1 i2 (j + 1) A.1) A.1 cs = eS ∧ (A.2, aK (kA i1 i2 (j + 1) A.1) σ.2.1, aD (kA i1 i2 (j + 1) A.1) σ.2.1 σ.2.2.1 σ.1, σ.2.2.2.1, σ.2.2.2.2) = σ := by
  subst h
  have e : kA i1 i2 (j + 1) ((cW, σ.1) : Ar).1 = j + 1 := kA_3 rfl
  rw [e]
  exact ⟨rv_n j rfl hj, rfl⟩
theorem cnt_r {y : Nat → Nat} {c : Int32} (h : c = cN ∨ c = cR) : cnt ((c, y) : Ar) = y := if_pos (by rcases h with h | h; exact Or.inr (Or.inl h); exact Or.inr (Or.inr (Or.inl h)))
theorem a_Nc {σ : St} {A : Ar} {i2 i3 : Nat} {cs : List Int32} (h : A = (cN, σ.1)) : rv (kA 1 i2 i3 A.1) A.1 (eI :: cs) = eI ∧ (cnt A, aK (kA 1 i2 i3 A.1) σ.2.1, aD (kA 1 i2 i3 A.1) σ.2.1 σ.2.2.1 σ.1, σ.2.2.2.1, σ.2.2.2.2) = σ := by
  have h2 := a_N (i2 := i2) (i3 := i3) (cs := cs) h
  refine ⟨h2.1, ?_⟩
  rw [show cnt A = A.2 from by rw [h]; exact cnt_r (Or.inl rfl)]
  exact h2.2
theorem a_Rc {σ : St} {A : Ar} {i1 i3 : Nat} {c1 : Int32} {cs : List Int32} (h : A = (cR, σ.1)) : rv (kA i1 2 i3 A.1) A.1 (c1 :: eA :: cs) = eA ∧ (cnt A, aK (kA i1 2 i3 A.1) σ.2.1, aD (kA i1 2 i3 A.1) σ.2.1 σ.2.2.1 σ.1, σ.2.2.2.1, σ.2.2.2.2) = σ := by
  have h2 := a_R (i1 := i1) (i3 := i3) (c1 := c1) (cs := cs) h
  refine ⟨h2.1, ?_⟩
  rw [show cnt A = A.2 from by rw [h]; exact cnt_r (Or.inr rfl)]
  exact h2.2
theorem kp_x {σ : St} {p : Int32} (h : ¬ ix p 2) : (σ.1, σ.2.1, σ.2.2.1, sA (if ix p 2 then 0 else 1) (z p) σ.1 σ.2.2.2.1, sB (if ix p 2 then 0 else 1) (z p) σ.2.2.2.2) = σ := by
  rw [if_neg h]; rfl
theorem bk_x {σ : St} {p : Int32} (h : ¬ ix p 2) : ((if (if ix p 2 then (if σ.2.2.2.2 (z p) = true then 0 else 2) else 1) = 0 then σ.2.2.2.1 (z p) else σ.1), (if (if ix p 2 then (if σ.2.2.2.2 (z p) = true then 0 else 2) else 1) = 0 then 0 else σ.2.1), σ.2.2.1, σ.2.2.2.1, σ.2.2.2.2) = σ := by
  rw [if_neg h]; rfl
/-! numbers that are no index -/
theorem neg_I {k : Nat} (hk : k < 1000) : (nI 4294967295 - nI k).toInt = -1 - (k : Int) := by
  have key : ∀ k, k < 1000 → (nI 4294967295 - nI k).toInt = -1 - (k : Int) := by decide +kernel
  exact key k hk
theorem nix_neg {k n : Nat} (hk : k < 1000) : ¬ ix (nI 4294967295 - nI k) n := fun h => by
  have h1 := h.1
  rw [neg_I hk] at h1
  omega
theorem nix_big {j n : Nat} (hj : j < 2 ^ 31) (h : n ≤ j) : ¬ ix (nI j) n := fun g => by
  have := (ix_nI hj).mp g
  omega
theorem nix_m1 {n : Nat} : ¬ ix (nI 4294967295) n := fun h => by
  have h1 := h.1
  rw [show (nI 4294967295).toInt = -1 from by decide] at h1
  omega
theorem NOI : (nI NO).toInt = -1 := by decide
/-- what the refusals ask of an argument -/
theorem r1_lt {v : Int32} {lo hi : Nat} (h1 : hi < 2 ^ 31) (h : ∃ j, j < 2 ^ 31 ∧ v = nI j ∧ (j < lo ∨ hi < j)) : ¬ ((lo : Int) ≤ v.toInt ∧ v.toInt ≤ (hi : Int)) := by
  obtain ⟨j, hj, rfl, hc⟩ := h
  rw [nI_toInt hj]
  omega
