/-! THE FEWEST HOURS BY ROADS -/
def FAR : Nat := 1000000
theorem FAR_eq : FAR = 1000000 := rfl
/-- the ends and hours of a road, in either way -/
def rda (y : Nat → Nat) (i : Nat) : Bool → Nat
  | false => y (7 + 3 * i)
  | true => y (7 + 3 * i + 1)
def rdb (y : Nat → Nat) (i : Nat) : Bool → Nat
  | false => y (7 + 3 * i + 1)
  | true => y (7 + 3 * i)
def rdw' (y : Nat → Nat) (i : Nat) : Nat := y (7 + 3 * i + 2)
def Wn (y : Nat → Nat) (a : Nat) : Nat → Nat → Nat → Prop
  | 0, t, L => t = a ∧ L = 0
  | n + 1, t, L => ∃ (i : Nat) (d : Bool) (L0 : Nat), i < y 1 ∧ Wn y a n (rda y i d) L0 ∧ t = rdb y i d ∧ L = L0 + rdw' y i
def Wk (y : Nat → Nat) (a t L : Nat) : Prop := ∃ n, Wn y a n t L
theorem Wk.z {y : Nat → Nat} {a : Nat} : Wk y a a 0 := ⟨0, rfl, rfl⟩
theorem Wk.s {y : Nat → Nat} {a : Nat} (i : Nat) (d : Bool) (L : Nat) (hi : i < y 1) (w : Wk y a (rda y i d) L) : Wk y a (rdb y i d) (L + rdw' y i) := by
  obtain ⟨n, hn⟩ := w
  exact ⟨n + 1, i, d, L, hi, hn, rfl, rfl⟩
theorem least {P : Nat → Prop} : (∃ n, P n) → ∃ n, P n ∧ ∀ m, P m → n ≤ m := by
  have key : ∀ n, P n → ∃ n, P n ∧ ∀ m, P m → n ≤ m := by
    intro n
    induction n using Nat.strongRecOn with
    | _ n ih =>
      intro hn
      by_cases h : ∃ m, m < n ∧ P m
      · obtain ⟨m, hm, hp⟩ := h
        exact ih m hm hp
      · exact ⟨n, hn, fun m hm => Nat.le_of_not_lt (fun e => h ⟨m, e, hm⟩)⟩
  rintro ⟨n, hn⟩
  exact key n hn
theorem ex_d (y : Nat → Nat) (a t : Nat) : ∃ v, (v = FAR ∧ ∀ L, Wk y a t L → FAR ≤ L) ∨ (v < FAR ∧ Wk y a t v ∧ ∀ L, Wk y a t L → v ≤ L) := by
  by_cases h : ∃ L, Wk y a t L
  · obtain ⟨v, hv, hm⟩ := least h
    by_cases hF : v < FAR
    · exact ⟨v, Or.inr ⟨hF, hv, hm⟩⟩
    · exact ⟨FAR, Or.inl ⟨rfl, fun L hL => by have := hm L hL; omega⟩⟩
  · exact ⟨FAR, Or.inl ⟨rfl, fun L hL => absurd ⟨L, hL⟩ h⟩⟩
noncomputable def dst (y : Nat → Nat) (a t : Nat) : Nat := Classical.choose (ex_d y a t)
theorem dst_sp (y : Nat → Nat) (a t : Nat) : (dst y a t = FAR ∧ ∀ L, Wk y a t L → FAR ≤ L) ∨ (dst y a t < FAR ∧ Wk y a t (dst y a t) ∧ ∀ L, Wk y a t L → dst y a t ≤ L) := Classical.choose_spec (ex_d y a t)
/-- right distances -/
def Sol (y : Nat → Nat) (a : Nat) (D : Nat → Nat) : Prop := (D a = 0) ∧ (∀ t, D t ≤ FAR) ∧ (∀ i d, i < y 1 → D (rda y i d) + rdw' y i < FAR → D (rdb y i d) ≤ D (rda y i d) + rdw' y i) ∧ (∀ t, ¬ t = a → D t < FAR → ∃ i d, i < y 1 ∧ rdb y i d = t ∧ D t = D (rda y i d) + rdw' y i)
theorem Sol.z {y : Nat → Nat} {a : Nat} {D : Nat → Nat} (h : Sol y a D) : D a = 0 := h.1
theorem Sol.le {y : Nat → Nat} {a : Nat} {D : Nat → Nat} (h : Sol y a D) : ∀ t, D t ≤ FAR := h.2.1
theorem Sol.cl {y : Nat → Nat} {a : Nat} {D : Nat → Nat} (h : Sol y a D) : ∀ i d, i < y 1 → D (rda y i d) + rdw' y i < FAR → D (rdb y i d) ≤ D (rda y i d) + rdw' y i := h.2.2.1
theorem Sol.ti {y : Nat → Nat} {a : Nat} {D : Nat → Nat} (h : Sol y a D) : ∀ t, ¬ t = a → D t < FAR → ∃ i d, i < y 1 ∧ rdb y i d = t ∧ D t = D (rda y i d) + rdw' y i := h.2.2.2
theorem Sol_dst (y : Nat → Nat) (a : Nat) : Sol y a (dst y a) := by
  have h1 : ∀ t L, Wk y a t L → dst y a t ≤ L ∨ FAR ≤ L := fun t L hw => by
    rcases dst_sp y a t with h | h
    · exact Or.inr (h.2 L hw)
    · exact Or.inl (h.2.2 L hw)
  have h2 : ∀ t, dst y a t < FAR → Wk y a t (dst y a t) := fun t ht => by
    rcases dst_sp y a t with h | h
    · omega
    · exact h.2.1
  have F0 : 0 < FAR := by decide
  refine ⟨?_, fun t => ?_, fun i d hi hD => ?_, fun t ht hD => ?_⟩
  · rcases h1 a 0 Wk.z with h | h
    · omega
    · omega
  · rcases dst_sp y a t with h | h
    · omega
    · omega
  · have hw := Wk.s i d _ hi (h2 (rda y i d) (by omega))
    rcases h1 _ _ hw with h | h <;> omega
  · obtain ⟨n, hn⟩ := h2 t hD
    match n, hn with
    | 0, hn => exact absurd hn.1 ht
    | n + 1, ⟨i, d, L, hi, w, e1, e2⟩ =>
      refine ⟨i, d, hi, e1.symm, ?_⟩
      rcases h1 _ L ⟨n, w⟩ with h | h
      · have hw3 := Wk.s i d _ hi (h2 (rda y i d) (by omega))
        rw [← e1] at hw3
        rcases h1 _ _ hw3 with h5 | h5 <;> omega
      · omega
/-- how many of the first k towns are nearer -/
def rkk (D : Nat → Nat) (t : Nat) : Nat → Nat
  | 0 => 0
  | k + 1 => rkk D t k + bp (D k < D t)
theorem rkk_le (D : Nat → Nat) (t : Nat) : ∀ k, rkk D t k ≤ k
  | 0 => Nat.le_refl _
  | k + 1 => by have := rkk_le D t k; have := bp_le (P := D k < D t); simp only [rkk]; omega
theorem bp_mo {P P' : Prop} [Decidable P] [Decidable P'] (h : P → P') : bp P ≤ bp P' := by
  by_cases hp : P
  · rw [bp_t hp, bp_t (h hp)]; exact Nat.le_refl _
  · rw [bp_f hp]; exact Nat.zero_le _
theorem rkk_mo {D : Nat → Nat} {p t : Nat} (h : D p < D t) : ∀ k, rkk D p k ≤ rkk D t k
  | 0 => Nat.le_refl _
  | k + 1 => by
    have := rkk_mo h k
    have := bp_mo (P := D k < D p) (P' := D k < D t) (fun e => by omega)
    simp only [rkk]; omega
theorem rkk_lt {D : Nat → Nat} {p t : Nat} (h : D p < D t) : ∀ k, p < k → rkk D p k < rkk D t k
  | k + 1, hp => by
    simp only [rkk]
    by_cases e : p = k
    · subst e
      have := rkk_mo h p
      rw [bp_t h, bp_f (Nat.lt_irrefl _)]
      omega
    · have := rkk_lt h k (by omega)
      have := bp_mo (P := D k < D p) (P' := D k < D t) (fun e => by omega)
      omega
theorem rkk_max (D : Nat → Nat) (t k : Nat) (h : t < k) : rkk D t k < k := by
  have key : ∀ k, t < k → rkk D t k < k := by
    intro k
    induction k with
    | zero => intro h; omega
    | succ k ih =>
      intro h
      simp only [rkk]
      by_cases e : t = k
      · subst e
        have := rkk_le D t t
        rw [bp_f (Nat.lt_irrefl _)]
        omega
      · have := ih (by omega)
        have := bp_le (P := D k < D t)
        omega
  exact key k h
/-- roads of a good row -/
def Rds (y : Nat → Nat) : Prop := (∀ i d, i < y 1 → rda y i d < 6) ∧ (∀ i d, i < y 1 → rdb y i d < 6) ∧ (∀ i, i < y 1 → 1 ≤ rdw' y i ∧ rdw' y i ≤ 20) ∧ (∀ i d, i < y 1 → ¬ rda y i d = rdb y i d)
theorem Rds.a {y : Nat → Nat} (h : Rds y) : ∀ i d, i < y 1 → rda y i d < 6 := h.1
theorem Rds.b {y : Nat → Nat} (h : Rds y) : ∀ i d, i < y 1 → rdb y i d < 6 := h.2.1
theorem Rds.w {y : Nat → Nat} (h : Rds y) : ∀ i, i < y 1 → 1 ≤ rdw' y i ∧ rdw' y i ≤ 20 := h.2.2.1
theorem Rds.ne {y : Nat → Nat} (h : Rds y) : ∀ i d, i < y 1 → ¬ rda y i d = rdb y i d := h.2.2.2
theorem Rds_Iv {y : Nat → Nat} (hI : Iv y) : Rds y := by
  obtain ⟨⟨i0, -⟩, iR, -⟩ := hI
  refine ⟨fun i d hi => ?_, fun i d hi => ?_, fun i hi => ?_, fun i d hi => ?_⟩
  · have := iR i hi; cases d <;> simp only [rda] <;> omega
  · have := iR i hi; cases d <;> simp only [rdb] <;> omega
  · have := iR i hi; unfold rdw'; omega
  · have := iR i hi; cases d <;> simp only [rda, rdb] <;> omega
/-- a nearer way along a road -/
def rlx (E : Nat → Nat) (u v w : Nat) : Nat → Nat := if E u = FAR ∨ E v ≤ E u + w then E else ys E v (E u + w)
/-- E is a good guess from above -/
def Up (y : Nat → Nat) (a B : Nat) (E : Nat → Nat) : Prop := (E a = 0) ∧ (∀ t, t < 6 → dst y a t ≤ E t) ∧ (∀ t, t < 6 → E t = FAR ∨ E t ≤ B)
theorem Up.z {y : Nat → Nat} {a B : Nat} {E : Nat → Nat} (h : Up y a B E) : E a = 0 := h.1
theorem Up.lo {y : Nat → Nat} {a B : Nat} {E : Nat → Nat} (h : Up y a B E) : ∀ t, t < 6 → dst y a t ≤ E t := h.2.1
theorem Up.bd {y : Nat → Nat} {a B : Nat} {E : Nat → Nat} (h : Up y a B E) : ∀ t, t < 6 → E t = FAR ∨ E t ≤ B := h.2.2
theorem Up.mono {y : Nat → Nat} {a B B' : Nat} {E : Nat → Nat} (h : Up y a B E) (hB : B ≤ B') : Up y a B' E := ⟨h.z, h.lo, fun t ht => by rcases h.bd t ht with g | g; exact Or.inl g; exact Or.inr (by omega)⟩
theorem rlx_le (E : Nat → Nat) (u v w t : Nat) : rlx E u v w t ≤ E t := by
  unfold rlx
  split
  · exact Nat.le_refl _
  · by_cases e : t = v
    · subst e; rw [ys_s]; omega
    · rw [ys_n _ e]; exact Nat.le_refl _
theorem rlx_at (E : Nat → Nat) {u v : Nat} (w : Nat) (hu : E u < FAR) : rlx E u v w v ≤ E u + w := by
  unfold rlx
  split
  · omega
  · rw [ys_s]; exact Nat.le_refl _
theorem rlx_n (E : Nat → Nat) {u v t : Nat} (w : Nat) (h : ¬ t = v) : rlx E u v w t = E t := by
  unfold rlx
  split
  · rfl
  · rw [ys_n _ h]
theorem Up.rx {y : Nat → Nat} {a B : Nat} {E : Nat → Nat} (h : Up y a B E) (hR : Rds y) (hB : B + 20 < FAR) {i : Nat} (d : Bool) (hi : i < y 1) : Up y a (B + 20) (rlx E (rda y i d) (rdb y i d) (rdw' y i)) := by
  have hS := Sol_dst y a
  have hw := hR.w i hi
  have ha := hR.a i d hi
  refine ⟨Nat.le_zero.mp (h.z ▸ rlx_le E _ _ _ a), fun t ht => ?_, fun t ht => ?_⟩
  · unfold rlx
    split
    · exact h.lo t ht
    · next hc =>
      by_cases e : t = rdb y i d
      · subst e
        rw [ys_s]
        have h1 := h.lo _ ha
        have h2 := h.bd _ ha
        have := hS.cl i d hi (by omega)
        omega
      · rw [ys_n _ e]; exact h.lo t ht
  · unfold rlx
    split
    · rcases h.bd t ht with g | g
      · exact Or.inl g
      · exact Or.inr (by omega)
    · next hc =>
      by_cases e : t = rdb y i d
      · subst e
        rw [ys_s]
        have h2 := h.bd _ ha
        right; omega
      · rw [ys_n _ e]
        rcases h.bd t ht with g | g
        · exact Or.inl g
        · exact Or.inr (by omega)
/-- all towns of a rank up to k are right -/
def Pg (y : Nat → Nat) (a k : Nat) (E : Nat → Nat) : Prop := ∀ t, t < 6 → rkk (dst y a) t 6 ≤ k → E t ≤ dst y a t
/-- and the first i roads have been gone along from them (both ways for those before; one way for the i-th if q) -/
def Ro (y : Nat → Nat) (a k i : Nat) (q : Bool) (E : Nat → Nat) : Prop := ∀ j d, j < y 1 → (j < i ∨ (j = i ∧ q = true ∧ d = false)) → rkk (dst y a) (rda y j d) 6 ≤ k → dst y a (rda y j d) < FAR → E (rdb y j d) ≤ dst y a (rda y j d) + rdw' y j
theorem Pg.down {y : Nat → Nat} {a k : Nat} {E E' : Nat → Nat} (h : Pg y a k E) (hE : ∀ t, E' t ≤ E t) : Pg y a k E' := fun t ht hk => Nat.le_trans (hE t) (h t ht hk)
theorem Ro.s1 {y : Nat → Nat} {a k i : Nat} {E : Nat → Nat} (hR : Rds y) (hi : i < y 1) (hP : Pg y a k E) (h : Ro y a k i false E) : Ro y a k i true (rlx E (rda y i false) (rdb y i false) (rdw' y i)) := fun j d hj hc hk hf => by
  rcases hc with hc | ⟨rfl, -, rfl⟩
  · exact Nat.le_trans (rlx_le _ _ _ _ _) (h j d hj (Or.inl hc) hk hf)
  · have h1 := hP _ (hR.a j false hj) hk
    have := rlx_at E (u := rda y j false) (v := rdb y j false) (rdw' y j) (by omega)
    omega
theorem Ro.s2 {y : Nat → Nat} {a k i : Nat} {E : Nat → Nat} (hR : Rds y) (hi : i < y 1) (hP : Pg y a k E) (h : Ro y a k i true E) : Ro y a k (i + 1) false (rlx E (rda y i true) (rdb y i true) (rdw' y i)) := fun j d hj hc hk hf => by
  rcases hc with hc | ⟨-, hc, -⟩
  · by_cases e : j = i
    · subst e
      cases d with
      | false => exact Nat.le_trans (rlx_le _ _ _ _ _) (h j false hj (Or.inr ⟨rfl, rfl, rfl⟩) hk hf)
      | true =>
        have h1 := hP _ (hR.a j true hj) hk
        have := rlx_at E (u := rda y j true) (v := rdb y j true) (rdw' y j) (by omega)
        omega
    · exact Nat.le_trans (rlx_le _ _ _ _ _) (h j d hj (Or.inl (by omega)) hk hf)
  · cases hc
theorem Ro_0 {y : Nat → Nat} {a k : Nat} {E : Nat → Nat} : Ro y a k 0 false E := fun j d hj hc hk hf => by
  rcases hc with hc | ⟨-, hc, -⟩
  · omega
  · cases hc
theorem Pg_s {y : Nat → Nat} {a k : Nat} {E : Nat → Nat} (hR : Rds y) (ha : a < 6) (hz : E a = 0) (hE : ∀ t, t < 6 → E t ≤ FAR) (h : Ro y a k (y 1) false E) : Pg y a (k + 1) E := fun t ht hk => by
  have hS := Sol_dst y a
  by_cases e : t = a
  · subst e; omega
  · by_cases hf : dst y a t < FAR
    · obtain ⟨j, d, hj, hb, hD⟩ := hS.ti t e hf
      have hw := hR.w j hj
      have hlt : dst y a (rda y j d) < dst y a t := by omega
      have := rkk_lt hlt 6 (hR.a j d hj)
      have := h j d hj (Or.inl hj) (by omega) (by omega)
      rw [hb] at this
      omega
    · have := hE t ht
      omega
theorem Pg_0 {y : Nat → Nat} {a : Nat} {E : Nat → Nat} (hR : Rds y) (ha : a < 6) (hz : E a = 0) (hE : ∀ t, t < 6 → E t ≤ FAR) : Pg y a 0 E := fun t ht hk => by
  have hS := Sol_dst y a
  by_cases e : t = a
  · subst e; omega
  · by_cases hf : dst y a t < FAR
    · obtain ⟨j, d, hj, hb, hD⟩ := hS.ti t e hf
      have h0 : dst y a a < dst y a t := by
        rw [hS.z]
        have := hR.w j hj
        omega
      have := rkk_lt h0 6 ha
      omega
    · have := hE t ht
      omega
theorem Up.eq {y : Nat → Nat} {a B : Nat} {E : Nat → Nat} (h : Up y a B E) (hP : Pg y a 5 E) (t : Nat) (ht : t < 6) : E t = dst y a t := by
  have := h.lo t ht
  have := hP t ht (by have := rkk_max (dst y a) t 6 ht; omega)
  omega
/-- nothing more comes by any road -/
def Cl (y : Nat → Nat) (i : Nat) (q : Bool) (E : Nat → Nat) : Prop := ∀ j d, j < y 1 → (j < i ∨ (j = i ∧ q = true ∧ d = false)) → E (rda y j d) < FAR → E (rdb y j d) ≤ E (rda y j d) + rdw' y j
theorem Cl_0 {y : Nat → Nat} {E : Nat → Nat} : Cl y 0 false E := fun j d hj hc hk => by
  rcases hc with hc | ⟨-, hc, -⟩
  · omega
  · cases hc
theorem Cl.s1 {y : Nat → Nat} {i : Nat} {E : Nat → Nat} (h : Cl y i false E) (hn : E (rda y i false) = FAR ∨ E (rdb y i false) ≤ E (rda y i false) + rdw' y i) : Cl y i true E := fun j d hj hc hk => by
  rcases hc with hc | ⟨rfl, -, rfl⟩
  · exact h j d hj (Or.inl hc) hk
  · rcases hn with hn | hn
    · omega
    · exact hn
theorem Cl.s2 {y : Nat → Nat} {i : Nat} {E : Nat → Nat} (h : Cl y i true E) (hn : E (rda y i true) = FAR ∨ E (rdb y i true) ≤ E (rda y i true) + rdw' y i) : Cl y (i + 1) false E := fun j d hj hc hk => by
  rcases hc with hc | ⟨-, hc, -⟩
  · by_cases e : j = i
    · subst e
      cases d with
      | false => exact h j false hj (Or.inr ⟨rfl, rfl, rfl⟩) hk
      | true =>
        rcases hn with hn | hn
        · omega
        · exact hn
    · exact h j d hj (Or.inl (by omega)) hk
  · cases hc
theorem Up.eqC {y : Nat → Nat} {a B : Nat} {E : Nat → Nat} (hR : Rds y) (h : Up y a B E) (hE : ∀ t, t < 6 → E t ≤ FAR) (hC : Cl y (y 1) false E) : ∀ t, t < 6 → E t = dst y a t := by
  have hS := Sol_dst y a
  have key : ∀ n t, t < 6 → dst y a t = n → E t ≤ n := by
    intro n
    induction n using Nat.strongRecOn with
    | _ n ih =>
      intro t ht hn
      by_cases e : t = a
      · rw [e, h.z]; exact Nat.zero_le _
      · by_cases hf : dst y a t < FAR
        · obtain ⟨j, d, hj, hb, hD⟩ := hS.ti t e hf
          have hw := hR.w j hj
          have h1 := ih (dst y a (rda y j d)) (by omega) _ (hR.a j d hj) rfl
          have h2 := hC j d hj (Or.inl hj) (by omega)
          rw [hb] at h2
          omega
        · have := hE t ht
          have := hS.le t
          omega
  intro t ht
  have := key _ t ht rfl
  have := h.lo t ht
  omega
/-! nearest first: L tells the towns that are done -/
def Dj (y : Nat → Nat) (a : Nat) (L : Nat → Bool) (E : Nat → Nat) : Prop := (∀ t, t < 6 → L t = true → E t = dst y a t ∧ dst y a t < FAR) ∧ (∀ j d, j < y 1 → L (rda y j d) = true → E (rdb y j d) ≤ dst y a (rda y j d) + rdw' y j)
theorem Dj.dn {y : Nat → Nat} {a : Nat} {L : Nat → Bool} {E : Nat → Nat} (h : Dj y a L E) : ∀ t, t < 6 → L t = true → E t = dst y a t ∧ dst y a t < FAR := h.1
theorem Dj.rl {y : Nat → Nat} {a : Nat} {L : Nat → Bool} {E : Nat → Nat} (h : Dj y a L E) : ∀ j d, j < y 1 → L (rda y j d) = true → E (rdb y j d) ≤ dst y a (rda y j d) + rdw' y j := h.2
/-- a town that is not done and reached has one that is not done, right, and no farther -/
theorem Dj.front {y : Nat → Nat} {a B : Nat} {L : Nat → Bool} {E : Nat → Nat} (hR : Rds y) (hU : Up y a B E) (h : Dj y a L E) (ha : a < 6) : ∀ n t, t < 6 → dst y a t = n → n < FAR → L t = false → ∃ t', t' < 6 ∧ L t' = false ∧ E t' = dst y a t' ∧ dst y a t' ≤ n := by
  have hS := Sol_dst y a
  intro n
  induction n using Nat.strongRecOn with
  | _ n ih =>
    intro t ht hn hf hL
    by_cases e : t = a
    · subst e
      exact ⟨t, ht, hL, by rw [hU.z, hS.z], by omega⟩
    · obtain ⟨j, d, hj, hb, hD⟩ := hS.ti t e (by omega)
      have hw := hR.w j hj
      cases hp : L (rda y j d) with
      | true =>
        have := h.rl j d hj hp
        rw [hb] at this
        have := hU.lo t ht
        exact ⟨t, ht, hL, by omega, by omega⟩
      | false =>
        obtain ⟨t', g1, g2, g3, g4⟩ := ih (dst y a (rda y j d)) (by omega) _ (hR.a j d hj) rfl (by omega) hp
        exact ⟨t', g1, g2, g3, by omega⟩
/-- the nearest that is not done is right -/
theorem Dj.near {y : Nat → Nat} {a B f : Nat} {L : Nat → Bool} {E : Nat → Nat} (hR : Rds y) (hU : Up y a B E) (h : Dj y a L E) (ha : a < 6) (hf : f < 6) (hL : L f = false) (hE : E f < FAR) (hm : ∀ t, t < 6 → L t = false → E f ≤ E t) : E f = dst y a f := by
  have h1 := hU.lo f hf
  obtain ⟨t', g1, g2, g3, g4⟩ := h.front hR hU ha (dst y a f) f hf rfl (by omega) hL
  have := hm t' g1 g2
  omega
theorem Dj.all {y : Nat → Nat} {a B : Nat} {L : Nat → Bool} {E : Nat → Nat} (hR : Rds y) (hU : Up y a B E) (h : Dj y a L E) (ha : a < 6) (hE : ∀ t, t < 6 → E t ≤ FAR) (hn : ∀ t, t < 6 → L t = false → E t = FAR) (t : Nat) (ht : t < 6) : E t = dst y a t := by
  cases hL : L t with
  | true => exact (h.dn t ht hL).1
  | false =>
    have h1 := hn t ht hL
    have := (Sol_dst y a).le t
    by_cases hf : dst y a t < FAR
    · obtain ⟨t', g1, g2, g3, g4⟩ := h.front hR hU ha _ t ht rfl hf hL
      have := hn t' g1 g2
      omega
    · omega
/-- how many of the first k are done -/
def cnk (L : Nat → Bool) : Nat → Nat
  | 0 => 0
  | k + 1 => cnk L k + bp (L k = true)
theorem cnk_le (L : Nat → Bool) : ∀ k, cnk L k ≤ k
  | 0 => Nat.le_refl _
  | k + 1 => by have := cnk_le L k; have := bp_le (P := L k = true); simp only [cnk]; omega
theorem cnk_all {L : Nat → Bool} : ∀ k, k ≤ cnk L k → ∀ t, t < k → L t = true
  | k + 1, h, t, ht => by
    simp only [cnk] at h
    have h1 := cnk_le L k
    have h2 := bp_le (P := L k = true)
    by_cases e : t = k
    · subst e
      exact bp_1.mp (show ¬ bp (L t = true) = 0 by omega)
    · exact cnk_all k (by omega) t (by omega)
def set1 (L : Nat → Bool) (f : Nat) : Nat → Bool := fun t => if t = f then true else L t
theorem set1_s (L : Nat → Bool) (f : Nat) : set1 L f f = true := if_pos rfl
theorem set1_n {L : Nat → Bool} {f t : Nat} (h : ¬ t = f) : set1 L f t = L t := if_neg h
theorem cnk_set {L : Nat → Bool} {f : Nat} (hf : L f = false) : ∀ k, cnk (set1 L f) k = cnk L k + bp (f < k)
  | 0 => rfl
  | k + 1 => by
    simp only [cnk]
    rw [cnk_set hf k]
    by_cases e : f = k
    · subst e
      have b1 : bp (true = true) = 1 := bp_t rfl
      have b2 : bp (false = true) = 0 := bp_f (fun e => by cases e)
      have b3 : bp (f < f) = 0 := bp_f (Nat.lt_irrefl _)
      have b4 : bp (f < f + 1) = 1 := bp_t (Nat.lt_succ_self _)
      rw [set1_s, hf, b1, b2, b3, b4]
    · rw [set1_n (by omega), bp_c (show f < k ↔ f < k + 1 by omega)]
      omega
/-- while the roads of f are gone along: the first i -/
def Dk (y : Nat → Nat) (a f i : Nat) (L : Nat → Bool) (E : Nat → Nat) : Prop := (∀ t, t < 6 → L t = true → E t = dst y a t ∧ dst y a t < FAR) ∧ (∀ j d, j < y 1 → L (rda y j d) = true → (¬ rda y j d = f ∨ j < i) → E (rdb y j d) ≤ dst y a (rda y j d) + rdw' y j)
theorem Dk.dn {y : Nat → Nat} {a f i : Nat} {L : Nat → Bool} {E : Nat → Nat} (h : Dk y a f i L E) : ∀ t, t < 6 → L t = true → E t = dst y a t ∧ dst y a t < FAR := h.1
theorem Dk.rl {y : Nat → Nat} {a f i : Nat} {L : Nat → Bool} {E : Nat → Nat} (h : Dk y a f i L E) : ∀ j d, j < y 1 → L (rda y j d) = true → (¬ rda y j d = f ∨ j < i) → E (rdb y j d) ≤ dst y a (rda y j d) + rdw' y j := h.2
theorem Dk_0 {y : Nat → Nat} {a B f : Nat} {L : Nat → Bool} {E : Nat → Nat} (hU : Up y a B E) (h : Dj y a L E) (hf : f < 6) (hE : E f = dst y a f) (hF : E f < FAR) : Dk y a f 0 (set1 L f) E := ⟨fun t ht hL => by
    by_cases e : t = f
    · subst e; exact ⟨hE, by omega⟩
    · rw [set1_n e] at hL; exact h.dn t ht hL, fun j d hj hL hc => by
    have : ¬ rda y j d = f := by omega
    rw [set1_n this] at hL
    exact h.rl j d hj hL⟩
theorem Dk_s {y : Nat → Nat} {a B f i : Nat} {L : Nat → Bool} {E : Nat → Nat} (hR : Rds y) (hU : Up y a B E) (hB : B + 20 < FAR) (h : Dk y a f i L E) (hi : i < y 1) (d : Bool) (hd : rda y i d = f) (hL : L f = true) (hf : f < 6) : Dk y a f (i + 1) L (rlx E (rda y i d) (rdb y i d) (rdw' y i)) := by
  have hF := h.dn f hf hL
  have hU2 := hU.rx hR hB d hi
  have hw := hR.w i hi
  refine ⟨fun t ht hT => ?_, fun j e hj hT hc => ?_⟩
  · have h1 := h.dn t ht hT
    have h2 := hU2.lo t ht
    have h3 := rlx_le E (rda y i d) (rdb y i d) (rdw' y i) t
    omega
  · by_cases e2 : ¬ rda y j e = f ∨ j < i
    · exact Nat.le_trans (rlx_le _ _ _ _ _) (h.rl j e hj hT e2)
    · have hj2 : j = i := by omega
      subst hj2
      have he : e = d := by
        have hne := hR.ne j
        cases e <;> cases d <;> first | rfl | (exfalso; simp only [rda] at e2 hd; have := hne false hj; simp only [rda, rdb] at this; omega)
      subst he
      have := rlx_at E (u := rda y j e) (v := rdb y j e) (rdw' y j) (by rw [hd]; omega)
      rw [hd, hF.1] at this
      rw [hd]
      exact this
theorem Dk_n {y : Nat → Nat} {a f i : Nat} {L : Nat → Bool} {E : Nat → Nat} (h : Dk y a f i L E) (hn : ∀ d, ¬ rda y i d = f) : Dk y a f (i + 1) L E := ⟨h.dn, fun j d hj hL hc => h.rl j d hj hL (by
    rcases hc with hc | hc
    · exact Or.inl hc
    · by_cases e : j = i
      · subst e; exact Or.inl (hn d)
      · exact Or.inr (by omega))⟩
theorem Dk_end {y : Nat → Nat} {a f : Nat} {L : Nat → Bool} {E : Nat → Nat} (h : Dk y a f (y 1) L E) : Dj y a L E := ⟨h.dn, fun j d hj hL => h.rl j d hj hL (Or.inr hj)⟩
/-- what is kept of a distance by the reference -/
def mo (v : Nat) : Nat := if v = FAR then NO else v
/-- which road to go by -/
def lr (y : Nat → Nat) (a : Nat) (D : Nat → Nat) : Nat → Nat → Nat
  | _, 0 => NO
  | i, j + 1 => if (y (7 + 3 * i) = a ∧ y (7 + 3 * i + 2) + D (y (7 + 3 * i + 1)) = D a) ∨ (y (7 + 3 * i + 1) = a ∧ y (7 + 3 * i + 2) + D (y (7 + 3 * i)) = D a) then i else lr y a D (i + 1) j
noncomputable def rto (y : Nat → Nat) (a b : Nat) : Nat := if a = b ∨ dst y b a = FAR then NO else lr y a (dst y b) 0 (y 1)
theorem rto_1 {y : Nat → Nat} {a b : Nat} (h : a = b ∨ dst y b a = FAR) : rto y a b = NO := if_pos h
theorem rto_2 {y : Nat → Nat} {a b : Nat} (h : ¬ (a = b ∨ dst y b a = FAR)) : rto y a b = lr y a (dst y b) 0 (y 1) := if_neg h
theorem lr_t {y : Nat → Nat} {a i n : Nat} {D : Nat → Nat} (hi : i < n) (h : (y (7 + 3 * i) = a ∧ y (7 + 3 * i + 2) + D (y (7 + 3 * i + 1)) = D a) ∨ (y (7 + 3 * i + 1) = a ∧ y (7 + 3 * i + 2) + D (y (7 + 3 * i)) = D a)) : lr y a D i (n - i) = i := by
  rw [show n - i = (n - (i + 1)) + 1 from by omega]
  simp only [lr]
  rw [if_pos h]
theorem lr_f {y : Nat → Nat} {a i n : Nat} {D : Nat → Nat} (hi : i < n) (h : ¬ ((y (7 + 3 * i) = a ∧ y (7 + 3 * i + 2) + D (y (7 + 3 * i + 1)) = D a) ∨ (y (7 + 3 * i + 1) = a ∧ y (7 + 3 * i + 2) + D (y (7 + 3 * i)) = D a))) : lr y a D i (n - i) = lr y a D (i + 1) (n - (i + 1)) := by
  rw [show n - i = (n - (i + 1)) + 1 from by omega]
  simp only [lr]
  rw [if_neg h]
theorem lr_b {y : Nat → Nat} {a : Nat} {D : Nat → Nat} : ∀ j i, lr y a D i j = NO ∨ lr y a D i j < i + j
  | 0, _ => Or.inl rfl
  | j + 1, i => by
    simp only [lr]
    split
    · right; omega
    · rcases lr_b j (i + 1) with h | h
      · exact Or.inl h
      · right; omega
/-! the planner of the class -/
abbrev ra (f : Nat → Int32) : AE := .inl (0, 6, .inl f)
abbrev rb (g : Nat → Int32) : AE := .inl (1, 6, .inl g)
def pln (p : Nat) (f g : Nat → Int32) (h : AH) : Prop := h p = some (.inr (3, [.ref (p + 1), .ref (p + 2)])) ∧ h (p + 1) = some (ra f) ∧ h (p + 2) = some (rb g)
theorem up_id {h : AH} {a : Nat} {x : AE} (e : h a = some x) : up h a x = h := by
  funext q
  unfold up
  split
  · next c => rw [c, e]
  · rfl
theorem up_3 {h : AH} {a b : Nat} {x y z : AE} (hab : ¬ a = b) : up (up (up h a x) b y) a z = up (up h a z) b y := by
  funext q
  unfold up
  by_cases h1 : q = a
  · subst h1; rw [if_pos rfl, if_neg hab, if_pos rfl]
  · rw [if_neg h1]
    by_cases h2 : q = b
    · rw [if_pos h2, if_pos h2]
    · rw [if_neg h2, if_neg h2, if_neg h1, if_neg h1]
def st0 (a t : Nat) : Nat := if t = a then 0 else FAR
theorem upd_to {f : Nat → Int32} {i : Nat} {v : Int32} (hf : ∀ t, t < i → f t = v) : ∀ t, t < i + 1 → upd f i v t = v := fun t ht => by
  by_cases e : t = i
  · rw [e, pk_us]
  · rw [pk_un e]; exact hf t (by omega)
theorem upd_fun {f : Nat → Int32} {F : Nat → Int32} {i : Nat} (hf : ∀ t, t < i → f t = F t) {v : Int32} (hv : v = F i) : ∀ t, t < i + 1 → upd f i v t = F t := fun t ht => by
  by_cases e : t = i
  · rw [e, pk_us, hv]
  · rw [pk_un e]; exact hf t (by omega)
theorem st0_upd {f : Nat → Int32} {a : Nat} (hf : ∀ t, t < 6 → f t = nI 1000000) : ∀ t, t < 6 → upd f a (nI 0) t = nI (st0 a t) := fun t ht => by
  unfold st0
  by_cases e : t = a
  · rw [if_pos e, e, pk_us]
  · rw [if_neg e, pk_un e, hf t ht]; rfl
theorem upd_rlx {f : Nat → Int32} {E : Nat → Nat} {u v w : Nat} (hf : ∀ t, t < 6 → f t = nI (E t)) (hc : ¬ (E u = FAR ∨ E v ≤ E u + w)) : ∀ t, t < 6 → upd f v (nI (E u + w)) t = nI (rlx E u v w t) := fun t ht => by
  unfold rlx
  rw [if_neg hc]
  by_cases e : t = v
  · rw [e, pk_us, ys_s]
  · rw [pk_un e, ys_n _ e, hf t ht]
theorem rlx_id {E : Nat → Nat} {u v w : Nat} (hc : E u = FAR ∨ E v ≤ E u + w) : rlx E u v w = E := if_pos hc
theorem Up_st0 {y : Nat → Nat} {a B : Nat} (ha : a < 6) : Up y a B (st0 a) := by
  have hS := Sol_dst y a
  refine ⟨by unfold st0; rw [if_pos rfl], fun t ht => ?_, fun t ht => ?_⟩
  · unfold st0
    split
    · next e => rw [e, hS.z]; exact Nat.le_refl _
    · exact hS.le t
  · unfold st0
    split
    · exact Or.inr (Nat.zero_le _)
    · exact Or.inl rfl
theorem st0_le (a t : Nat) : st0 a t ≤ FAR := by unfold st0; split <;> simp [FAR]
theorem rlx_fl {E : Nat → Nat} (u v w : Nat) (h : ∀ t, t < 6 → E t ≤ FAR) : ∀ t, t < 6 → rlx E u v w t ≤ FAR := fun t ht => Nat.le_trans (rlx_le _ _ _ _ _) (h t ht)
/-- the nearest of the first i that is not done -/
def So (E : Nat → Nat) (L : Nat → Bool) (i r : Nat) : Prop := (r = NO ∧ ∀ t, t < i → L t = false → FAR ≤ E t) ∨ (r < i ∧ L r = false ∧ E r < FAR ∧ ∀ t, t < i → L t = false → E r ≤ E t)
theorem So_b {E : Nat → Nat} {L : Nat → Bool} {i r : Nat} (h : So E L i r) : r = NO ∨ r < i := h.elim (fun e => Or.inl e.1) (fun e => Or.inr e.1)
theorem So_0 {E : Nat → Nat} {L : Nat → Bool} : So E L 0 NO := Or.inl ⟨rfl, fun t ht => by omega⟩
theorem So_skip {E : Nat → Nat} {L : Nat → Bool} {i r : Nat} (h : So E L i r) (hs : L i = true ∨ FAR ≤ E i ∨ (¬ r = NO ∧ E r ≤ E i)) : So E L (i + 1) r := by
  rcases h with ⟨h1, h2⟩ | ⟨h1, h2, h3, h4⟩
  · refine Or.inl ⟨h1, fun t ht hL => ?_⟩
    by_cases e : t = i
    · subst e
      rcases hs with hs | hs | hs
      · rw [hs] at hL; cases hL
      · exact hs
      · exact absurd h1 hs.1
    · exact h2 t (by omega) hL
  · refine Or.inr ⟨by omega, h2, h3, fun t ht hL => ?_⟩
    by_cases e : t = i
    · subst e
      rcases hs with hs | hs | hs
      · rw [hs] at hL; cases hL
      · omega
      · exact hs.2
    · exact h4 t (by omega) hL
theorem So_take {E : Nat → Nat} {L : Nat → Bool} {i r : Nat} (h : So E L i r) (hL : L i = false) (hE : E i < FAR) (hr : r = NO ∨ E i < E r) (hi : i < NO) : So E L (i + 1) i := by
  refine Or.inr ⟨by omega, hL, hE, fun t ht hT => ?_⟩
  by_cases e : t = i
  · rw [e]; exact Nat.le_refl _
  · rcases h with ⟨h1, h2⟩ | ⟨h1, h2, h3, h4⟩
    · have := h2 t (by omega) hT; omega
    · have := h4 t (by omega) hT
      rcases hr with hr | hr
      · subst hr; omega
      · omega
theorem So_st0 {a : Nat} (ha : a < 6) : So (st0 a) (fun _ => false) 6 a := by
  refine Or.inr ⟨ha, rfl, ?_, fun t ht _ => ?_⟩
  · unfold st0; rw [if_pos rfl]; decide
  · unfold st0; rw [if_pos rfl]; exact Nat.zero_le _
theorem dir_of {y : Nat → Nat} {j t : Nat} (h : y (7 + 3 * j) = t ∨ y (7 + 3 * j + 1) = t) : ∃ d, rda y j d = t ∧ (if y (7 + 3 * j) = t then y (7 + 3 * j + 1) else y (7 + 3 * j)) = rdb y j d := by
  by_cases e : y (7 + 3 * j) = t
  · exact ⟨false, e, by rw [if_pos e]; rfl⟩
  · exact ⟨true, h.resolve_left e, by rw [if_neg e]; rfl⟩
theorem dir_no {y : Nat → Nat} {j t : Nat} (h : ¬ (y (7 + 3 * j) = t ∨ y (7 + 3 * j + 1) = t)) : ∀ d, ¬ rda y j d = t := fun d => by
  cases d
  · exact fun e => h (Or.inl e)
  · exact fun e => h (Or.inr e)
theorem mo_n {v : Nat} (h : ¬ v = FAR) : mo v = v := if_neg h
theorem mo_y {v : Nat} (h : v = FAR) : mo v = NO := if_pos h
theorem mo_iff {v : Nat} (h : v ≤ FAR) : mo v = NO ↔ v = FAR := by
  unfold mo
  split
  · next e => exact ⟨fun _ => e, fun _ => rfl⟩
  · next e => exact ⟨fun c => by have := FAR_eq; have := NO_eq; omega, fun c => absurd c e⟩
theorem mo_b {v : Nat} (h : v ≤ FAR) : mo v < 2 ^ 32 := by
  have := FAR_eq
  have := NO_eq
  unfold mo; split <;> omega
theorem upd_rlxm {f : Nat → Int32} {E : Nat → Nat} {u v w : Nat} (hf : ∀ t, t < 6 → f t = nI (mo (E t))) (hc : ¬ (E u = FAR ∨ E v ≤ E u + w)) (hb : E v ≤ FAR) : ∀ t, t < 6 → upd f v (nI (E u + w)) t = nI (mo (rlx E u v w t)) := fun t ht => by
  unfold rlx
  rw [if_neg hc]
  by_cases e : t = v
  · rw [e, pk_us, ys_s, mo_n (by omega)]
  · rw [pk_un e, ys_n _ e, hf t ht]
theorem Pg.mo {y : Nat → Nat} {a k k' : Nat} {E : Nat → Nat} (h : Pg y a k E) (hk : k' ≤ k) : Pg y a k' E := fun t ht hr => h t ht (Nat.le_trans hr hk)
/-- the reference's object -/
abbrev obM (m : Nat) (rf sz ac sp ou : Int32) : AE := .inr (8, [.int rf, .ref (m + 1), .int sz, .ref (m + 2), .ref (m + 3), .ref (m + 4), .int ac, .ref (m + 5), .ref (m + 6), .ref (m + 7), .int sp, .int ou])

