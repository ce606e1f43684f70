/-! THE TEXT: reading numbers and commands -/
def uw : Nat → Nat
  | 0 => 0
  | 1 => 1
  | k + 2 => uw (k + 1) * 10
theorem uw_s : ∀ {k : Nat}, 1 ≤ k → uw k * 10 = uw (k + 1)
  | k + 1, _ => rfl
theorem uw_d : ∀ k, uw (k + 1) / 10 = uw k
  | 0 => rfl
  | k + 1 => by show uw (k + 1) * 10 / 10 = uw (k + 1); omega
theorem uw_le : ∀ {k : Nat}, k ≤ 6 → uw k ≤ 100000
  | 0, _ => by decide
  | 1, _ => by decide
  | 2, _ => by decide
  | 3, _ => by decide
  | 4, _ => by decide
  | 5, _ => by decide
  | 6, _ => by decide
theorem uw_pos : ∀ {k : Nat}, 1 ≤ k → 1 ≤ uw k
  | 1, _ => by decide
  | k + 2, _ => by
    have := uw_pos (k := k + 1) (by omega)
    show 1 ≤ uw (k + 1) * 10
    omega
abbrev rc (T : Nat → Nat) (N lo hi k v p : Nat) : Prop := p < N ∧ 48 ≤ T p ∧ T p ≤ 57 ∧ v + (T p - 48) * uw k ≤ hi ∧ lo + 1 ≤ v + (T p - 48) * uw k + uw k
/-- a number of k digits from lo to hi, and where the reading stands then -/
def rn (T : Nat → Nat) (N lo hi : Nat) : Nat → Nat → Nat → Option Nat × Nat
  | 0, v, p => (some v, p)
  | k + 1, v, p => if rc T N lo hi (k + 1) v p then rn T N lo hi k (v + (T p - 48) * uw (k + 1)) (p + 1) else (none, p)
theorem rn_0 {T : Nat → Nat} {N lo hi k v p : Nat} (h : k = 0) : rn T N lo hi k v p = (some v, p) := by rw [h]; rfl
theorem rn_f {T : Nat → Nat} {N lo hi k v p : Nat} (h0 : 0 < k) (h : ¬ rc T N lo hi k v p) : rn T N lo hi k v p = (none, p) := by
  obtain ⟨j, rfl⟩ : ∃ j, k = j + 1 := ⟨k - 1, by omega⟩
  simp only [rn]
  rw [if_neg h]
theorem rn_t {T : Nat → Nat} {N lo hi k v p : Nat} (h0 : 0 < k) (h : rc T N lo hi k v p) : rn T N lo hi k v p = rn T N lo hi (k - 1) (v + (T p - 48) * uw k) (p + 1) := by
  obtain ⟨j, rfl⟩ : ∃ j, k = j + 1 := ⟨k - 1, by omega⟩
  simp only [rn]
  rw [if_pos h, Nat.add_sub_cancel]
theorem rn_p {T : Nat → Nat} {N lo hi : Nat} : ∀ {k v p : Nat}, p ≤ N → p ≤ (rn T N lo hi k v p).2 ∧ (rn T N lo hi k v p).2 ≤ N
  | 0, v, p, h => ⟨Nat.le_refl _, h⟩
  | k + 1, v, p, h => by
    by_cases c : rc T N lo hi (k + 1) v p
    · rw [rn_t (by omega) c]
      have := rn_p (T := T) (N := N) (lo := lo) (hi := hi) (k := k + 1 - 1) (v := v + (T p - 48) * uw (k + 1)) (p := p + 1) c.1
      exact ⟨by omega, this.2⟩
    · rw [rn_f (by omega) c]
      exact ⟨Nat.le_refl _, h⟩
theorem rn_v {T : Nat → Nat} {N lo hi r : Nat} : ∀ {k v p : Nat}, (k = 0 → lo ≤ v ∧ v ≤ hi) → (rn T N lo hi k v p).1 = some r → lo ≤ r ∧ r ≤ hi
  | 0, v, p, h, e => by
    have := Option.some.inj e
    rw [← this]
    exact h rfl
  | k + 1, v, p, h, e => by
    by_cases c : rc T N lo hi (k + 1) v p
    · rw [rn_t (by omega) c] at e
      refine rn_v (fun e0 => ?_) e
      have hk : k = 0 := by omega
      subst hk
      obtain ⟨-, -, -, c1, c2⟩ := c
      have u1 : uw (0 + 1) = 1 := rfl
      rw [u1] at c1 c2 ⊢
      exact ⟨by omega, c1⟩
    · rw [rn_f (by omega) c] at e
      cases e
theorem rn_some {T : Nat → Nat} {N lo hi k : Nat} (hk : 1 ≤ k) {p r : Nat} (e : (rn T N lo hi k 0 p).1 = some r) : lo ≤ r ∧ r ≤ hi := rn_v (fun e0 => by omega) e
def bd (r : Option Nat × Nat) (k : Nat → Nat → Option (Nat × Nat × Nat) × Nat) : Option (Nat × Nat × Nat) × Nat := match r.1 with
  | none => (none, r.2)
  | some a => k a r.2
theorem bd_n {r : Option Nat × Nat} {k : Nat → Nat → Option (Nat × Nat × Nat) × Nat} (h : r.1 = none) : bd r k = (none, r.2) := by unfold bd; rw [h]
theorem bd_s {r : Option Nat × Nat} {k : Nat → Nat → Option (Nat × Nat × Nat) × Nat} {a : Nat} (h : r.1 = some a) : bd r k = k a r.2 := by unfold bd; rw [h]
abbrev rTn (T : Nat → Nat) (N p : Nat) := rn T N 0 5 1 0 p
abbrev rRu (T : Nat → Nat) (N p : Nat) := rn T N 0 4 1 0 p
abbrev rSh (T : Nat → Nat) (N p : Nat) := rn T N 0 11 2 0 p
abbrev r9 (T : Nat → Nat) (N p : Nat) := rn T N 0 9 1 0 p
/-- a command, and where the reading stands then -/
def rcm (T : Nat → Nat) (N p : Nat) : Option (Nat × Nat × Nat) × Nat :=
  if T p = 116 then (some (0, 0, 0), p + 1)
  else if T p = 114 then bd (rTn T N (p + 1)) fun a q => bd (rTn T N q) fun b q => bd (rn T N 1 20 2 0 q) fun c q => (some (a, b, c), q)
  else if T p = 117 then bd (rTn T N (p + 1)) fun a q => (some (a, 0, 0), q)
  else if T p = 119 then bd (rTn T N (p + 1)) fun a q => bd (rn T N 0 999999 6 0 q) fun b q => bd (r9 T N q) fun c q => (some (a, b, c), q)
  else if T p = 107 then bd (rRu T N (p + 1)) fun a q => bd (rSh T N q) fun b q => (some (a, b, 0), q)
  else if T p = 108 then bd (rSh T N (p + 1)) fun a q => (some (a, 0, 0), q)
  else if T p = 103 then bd (rRu T N (p + 1)) fun a q => bd (r9 T N q) fun b q => (some (a, b, 0), q)
  else if T p = 99 then bd (rSh T N (p + 1)) fun a q => bd (r9 T N q) fun b q => (some (a, b, 0), q)
  else if T p = 104 then bd (rn T N 1 60 2 0 (p + 1)) fun a q => (some (a, 0, 0), q)
  else (none, p)
theorem rcm_t {T : Nat → Nat} {N p : Nat} (h : T p = 116) : rcm T N p = (some (0, 0, 0), p + 1) := by unfold rcm; rw [if_pos h]
theorem rcm_r {T : Nat → Nat} {N p : Nat} (h : T p = 114) : rcm T N p = bd (rTn T N (p + 1)) fun a q => bd (rTn T N q) fun b q => bd (rn T N 1 20 2 0 q) fun c q => (some (a, b, c), q) := by unfold rcm; rw [if_neg (by omega), if_pos h]
theorem rcm_u {T : Nat → Nat} {N p : Nat} (h : T p = 117) : rcm T N p = bd (rTn T N (p + 1)) fun a q => (some (a, 0, 0), q) := by unfold rcm; rw [if_neg (by omega), if_neg (by omega), if_pos h]
theorem rcm_w {T : Nat → Nat} {N p : Nat} (h : T p = 119) : rcm T N p = bd (rTn T N (p + 1)) fun a q => bd (rn T N 0 999999 6 0 q) fun b q => bd (r9 T N q) fun c q => (some (a, b, c), q) := by unfold rcm; rw [if_neg (by omega), if_neg (by omega), if_neg (by omega), if_pos h]
theorem rcm_k {T : Nat → Nat} {N p : Nat} (h : T p = 107) : rcm T N p = bd (rRu T N (p + 1)) fun a q => bd (rSh T N q) fun b q => (some (a, b, 0), q) := by unfold rcm; rw [if_neg (by omega), if_neg (by omega), if_neg (by omega), if_neg (by omega), if_pos h]
theorem rcm_l {T : Nat → Nat} {N p : Nat} (h : T p = 108) : rcm T N p = bd (rSh T N (p + 1)) fun a q => (some (a, 0, 0), q) := by unfold rcm; rw [if_neg (by omega), if_neg (by omega), if_neg (by omega), if_neg (by omega), if_neg (by omega), if_pos h]
theorem rcm_g {T : Nat → Nat} {N p : Nat} (h : T p = 103) : rcm T N p = bd (rRu T N (p + 1)) fun a q => bd (r9 T N q) fun b q => (some (a, b, 0), q) := by unfold rcm; rw [if_neg (by omega), if_neg (by omega), if_neg (by omega), if_neg (by omega), if_neg (by omega), if_neg (by omega), if_pos h]
theorem rcm_c {T : Nat → Nat} {N p : Nat} (h : T p = 99) : rcm T N p = bd (rSh T N (p + 1)) fun a q => bd (r9 T N q) fun b q => (some (a, b, 0), q) := by unfold rcm; rw [if_neg (by omega), if_neg (by omega), if_neg (by omega), if_neg (by omega), if_neg (by omega), if_neg (by omega), if_neg (by omega), if_pos h]
theorem rcm_h {T : Nat → Nat} {N p : Nat} (h : T p = 104) : rcm T N p = bd (rn T N 1 60 2 0 (p + 1)) fun a q => (some (a, 0, 0), q) := by unfold rcm; rw [if_neg (by omega), if_neg (by omega), if_neg (by omega), if_neg (by omega), if_neg (by omega), if_neg (by omega), if_neg (by omega), if_neg (by omega), if_pos h]
theorem rcm_n {T : Nat → Nat} {N p : Nat} (h : ¬ T p = 116 ∧ ¬ T p = 114 ∧ ¬ T p = 117 ∧ ¬ T p = 119 ∧ ¬ T p = 107 ∧ ¬ T p = 108 ∧ ¬ T p = 103 ∧ ¬ T p = 99 ∧ ¬ T p = 104) : rcm T N p = (none, p) := by unfold rcm; rw [if_neg (by omega), if_neg (by omega), if_neg (by omega), if_neg (by omega), if_neg (by omega), if_neg (by omega), if_neg (by omega), if_neg (by omega), if_neg (by omega)]
/-- the class's reader -/
abbrev txo (X : Nat) (sz at' lt : Int32) : AE := .inr (0, [.ref (X + 1), .ref (X + 2), .int sz, .int at', .int lt])
abbrev aC (f : Nat → Int32) : AE := .inl (2, 120, .inl f)
abbrev a3 (g : Nat → Int32) : AE := .inl (0, 3, .inl g)
def tx (X : Nat) (T : Nat → Nat) (N p : Nat) (lt : Int32) (f g : Nat → Int32) (h : AH) : Prop := (N ≤ 120 ∧ p ≤ N) ∧ h X = some (txo X (nI N) (nI p) lt) ∧ h (X + 1) = some (aC f) ∧ h (X + 2) = some (a3 g) ∧ ∀ i, i < N → f i = nI (T i) ∧ T i < 256
/-- the heap with the reader at p -/
def tH (h : AH) (X N p : Nat) (lt : Int32) (g : Nat → Int32) : AH := up (up h X (txo X (nI N) (nI p) lt)) (X + 2) (a3 g)
theorem tH_id {X N p : Nat} {T : Nat → Nat} {lt : Int32} {f g : Nat → Int32} {h : AH} (ht : tx X T N p lt f g h) : tH h X N p lt g = h := by
  obtain ⟨-, h1, h2, h3, -⟩ := ht
  unfold tH
  rw [up_id h1, up_id h3]
theorem tH_tH (h : AH) (X N p q : Nat) (lt lt' : Int32) (g g' : Nat → Int32) : tH (tH h X N p lt g) X N q lt' g' = tH h X N q lt' g' := by
  unfold tH
  rw [up_3 (by omega), up_3 (by omega)]
theorem tH_tx {X N p q : Nat} {T : Nat → Nat} {lt lt' : Int32} {f g : Nat → Int32} {h : AH} (ht : tx X T N p lt f g h) (g' : Nat → Int32) (hq : q ≤ N) : tx X T N q lt' f g' (tH h X N q lt' g') := by
  obtain ⟨h0, h1, h2, h3, h4⟩ := ht
  unfold tH
  exact ⟨⟨h0.1, hq⟩, by rw [up_n _ (by omega)]; exact up_s _ _ _, by rw [up_n _ (by omega), up_n _ (by omega)]; exact h2, up_s _ _ _, h4⟩
theorem tH_n {h : AH} {X N p a : Nat} {lt : Int32} {g : Nat → Int32} (h0 : ¬ a = X) (h2 : ¬ a = X + 2) : tH h X N p lt g a = h a := by
  unfold tH
  rw [up_n _ h2, up_n _ h0]
/-- only the object -/
theorem tH_ob {X N p q : Nat} {T : Nat → Nat} {lt lt' : Int32} {f g : Nat → Int32} {h : AH} (ht : tx X T N p lt f g h) : up h X (txo X (nI N) (nI q) lt') = tH h X N q lt' g := by
  unfold tH
  exact (up_id (by rw [up_n _ (by omega)]; exact ht.2.2.2.1)).symm
theorem tH_nu {X N p : Nat} {T : Nat → Nat} {lt : Int32} {f g : Nat → Int32} {h : AH} (ht : tx X T N p lt f g h) (g' : Nat → Int32) : up h (X + 2) (a3 g') = tH h X N p lt g' := by
  unfold tH
  rw [up_id ht.2.1]
def stn (g : Nat → Int32) (wh : Nat) : Option Nat → (Nat → Int32)
  | none => g
  | some v => upd g wh (nI v)
def ar (L : Nat) : Nat := if L = 116 then 0 else if L = 117 ∨ L = 108 ∨ L = 104 then 1 else if L = 114 ∨ L = 119 then 3 else 2
def agr (k : Nat) (g : Nat → Int32) (a b c : Nat) : Prop := (1 ≤ k → g 0 = nI a) ∧ (2 ≤ k → g 1 = nI b) ∧ (3 ≤ k → g 2 = nI c)
theorem nar_c {k : Nat} (h : k < 256) : narrow .char (.int (nI k)) = .int (nI k) := by
  have key : ((List.range 256).all fun k => decide (narrow .char (.int (nI k)) = .int (nI k))) = true := by decide +kernel
  exact of_decide_eq_true (List.all_eq_true.mp key k (List.mem_range.mpr h))
theorem fit_c {k : Nat} (h : k < 256) : fits .char (.int (nI k)) = true := by
  have key : ((List.range 256).all fun k => fits .char (.int (nI k))) = true := by decide +kernel
  exact List.all_eq_true.mp key k (List.mem_range.mpr h)
def ona : Option Nat → Nat
  | none => NO
  | some v => v
