/-! THE TEXT: what its commands do -/
def ok (x : Ar) : Bool := decide (¬ x.1 < 0)
def okC (x : Ar) : Bool := decide (x.1 = 0)
/-- a command of the text: whether it can be done, and the row behind it -/
def gv (L a b c : Nat) (y : Nat → Nat) : Bool × (Nat → Nat) :=
  if L = 116 then (ok (aTw y), (aTw y).2)
  else if L = 114 then (ok (aRd y (nI a) (nI b) (nI c)), (aRd y (nI a) (nI b) (nI c)).2)
  else if L = 117 then (ok (aRu y (nI a)), (aRu y (nI a)).2)
  else if L = 119 then (ok (aWr y (nI a) (nI b) (nI c)), (aWr y (nI a) (nI b) (nI c)).2)
  else if L = 107 then (ok (aTk y (nI a) (nI b)), (aTk y (nI a) (nI b)).2)
  else if L = 108 then (ok (aLy y (nI a)), (aLy y (nI a)).2)
  else if L = 103 then (ok (aGo y (nI a) (nI b)), (aGo y (nI a) (nI b)).2)
  else if L = 99 then (okC (aCp y (nI a) (nI b)), (aCp y (nI a) (nI b)).2)
  else (ok (aHr y (nI a)), (aHr y (nI a)).2)
theorem gv_t {L a b c : Nat} {y : Nat → Nat} (h : L = 116) : gv L a b c y = (ok (aTw y), (aTw y).2) := by unfold gv; rw [if_pos h]
theorem gv_r {L a b c : Nat} {y : Nat → Nat} (h : L = 114) : gv L a b c y = (ok (aRd y (nI a) (nI b) (nI c)), (aRd y (nI a) (nI b) (nI c)).2) := by unfold gv; rw [if_neg (by omega), if_pos h]
theorem gv_u {L a b c : Nat} {y : Nat → Nat} (h : L = 117) : gv L a b c y = (ok (aRu y (nI a)), (aRu y (nI a)).2) := by unfold gv; rw [if_neg (by omega), if_neg (by omega), if_pos h]
theorem gv_w {L a b c : Nat} {y : Nat → Nat} (h : L = 119) : gv L a b c y = (ok (aWr y (nI a) (nI b) (nI c)), (aWr y (nI a) (nI b) (nI c)).2) := by unfold gv; rw [if_neg (by omega), if_neg (by omega), if_neg (by omega), if_pos h]
theorem gv_k {L a b c : Nat} {y : Nat → Nat} (h : L = 107) : gv L a b c y = (ok (aTk y (nI a) (nI b)), (aTk y (nI a) (nI b)).2) := by unfold gv; rw [if_neg (by omega), if_neg (by omega), if_neg (by omega), if_neg (by omega), if_pos h]
theorem gv_l {L a b c : Nat} {y : Nat → Nat} (h : L = 108) : gv L a b c y = (ok (aLy y (nI a)), (aLy y (nI a)).2) := by unfold gv; rw [if_neg (by omega), if_neg (by omega), if_neg (by omega), if_neg (by omega), if_neg (by omega), if_pos h]
theorem gv_g {L a b c : Nat} {y : Nat → Nat} (h : L = 103) : gv L a b c y = (ok (aGo y (nI a) (nI b)), (aGo y (nI a) (nI b)).2) := by unfold gv; rw [if_neg (by omega), if_neg (by omega), if_neg (by omega), if_neg (by omega), if_neg (by omega), if_neg (by omega), if_pos h]
theorem gv_c {L a b c : Nat} {y : Nat → Nat} (h : L = 99) : gv L a b c y = (okC (aCp y (nI a) (nI b)), (aCp y (nI a) (nI b)).2) := by unfold gv; rw [if_neg (by omega), if_neg (by omega), if_neg (by omega), if_neg (by omega), if_neg (by omega), if_neg (by omega), if_neg (by omega), if_pos h]
theorem gv_h {L a b c : Nat} {y : Nat → Nat} (h : ¬ L = 99 ∧ ¬ L = 103 ∧ ¬ L = 107 ∧ ¬ L = 108 ∧ ¬ L = 114 ∧ ¬ L = 116 ∧ ¬ L = 117 ∧ ¬ L = 119) : gv L a b c y = (ok (aHr y (nI a)), (aHr y (nI a)).2) := by unfold gv; rw [if_neg (by omega), if_neg (by omega), if_neg (by omega), if_neg (by omega), if_neg (by omega), if_neg (by omega), if_neg (by omega), if_neg (by omega)]
theorem Iv_gv {y : Nat → Nat} (hI : Iv y) (L a b c : Nat) : Iv (gv L a b c y).2 := by
  unfold gv
  repeat' split
  · exact Iv_aTw hI
  · exact Iv_aRd hI _ _ _
  · exact Iv_aRu hI _
  · exact Iv_aWr hI _ _ _
  · exact Iv_aTk hI _ _
  · exact Iv_aLy hI _
  · exact Iv_aGo hI _ _
  · exact Iv_aCp hI _ _
  · exact Iv_aHr hI _
theorem ok_t {x : Ar} (h : ¬ x.1 < 0) : ok x = true := decide_eq_true h
theorem ok_f {x : Ar} (h : x.1 < 0) : ok x = false := decide_eq_false (fun c => c h)
theorem okC_t {x : Ar} (h : x.1 = 0) : okC x = true := decide_eq_true h
theorem okC_f {x : Ar} (h : ¬ x.1 = 0) : okC x = false := decide_eq_false h
theorem bpT {b : Bool} (h : b = true) : nI (bp (b = true)) = nI 1 := by rw [bp_t h]
theorem bpF {b : Bool} (h : b = false) : nI (bp (b = true)) = nI 0 := by rw [h]; rfl
theorem bd_p {N p : Nat} {r : Option Nat × Nat} {k : Nat → Nat → Option (Nat × Nat × Nat) × Nat} (hr : p ≤ r.2 ∧ r.2 ≤ N) (hk : ∀ a q, p ≤ q → q ≤ N → p ≤ (k a q).2 ∧ (k a q).2 ≤ N) : p ≤ (bd r k).2 ∧ (bd r k).2 ≤ N := by
  unfold bd
  split
  · exact hr
  · exact hk _ _ hr.1 hr.2
theorem rn_q {T : Nat → Nat} {N lo hi k v p q : Nat} (hp : p ≤ N) (hq : q ≤ p) : q ≤ (rn T N lo hi k v p).2 ∧ (rn T N lo hi k v p).2 ≤ N := by
  have := rn_p (T := T) (lo := lo) (hi := hi) (k := k) (v := v) hp
  omega
theorem rcm_p {T : Nat → Nat} {N p : Nat} (hp : p < N) : (rcm T N p).2 ≤ N ∧ ∀ x, (rcm T N p).1 = some x → p + 1 ≤ (rcm T N p).2 := by
  have key : rcm T N p = (none, p) ∨ (p + 1 ≤ (rcm T N p).2 ∧ (rcm T N p).2 ≤ N) := by
    unfold rcm
    repeat' split
    · exact Or.inr ⟨Nat.le_refl _, hp⟩
    · exact Or.inr (bd_p (rn_q hp (Nat.le_refl _)) fun a q h1 h2 => bd_p (rn_q h2 h1) fun b q h1 h2 => bd_p (rn_q h2 h1) fun c q h1 h2 => ⟨h1, h2⟩)
    · exact Or.inr (bd_p (rn_q hp (Nat.le_refl _)) fun a q h1 h2 => ⟨h1, h2⟩)
    · exact Or.inr (bd_p (rn_q hp (Nat.le_refl _)) fun a q h1 h2 => bd_p (rn_q h2 h1) fun b q h1 h2 => bd_p (rn_q h2 h1) fun c q h1 h2 => ⟨h1, h2⟩)
    · exact Or.inr (bd_p (rn_q hp (Nat.le_refl _)) fun a q h1 h2 => bd_p (rn_q h2 h1) fun b q h1 h2 => ⟨h1, h2⟩)
    · exact Or.inr (bd_p (rn_q hp (Nat.le_refl _)) fun a q h1 h2 => ⟨h1, h2⟩)
    · exact Or.inr (bd_p (rn_q hp (Nat.le_refl _)) fun a q h1 h2 => bd_p (rn_q h2 h1) fun b q h1 h2 => ⟨h1, h2⟩)
    · exact Or.inr (bd_p (rn_q hp (Nat.le_refl _)) fun a q h1 h2 => bd_p (rn_q h2 h1) fun b q h1 h2 => ⟨h1, h2⟩)
    · exact Or.inr (bd_p (rn_q hp (Nat.le_refl _)) fun a q h1 h2 => ⟨h1, h2⟩)
    · exact Or.inl rfl
  rcases key with e | e
  · rw [e]
    exact ⟨by show p ≤ N; omega, fun x hx => by cases hx⟩
  · exact ⟨e.2, fun x _ => e.1⟩
