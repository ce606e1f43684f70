/-! THE TEXT: reading numbers and commands -/
def uw : Nat → Nat
  | 0 => 0
  | 1 => 1
  | k + 2 => uw (k + 1) * 10
theorem uw_s : ∀ {k : Nat}, 1 ≤ k → uw k * 10 = uw (k + 1)
  | k + 1, _ => rfl
theorem uw_d : ∀ k, uw (k + 1) / 10 = uw k
  | 0 => rfl
  | k + 1 => by show uw (k + 1) * 10 / 10 = uw (k + 1); omega
theorem uw_le : ∀ {k : Nat}, k ≤ 6 → uw k ≤ 100000
  | 0, _ => by decide
  | 1, _ => by decide
  | 2, _ => by decide
  | 3, _ => by decide
  | 4, _ => by decide
  | 5, _ => by decide
  | 6, _ => by decide
theorem uw_pos : ∀ {k : Nat}, 1 ≤ k → 1 ≤ uw k
  | 1, _ => by decide
  | k + 2, _ => by
    have := uw_pos (k := k + 1) (by omega)
    show 1 ≤ uw (k + 1) * 10
    omega
abbrev rc (T : Nat → Nat) (N lo hi k v p : Nat) : Prop := p < N ∧ 48 ≤ T p ∧ T p ≤ 57 ∧ v + (T p - 48) * uw k ≤ hi ∧ lo + 1 ≤ v + (T p - 48) * uw k + uw k
/-- a number of k digits from lo to hi, and where the reading stands then -/
def rn (T : Nat → Nat) (N lo hi : Nat) : Nat → Nat → Nat → Option Nat × Nat
  | 0, v, p => (some v, p)
  | k + 1, v, p => if rc T N lo hi (k + 1) v p then rn T N lo hi k (v + (T p - 48) * uw (k + 1)) (p + 1) else (none, p)
theorem rn_0 {T : Nat → Nat} {N lo hi k v p : Nat} (h : k = 0) : rn T N lo hi k v p = (some v, p) := by rw [h]; rfl
theorem rn_f {T : Nat → Nat} {N lo hi k v p : Nat} (h0 : 0 < k) (h : ¬ rc T N lo hi k v p) : rn T N lo hi k v p = (none, p) := by
  obtain ⟨j, rfl⟩ : ∃ j, k = j + 1 := ⟨k - 1, by omega⟩
  simp only [rn]
  rw [if_neg h]
theorem rn_t {T : Nat → Nat} {N lo hi k v p : Nat} (h0 : 0 < k) (h : rc T N lo hi k v p) : rn T N lo hi k v p = rn T N lo hi (k - 1) (v + (T p - 48) * uw k) (p + 1) := by
  obtain ⟨j, rfl⟩ : ∃ j, k = j + 1 := ⟨k - 1, by omega⟩
  simp only [rn]
  rw [if_pos h, Nat.add_sub_cancel]
theorem rn_p {T : Nat → Nat} {N lo hi : Nat} : ∀ {k v p : Nat}, p ≤ N → p ≤ (rn T N lo hi k v p).2 ∧ (rn T N lo hi k v p).2 ≤ N
  | 0, v, p, h => ⟨Nat.le_refl _, h⟩
  | k + 1, v, p, h => by
    by_cases c : rc T N lo hi (k + 1) v p
    · rw [rn_t (by omega) c]
      have := rn_p (T := T) (N := N) (lo := lo) (hi := hi) (k := k + 1 - 1) (v := v + (T p - 48) * uw (k + 1)) (p := p + 1) c.1
      exact ⟨by omega, this.2⟩
    · rw [rn_f (by omega) c]
      exact ⟨Nat.le_refl _, h⟩
theorem rn_v {T : Nat → Nat} {N lo hi r : Nat} : ∀ {k v p : Nat}, (k = 0 → lo ≤ v ∧ v ≤ hi) → (rn T N lo hi k v p).1 = some r → lo ≤ r ∧ r ≤ hi
  | 0, v, p, h, e => by
    have := Option.some.inj e
    rw [← this]
    exact h rfl
  | k + 1, v, p, h, e => by
    by_cases c : rc T N lo hi (k + 1) v p
    · rw [rn_t (by omega) c] at e
      refine rn_v (fun e0 => ?_) e
      have hk : k = 0 := by omega
      subst hk
      obtain ⟨-, -, -, c1, c2⟩ := c
      have u1 : uw (0 + 1) = 1 := rfl
      rw [u1] at c1 c2 ⊢
      exact ⟨by omega, c1⟩
    · rw [rn_f (by omega) c] at e
      cases e
theorem rn_some {T : Nat → Nat} {N lo hi k : Nat} (hk : 1 ≤ k) {p r : Nat} (e : (rn T N lo hi k 0 p).1 = some r) : lo ≤ r ∧ r ≤ hi := rn_v (fun e0 => by omega) e
def bd (r : Option Nat × Nat) (k : Nat → Nat → Option (Nat × Nat × Nat) × Nat) : Option (Nat × Nat × Nat) × Nat := match r.1 with
  | none => (none, r.2)
  | some a => k a r.2
theorem bd_n {r : Option Nat × Nat} {k : Nat → Nat → Option (Nat × Nat × Nat) × Nat} (h : r.1 = none) : bd r k = (none, r.2) := by unfold bd; rw [h]
theorem bd_s {r : Option Nat × Nat} {k : Nat → Nat → Option (Nat × Nat × Nat) × Nat} {a : Nat} (h : r.1 = some a) : bd r k = k a r.2 := by unfold bd; rw [h]
abbrev rTn (T : Nat → Nat) (N p : Nat) := rn T N 0 5 1 0 p
abbrev rRu (T : Nat → Nat) (N p : Nat) := rn T N 0 4 1 0 p
abbrev rSh (T : Nat → Nat) (N p : Nat) := rn T N 0 11 2 0 p
abbrev r9 (T : Nat → Nat) (N p : Nat) := rn T N 0 9 1 0 p
/-- a command, and where the reading stands then -/
def rcm (T : Nat → Nat) (N p : Nat) : Option (Nat × Nat × Nat) × Nat :=
  if T p = 116 then (some (0, 0, 0), p + 1)
  else if T p = 114 then bd (rTn T N (p + 1)) fun a q => bd (rTn T N q) fun b q => bd (rn T N 1 20 2 0 q) fun c q => (some (a, b, c), q)
  else if T p = 117 then bd (rTn T N (p + 1)) fun a q => (some (a, 0, 0), q)
  else if T p = 119 then bd (rTn T N (p + 1)) fun a q => bd (rn T N 0 999999 6 0 q) fun b q => bd (r9 T N q) fun c q => (some (a, b, c), q)
  else if T p = 107 then bd (rRu T N (p + 1)) fun a q => bd (rSh T N q) fun b q => (some (a, b, 0), q)
  else if T p = 108 then bd (rSh T N (p + 1)) fun a q => (some (a, 0, 0), q)
  else if T p = 103 then bd (rRu T N (p + 1)) fun a q => bd (r9 T N q) fun b q => (some (a, b, 0), q)
  else if T p = 99 then bd (rSh T N (p + 1)) fun a q => bd (r9 T N q) fun b q => (some (a, b, 0), q)
  else if T p = 104 then bd (rn T N 1 60 2 0 (p + 1)) fun a q => (some (a, 0, 0), q)
  else (none, p)
theorem rcm_t {T : Nat → Nat} {N p : Nat} (h : T p = 116) : rcm T N p = (some (0, 0, 0), p + 1) := by unfold rcm; rw [if_pos h]
theorem rcm_r {T : Nat → Nat} {N p : Nat} (h : T p = 114) : rcm T N p = bd (rTn T N (p + 1)) fun a q => bd (rTn T N q) fun b q => bd (rn T N 1 20 2 0 q) fun c q => (some (a, b, c), q) := by unfold rcm; rw [if_neg (by omega), if_pos h]
theorem rcm_u {T : Nat → Nat} {N p : Nat} (h : T p = 117) : rcm T N p = bd (rTn T N (p + 1)) fun a q => (some (a, 0, 0), q) := by unfold rcm; rw [if_neg (by omega), if_neg (by omega), if_pos h]
theorem rcm_w {T : Nat → Nat} {N p : Nat} (h : T p = 119) : rcm T N p = bd (rTn T N (p + 1)) fun a q => bd (rn T N 0 999999 6 0 q) fun b q => bd (r9 T N q) fun c q => (some (a, b, c), q) := by unfold rcm; rw [if_neg (by omega), if_neg (by omega), if_neg (by omega), if_pos h]
theorem rcm_k {T : Nat → Nat} {N p : Nat} (h : T p = 107) : rcm T N p = bd (rRu T N (p + 1)) fun a q => bd (rSh T N q) fun b q => (some (a, b, 0), q) := by unfold rcm; rw [if_neg (by omega), if_neg (by omega), if_neg (by omega), if_neg (by omega), if_pos h]
theorem rcm_l {T : Nat → Nat} {N p : Nat} (h : T p = 108) : rcm T N p = bd (rSh T N (p + 1)) fun a q => (some (a, 0, 0), q) := by unfold rcm; rw [if_neg (by omega), if_neg (by omega), if_neg (by omega), if_neg (by omega), if_neg (by omega), if_pos h]
theorem rcm_g {T : Nat → Nat} {N p : Nat} (h : T p = 103) : rcm T N p = bd (rRu T N (p + 1)) fun a q => bd (r9 T N q) fun b q => (some (a, b, 0), q) := by unfold rcm; rw [if_neg (by omega), if_neg (by omega), if_neg (by omega), if_neg (by omega), if_neg (by omega), if_neg (by omega), if_pos h]
theorem rcm_c {T : Nat → Nat} {N p : Nat} (h : T p = 99) : rcm T N p = bd (rSh T N (p + 1)) fun a q => bd (r9 T N q) fun b q => (some (a, b, 0), q) := by unfold rcm; rw [if_neg (by omega), if_neg (by omega), if_neg (by omega), if_neg (by omega), if_neg (by omega), if_neg (by omega), if_neg (by omega), if_pos h]
theorem rcm_h {T : Nat → Nat} {N p : Nat} (h : T p = 104) : rcm T N p = bd (rn T N 1 60 2 0 (p + 1)) fun a q => (some (a, 0, 0), q) := by unfold rcm; rw [if_neg (by omega), if_neg (by omega), if_neg (by omega), if_neg (by omega), if_neg (by omega), if_neg (by omega), if_neg (by omega), if_neg (by omega), if_pos h]
theorem rcm_n {T : Nat → Nat} {N p : Nat} (h : ¬ T p = 116 ∧ ¬ T p = 114 ∧ ¬ T p = 117 ∧ ¬ T p = 119 ∧ ¬ T p = 107 ∧ ¬ T p = 108 ∧ ¬ T p = 103 ∧ ¬ T p = 99 ∧ ¬ T p = 104) : rcm T N p = (none, p) := by unfold rcm; rw [if_neg (by omega), if_neg (by omega), if_neg (by omega), if_neg (by omega), if_neg (by omega), if_neg (by omega), if_neg (by omega), if_neg (by omega), if_neg (by omega)]
/-- the class's reader -/
abbrev txo (X : Nat) (sz at' lt : Int32) : AE := .inr (0, [.ref (X + 1), .ref (X + 2), .int sz, .int at', .int lt])
abbrev aC (f : Nat → Int32) : AE := .inl (2, 120, .inl f)
abbrev a3 (g : Nat → Int32) : AE := .inl (0, 3, .inl g)
def tx (X : Nat) (T : Nat → Nat) (N p : Nat) (lt : Int32) (f g : Nat → Int32) (h : AH) : Prop := (N ≤ 120 ∧ p ≤ N) ∧ h X = some (txo X (nI N) (nI p) lt) ∧ h (X + 1) = some (aC f) ∧ h (X + 2) = some (a3 g) ∧ ∀ i, i < N → f i = nI (T i) ∧ T i < 256
/-- the heap with the reader at p -/
def tH (h : AH) (X N p : Nat) (lt : Int32) (g : Nat → Int32) : AH := up (up h X (txo X (nI N) (nI p) lt)) (X + 2) (a3 g)
theorem tH_id {X N p : Nat} {T : Nat → Nat} {lt : Int32} {f g : Nat → Int32} {h : AH} (ht : tx X T N p lt f g h) : tH h X N p lt g = h := by
  obtain ⟨-, h1, h2, h3, -⟩ := ht
  unfold tH
  rw [up_id h1, up_id h3]
theorem tH_tH (h : AH) (X N p q : Nat) (lt lt' : Int32) (g g' : Nat → Int32) : tH (tH h X N p lt g) X N q lt' g' = tH h X N q lt' g' := by
  unfold tH
  rw [up_3 (by omega), up_3 (by omega)]
theorem tH_tx {X N p q : Nat} {T : Nat → Nat} {lt lt' : Int32} {f g : Nat → Int32} {h : AH} (ht : tx X T N p lt f g h) (g' : Nat → Int32) (hq : q ≤ N) : tx X T N q lt' f g' (tH h X N q lt' g') := by
  obtain ⟨h0, h1, h2, h3, h4⟩ := ht
  unfold tH
  exact ⟨⟨h0.1, hq⟩, by rw [up_n _ (by omega)]; exact up_s _ _ _, by rw [up_n _ (by omega), up_n _ (by omega)]; exact h2, up_s _ _ _, h4⟩
theorem tH_n {h : AH} {X N p a : Nat} {lt : Int32} {g : Nat → Int32} (h0 : ¬ a = X) (h2 : ¬ a = X + 2) : tH h X N p lt g a = h a := by
  unfold tH
  rw [up_n _ h2, up_n _ h0]
/-- only the object -/
theorem tH_ob {X N p q : Nat} {T : Nat → Nat} {lt lt' : Int32} {f g : Nat → Int32} {h : AH} (ht : tx X T N p lt f g h) : up h X (txo X (nI N) (nI q) lt') = tH h X N q lt' g := by
  unfold tH
  exact (up_id (by rw [up_n _ (by omega)]; exact ht.2.2.2.1)).symm
theorem tH_nu {X N p : Nat} {T : Nat → Nat} {lt : Int32} {f g : Nat → Int32} {h : AH} (ht : tx X T N p lt f g h) (g' : Nat → Int32) : up h (X + 2) (a3 g') = tH h X N p lt g' := by
  unfold tH
  rw [up_id ht.2.1]
def stn (g : Nat → Int32) (wh : Nat) : Option Nat → (Nat → Int32)
  | none => g
  | some v => upd g wh (nI v)
def ar (L : Nat) : Nat := if L = 116 then 0 else if L = 117 ∨ L = 108 ∨ L = 104 then 1 else if L = 114 ∨ L = 119 then 3 else 2
def agr (k : Nat) (g : Nat → Int32) (a b c : Nat) : Prop := (1 ≤ k → g 0 = nI a) ∧ (2 ≤ k → g 1 = nI b) ∧ (3 ≤ k → g 2 = nI c)
theorem nar_c {k : Nat} (h : k < 256) : narrow .char (.int (nI k)) = .int (nI k) := by
  have key : ((List.range 256).all fun k => decide (narrow .char (.int (nI k)) = .int (nI k))) = true := by decide +kernel
  exact of_decide_eq_true (List.all_eq_true.mp key k (List.mem_range.mpr h))
theorem fit_c {k : Nat} (h : k < 256) : fits .char (.int (nI k)) = true := by
  have key : ((List.range 256).all fun k => fits .char (.int (nI k))) = true := by decide +kernel
  exact List.all_eq_true.mp key k (List.mem_range.mpr h)
def ona : Option Nat → Nat
  | none => NO
  | some v => v
theorem dX0_readNumber_0 : decode cX0_readNumber 0 = .ok (.iconst 1, 1) := by decide +kernel
theorem dX0_readNumber_1 : decode cX0_readNumber 1 = .ok (.istore 5, 2) := by decide +kernel
theorem dX0_readNumber_3 : decode cX0_readNumber 3 = .ok (.iconst 1, 1) := by decide +kernel
theorem dX0_readNumber_4 : decode cX0_readNumber 4 = .ok (.istore 6, 2) := by decide +kernel
theorem dX0_readNumber_6 : decode cX0_readNumber 6 = .ok (.iload 6, 2) := by decide +kernel
theorem dX0_readNumber_8 : decode cX0_readNumber 8 = .ok (.iload_n 2, 1) := by decide +kernel
theorem dX0_readNumber_9 : decode cX0_readNumber 9 = .ok (.if_icmp .ge 16, 3) := by decide +kernel
theorem dX0_readNumber_12 : decode cX0_readNumber 12 = .ok (.iload 5, 2) := by decide +kernel
theorem dX0_readNumber_14 : decode cX0_readNumber 14 = .ok (.bipush 10, 2) := by decide +kernel
theorem dX0_readNumber_16 : decode cX0_readNumber 16 = .ok (.imul, 1) := by decide +kernel
theorem dX0_readNumber_17 : decode cX0_readNumber 17 = .ok (.istore 5, 2) := by decide +kernel
theorem dX0_readNumber_19 : decode cX0_readNumber 19 = .ok (.iinc 6 1, 3) := by decide +kernel
theorem dX0_readNumber_22 : decode cX0_readNumber 22 = .ok (.goto (-16), 3) := by decide +kernel
theorem dX0_readNumber_25 : decode cX0_readNumber 25 = .ok (.iconst 0, 1) := by decide +kernel
theorem dX0_readNumber_26 : decode cX0_readNumber 26 = .ok (.istore 6, 2) := by decide +kernel
theorem dX0_readNumber_28 : decode cX0_readNumber 28 = .ok (.iconst 0, 1) := by decide +kernel
theorem dX0_readNumber_29 : decode cX0_readNumber 29 = .ok (.istore 7, 2) := by decide +kernel
theorem dX0_readNumber_31 : decode cX0_readNumber 31 = .ok (.iload 7, 2) := by decide +kernel
theorem dX0_readNumber_33 : decode cX0_readNumber 33 = .ok (.iload_n 2, 1) := by decide +kernel
theorem dX0_readNumber_34 : decode cX0_readNumber 34 = .ok (.if_icmp .ge 102, 3) := by decide +kernel
theorem dX0_readNumber_37 : decode cX0_readNumber 37 = .ok (.aload_n 0, 1) := by decide +kernel
theorem dX0_readNumber_38 : decode cX0_readNumber 38 = .ok (.getfield 23, 3) := by decide +kernel
theorem dX0_readNumber_41 : decode cX0_readNumber 41 = .ok (.aload_n 0, 1) := by decide +kernel
theorem dX0_readNumber_42 : decode cX0_readNumber 42 = .ok (.getfield 19, 3) := by decide +kernel
theorem dX0_readNumber_45 : decode cX0_readNumber 45 = .ok (.if_icmp .ge 22, 3) := by decide +kernel
theorem dX0_readNumber_48 : decode cX0_readNumber 48 = .ok (.aload_n 0, 1) := by decide +kernel
theorem dX0_readNumber_49 : decode cX0_readNumber 49 = .ok (.getfield 9, 3) := by decide +kernel
theorem dX0_readNumber_52 : decode cX0_readNumber 52 = .ok (.aload_n 0, 1) := by decide +kernel
theorem dX0_readNumber_53 : decode cX0_readNumber 53 = .ok (.getfield 23, 3) := by decide +kernel
theorem dX0_readNumber_56 : decode cX0_readNumber 56 = .ok (.caload, 1) := by decide +kernel
theorem dX0_readNumber_57 : decode cX0_readNumber 57 = .ok (.bipush 48, 2) := by decide +kernel
theorem dX0_readNumber_59 : decode cX0_readNumber 59 = .ok (.bipush 57, 2) := by decide +kernel
theorem dX0_readNumber_61 : decode cX0_readNumber 61 = .ok (.invokestatic 53, 3) := by decide +kernel
theorem dX0_readNumber_64 : decode cX0_readNumber 64 = .ok (.ifCond .ne 5, 3) := by decide +kernel
theorem dX0_readNumber_67 : decode cX0_readNumber 67 = .ok (.iconst 0, 1) := by decide +kernel
theorem dX0_readNumber_68 : decode cX0_readNumber 68 = .ok (.ireturn, 1) := by decide +kernel
theorem dX0_readNumber_69 : decode cX0_readNumber 69 = .ok (.iload 6, 2) := by decide +kernel
theorem dX0_readNumber_71 : decode cX0_readNumber 71 = .ok (.aload_n 0, 1) := by decide +kernel
theorem dX0_readNumber_72 : decode cX0_readNumber 72 = .ok (.getfield 9, 3) := by decide +kernel
theorem dX0_readNumber_75 : decode cX0_readNumber 75 = .ok (.aload_n 0, 1) := by decide +kernel
theorem dX0_readNumber_76 : decode cX0_readNumber 76 = .ok (.getfield 23, 3) := by decide +kernel
theorem dX0_readNumber_79 : decode cX0_readNumber 79 = .ok (.caload, 1) := by decide +kernel
theorem dX0_readNumber_80 : decode cX0_readNumber 80 = .ok (.bipush 48, 2) := by decide +kernel
theorem dX0_readNumber_82 : decode cX0_readNumber 82 = .ok (.isub, 1) := by decide +kernel
theorem dX0_readNumber_83 : decode cX0_readNumber 83 = .ok (.iload 5, 2) := by decide +kernel
theorem dX0_readNumber_85 : decode cX0_readNumber 85 = .ok (.imul, 1) := by decide +kernel
theorem dX0_readNumber_86 : decode cX0_readNumber 86 = .ok (.iadd, 1) := by decide +kernel
theorem dX0_readNumber_87 : decode cX0_readNumber 87 = .ok (.istore 8, 2) := by decide +kernel
theorem dX0_readNumber_89 : decode cX0_readNumber 89 = .ok (.iload 8, 2) := by decide +kernel
theorem dX0_readNumber_91 : decode cX0_readNumber 91 = .ok (.iload 4, 2) := by decide +kernel
theorem dX0_readNumber_93 : decode cX0_readNumber 93 = .ok (.if_icmp .gt 14, 3) := by decide +kernel
theorem dX0_readNumber_96 : decode cX0_readNumber 96 = .ok (.iload 8, 2) := by decide +kernel
theorem dX0_readNumber_98 : decode cX0_readNumber 98 = .ok (.iload 5, 2) := by decide +kernel
theorem dX0_readNumber_100 : decode cX0_readNumber 100 = .ok (.iadd, 1) := by decide +kernel
theorem dX0_readNumber_101 : decode cX0_readNumber 101 = .ok (.iconst 1, 1) := by decide +kernel
theorem dX0_readNumber_102 : decode cX0_readNumber 102 = .ok (.isub, 1) := by decide +kernel
theorem dX0_readNumber_103 : decode cX0_readNumber 103 = .ok (.iload_n 3, 1) := by decide +kernel
theorem dX0_readNumber_104 : decode cX0_readNumber 104 = .ok (.if_icmp .ge 5, 3) := by decide +kernel
theorem dX0_readNumber_107 : decode cX0_readNumber 107 = .ok (.iconst 0, 1) := by decide +kernel
theorem dX0_readNumber_108 : decode cX0_readNumber 108 = .ok (.ireturn, 1) := by decide +kernel
theorem dX0_readNumber_109 : decode cX0_readNumber 109 = .ok (.iload 8, 2) := by decide +kernel
theorem dX0_readNumber_111 : decode cX0_readNumber 111 = .ok (.istore 6, 2) := by decide +kernel
theorem dX0_readNumber_113 : decode cX0_readNumber 113 = .ok (.iload 5, 2) := by decide +kernel
theorem dX0_readNumber_115 : decode cX0_readNumber 115 = .ok (.bipush 10, 2) := by decide +kernel
theorem dX0_readNumber_117 : decode cX0_readNumber 117 = .ok (.idiv, 1) := by decide +kernel
theorem dX0_readNumber_118 : decode cX0_readNumber 118 = .ok (.istore 5, 2) := by decide +kernel
theorem dX0_readNumber_120 : decode cX0_readNumber 120 = .ok (.aload_n 0, 1) := by decide +kernel
theorem dX0_readNumber_121 : decode cX0_readNumber 121 = .ok (.dup, 1) := by decide +kernel
theorem dX0_readNumber_122 : decode cX0_readNumber 122 = .ok (.getfield 23, 3) := by decide +kernel
theorem dX0_readNumber_125 : decode cX0_readNumber 125 = .ok (.iconst 1, 1) := by decide +kernel
theorem dX0_readNumber_126 : decode cX0_readNumber 126 = .ok (.iadd, 1) := by decide +kernel
theorem dX0_readNumber_127 : decode cX0_readNumber 127 = .ok (.putfield 23, 3) := by decide +kernel
theorem dX0_readNumber_130 : decode cX0_readNumber 130 = .ok (.iinc 7 1, 3) := by decide +kernel
theorem dX0_readNumber_133 : decode cX0_readNumber 133 = .ok (.goto (-102), 3) := by decide +kernel
theorem dX0_readNumber_136 : decode cX0_readNumber 136 = .ok (.aload_n 0, 1) := by decide +kernel
theorem dX0_readNumber_137 : decode cX0_readNumber 137 = .ok (.getfield 15, 3) := by decide +kernel
theorem dX0_readNumber_140 : decode cX0_readNumber 140 = .ok (.iload_n 1, 1) := by decide +kernel
theorem dX0_readNumber_141 : decode cX0_readNumber 141 = .ok (.iload 6, 2) := by decide +kernel
theorem dX0_readNumber_143 : decode cX0_readNumber 143 = .ok (.iastore, 1) := by decide +kernel
theorem dX0_readNumber_144 : decode cX0_readNumber 144 = .ok (.iconst 1, 1) := by decide +kernel
theorem dX0_readNumber_145 : decode cX0_readNumber 145 = .ok (.ireturn, 1) := by decide +kernel
set_option maxRecDepth 100000 in
set_option maxHeartbeats 4000000 in
theorem c_X0_readNumber (l : Launch) (G : GT) (n : Nat) (h : AH) (X N p : Nat) (T : Nat → Nat) (lt : Int32) (f g : Nat → Int32) (hT : tx X T N p lt f g h) (wh w lo hi : Nat) (hwh : wh < 3) (h1 : 1 ≤ w) (h6 : w ≤ 6) (hlo : lo ≤ 1) (hhi : hi ≤ 999999) : Ct l yX0_readNumber cX0_readNumber 9 (some .boolean) 2 0 0 G n h [.ref X, .int (nI wh), .int (nI w), .int (nI lo), .int (nI hi)] (Ri (nI (bp ((rn T N lo hi w 0 p).1.isSome = true))) n (fun h' => h' = tH h X N (rn T N lo hi w 0 p).2 lt (stn g wh (rn T N lo hi w 0 p).1))) := by
  obtain ⟨⟨hN, hpN⟩, hX, hf, hg, hch⟩ := id hT
  refine Ct_of mX0_readNumber.1 (Nat.le_of_ble_eq_true rfl) ?_
  intro p₀ e₀ s₀ m₀ as₀ bl₀ me₀ c₀ C hin
  refine V_Le (L' := [(0, .ref X), (1, .int (nI wh)), (2, .int (nI w)), (3, .int (nI lo)), (4, .int (nI hi))]) rfl ?_
  refine V_iconst 1 C dX0_readNumber_0 rfl ic1 ?_
  refine V_istore 3 C dX0_readNumber_1 rfl (by decide) (L' := [(0, _), (1, _), (2, _), (3, _), (4, _), (5, _)]) rfl ?_
  refine V_iconst 4 C dX0_readNumber_3 rfl ic1 ?_
  refine V_istore 6 C dX0_readNumber_4 rfl (by decide) (L' := [(0, _), (1, _), (2, _), (3, _), (4, _), (5, _), (6, _)]) rfl ?_
  have J6 : ∀ (fuel : Nat) (i : Nat) (hi1 : 1 ≤ i) (hiw0 : i ≤ w), w - i < fuel → V p₀ l e₀ (rmD 2 0 0) s₀ m₀ as₀ bl₀ me₀ c₀ (MQ bl₀ (Po G (Ri (nI (bp ((rn T N lo hi w 0 p).1.isSome = true))) n (fun h' => h' = tH h X N (rn T N lo hi w 0 p).2 lt (stn g wh (rn T N lo hi w 0 p).1)))) as₀ s₀ 0 0 (rg G)) G 9 0 0 n h 6 [(0, .ref X), (1, .int (nI wh)), (2, .int (nI w)), (3, .int (nI lo)), (4, .int (nI hi)), (5, .int (nI (uw i))), (6, .int (nI i))] [] := by
    intro fuel
    induction fuel with
    | zero => intro i hi1 hiw0 hf; omega
    | succ fuel ih6 =>
      intro i hi1 hiw0 hf
      have hu : uw i ≤ 100000 := uw_le (by omega)
      refine V_iload 8 C dX0_readNumber_6 rfl rfl ?_
      refine V_iload_n 9 C dX0_readNumber_8 rfl rfl ?_
      refine V_icmp_geN 25 12 C dX0_readNumber_9 (by decide) rfl (by omega) (by omega) (fun c9 => ?_) (fun c9 => ?_)
      · have hiw : i = w := by omega
        rw [hiw]
        refine V_iconst 26 C dX0_readNumber_25 rfl ic0 ?_
        refine V_istore 28 C dX0_readNumber_26 rfl (by decide) (L' := [(0, _), (1, _), (2, _), (3, _), (4, _), (5, _), (6, _)]) rfl ?_
        refine V_iconst 29 C dX0_readNumber_28 rfl ic0 ?_
        refine V_istore 31 C dX0_readNumber_29 rfl (by decide) (L' := [(0, _), (1, _), (2, _), (3, _), (4, _), (5, _), (6, _), (7, _)]) rfl ?_
        have J31 : ∀ (fuel : Nat) (i v p1 : Nat) (hi2 : i ≤ w) (hp1 : p1 ≤ N) (hv : v ≤ 999999) (hr : rn T N lo hi (w - i) v p1 = rn T N lo hi w 0 p), w - i < fuel → V p₀ l e₀ (rmD 2 0 0) s₀ m₀ as₀ bl₀ me₀ c₀ (MQ bl₀ (Po G (Ri (nI (bp ((rn T N lo hi w 0 p).1.isSome = true))) n (fun h' => h' = tH h X N (rn T N lo hi w 0 p).2 lt (stn g wh (rn T N lo hi w 0 p).1)))) as₀ s₀ 0 0 (rg G)) G 9 0 0 n (tH h X N p1 lt g) 31 [(0, .ref X), (1, .int (nI wh)), (2, .int (nI w)), (3, .int (nI lo)), (4, .int (nI hi)), (5, .int (nI (uw (w - i)))), (6, .int (nI v)), (7, .int (nI i))] [] := by
          intro fuel
          induction fuel with
          | zero => intro i v p1 hi2 hp1 hv hr hf; omega
          | succ fuel ih31 =>
            intro i v p1 hi2 hp1 hv hr hf
            have hu : uw (w - i) ≤ 100000 := uw_le (by omega)
            have hTA : tx X T N p1 lt f g (tH h X N p1 lt g) := tH_tx hT g (by omega)
            obtain ⟨⟨hNA, hpNA⟩, hXA, hfA, hgA, hchA⟩ := id hTA
            refine V_iload 33 C dX0_readNumber_31 rfl rfl ?_
            refine V_iload_n 34 C dX0_readNumber_33 rfl rfl ?_
            refine V_icmp_geN 136 37 C dX0_readNumber_34 (by decide) rfl (by omega) (by omega) (fun c34 => ?_) (fun c34 => ?_)
            · have e1 := (rn_0 (show w - i = 0 by omega)).symm.trans hr
              refine V_aload_n 137 C dX0_readNumber_136 rfl rfl ?_
              refine V_get (k := 1) 140 C dX0_readNumber_137 rfl fcX0 tw213 (by decide) rfl hXA rfl ?_
              refine V_iload_n 141 C dX0_readNumber_140 rfl rfl ?_
              refine V_iload 143 C dX0_readNumber_141 rfl rfl ?_
              refine V_iast (j := wh) 144 C dX0_readNumber_143 rfl hgA rfl (by omega) (by omega) ?_
              refine V_iconst 145 C dX0_readNumber_144 rfl ic1 ?_
              refine V_ireturn C dX0_readNumber_145 rfl (by decide) (by omega) (by omega) ?_
              exact ⟨by rw [← e1]; rfl, rfl, by rw [← e1, tH_nu hTA, tH_tH]; rfl⟩
            · have hwi : 0 < w - i := by omega
              have hup := uw_pos (k := w - i) (by omega)
              refine V_aload_n 38 C dX0_readNumber_37 rfl rfl ?_
              refine V_get (k := 3) 41 C dX0_readNumber_38 rfl fcX0 tw215 (by decide) rfl hXA rfl ?_
              refine V_aload_n 42 C dX0_readNumber_41 rfl rfl ?_
              refine V_get (k := 2) 45 C dX0_readNumber_42 rfl fcX0 tw214 (by decide) rfl hXA rfl ?_
              refine V_icmp_geN 67 48 C dX0_readNumber_45 (by decide) rfl (by omega) (by omega) (fun c45 => ?_) (fun c45 => ?_)
              · have e1 := (rn_f hwi (fun c => by have := c.1; omega)).symm.trans hr
                refine V_iconst 68 C dX0_readNumber_67 rfl ic0 ?_
                refine V_ireturn C dX0_readNumber_68 rfl (by decide) (by omega) (by omega) ?_
                exact ⟨by rw [← e1]; rfl, rfl, by rw [← e1]; rfl⟩
              · obtain ⟨hf1, hT1⟩ := hch p1 (by omega)
                refine V_aload_n 49 C dX0_readNumber_48 rfl rfl ?_
                refine V_get (k := 0) 52 C dX0_readNumber_49 rfl fcX0 tw212 (by decide) rfl hXA rfl ?_
                refine V_aload_n 53 C dX0_readNumber_52 rfl rfl ?_
                refine V_get (k := 3) 56 C dX0_readNumber_53 rfl fcX0 tw215 (by decide) rfl hXA rfl ?_
                refine V_cald (j := p1) 57 C dX0_readNumber_56 rfl hfA rfl (by omega) (by omega) ?_
                rw [hf1]
                refine V_bipush 59 C dX0_readNumber_57 rfl bip48 ?_
                refine V_bipush 61 C dX0_readNumber_59 rfl bip57 ?_
                refine V_callSN (host := RX9) 64 C dX0_readNumber_61 rfl mX9_inRange (by decide +kernel) (c_X9_inRange l G _ _ _ _ _) rfl rfl (by decide) ⟨by omega, by omega⟩ (Nat.le_of_ble_eq_true rfl) ?_
                rintro _ _ _ ⟨rfl, rfl, rfl⟩
                rw [nI_toInt (show T p1 < 2 ^ 31 by omega), nI_toInt (show 48 < 2 ^ 31 by decide), nI_toInt (show 57 < 2 ^ 31 by decide)]
                refine V_if_neB 69 67 C dX0_readNumber_64 (by decide) rfl  (fun c64 => ?_) (fun c64 => ?_)
                · have hz : (T p1 - 48) * uw (w - i) ≤ 9 * 100000 := Nat.mul_le_mul (by omega) hu
                  refine V_iload 71 C dX0_readNumber_69 rfl rfl ?_
                  refine V_aload_n 72 C dX0_readNumber_71 rfl rfl ?_
                  refine V_get (k := 0) 75 C dX0_readNumber_72 rfl fcX0 tw212 (by decide) rfl hXA rfl ?_
                  refine V_aload_n 76 C dX0_readNumber_75 rfl rfl ?_
                  refine V_get (k := 3) 79 C dX0_readNumber_76 rfl fcX0 tw215 (by decide) rfl hXA rfl ?_
                  refine V_cald (j := p1) 80 C dX0_readNumber_79 rfl hfA rfl (by omega) (by omega) ?_
                  rw [hf1]
                  refine V_bipush 82 C dX0_readNumber_80 rfl bip48 ?_
                  refine V_isubN 83 C dX0_readNumber_82 rfl (by omega) ?_
                  refine V_iload 85 C dX0_readNumber_83 rfl rfl ?_
                  refine V_imulN 86 C dX0_readNumber_85 rfl  ?_
                  refine V_iaddN 87 C dX0_readNumber_86 rfl  ?_
                  refine V_istore 89 C dX0_readNumber_87 rfl (by decide) (L' := [(0, _), (1, _), (2, _), (3, _), (4, _), (5, _), (6, _), (7, _), (8, _)]) rfl ?_
                  refine V_iload 91 C dX0_readNumber_89 rfl rfl ?_
                  refine V_iload 93 C dX0_readNumber_91 rfl rfl ?_
                  refine V_icmp_gtN 107 96 C dX0_readNumber_93 (by decide) rfl (by omega) (by omega) (fun c93 => ?_) (fun c93 => ?_)
                  · have e1 := (rn_f hwi (fun c => by have := c.2; omega)).symm.trans hr
                    refine V_iconst 108 C dX0_readNumber_107 rfl ic0 ?_
                    refine V_ireturn C dX0_readNumber_108 rfl (by decide) (by omega) (by omega) ?_
                    exact ⟨by rw [← e1]; rfl, rfl, by rw [← e1]; rfl⟩
                  · refine V_iload 98 C dX0_readNumber_96 rfl rfl ?_
                    refine V_iload 100 C dX0_readNumber_98 rfl rfl ?_
                    refine V_iaddN 101 C dX0_readNumber_100 rfl  ?_
                    refine V_iconst 102 C dX0_readNumber_101 rfl ic1 ?_
                    refine V_isubN 103 C dX0_readNumber_102 rfl (by omega) ?_
                    refine V_iload_n 104 C dX0_readNumber_103 rfl rfl ?_
                    refine V_icmp_geN 109 107 C dX0_readNumber_104 (by decide) rfl (by omega) (by omega) (fun c104 => ?_) (fun c104 => ?_)
                    · have hrc : rc T N lo hi (w - i) v p1 := ⟨by omega, by omega, by omega, by omega, by omega⟩
                      refine V_iload 111 C dX0_readNumber_109 rfl rfl ?_
                      refine V_istore 113 C dX0_readNumber_111 rfl (by decide) (L' := [(0, _), (1, _), (2, _), (3, _), (4, _), (5, _), (6, _), (7, _), (8, _)]) rfl ?_
                      refine V_iload 115 C dX0_readNumber_113 rfl rfl ?_
                      refine V_bipush 117 C dX0_readNumber_115 rfl bip10 ?_
                      refine V_idivN 118 C dX0_readNumber_117 rfl (by omega) (by omega) (by omega) ?_
                      refine V_istore 120 C dX0_readNumber_118 rfl (by decide) (L' := [(0, _), (1, _), (2, _), (3, _), (4, _), (5, _), (6, _), (7, _), (8, _)]) rfl ?_
                      refine V_aload_n 121 C dX0_readNumber_120 rfl rfl ?_
                      refine V_dup 122 C dX0_readNumber_121 rfl rfl ?_
                      refine V_get (k := 3) 125 C dX0_readNumber_122 rfl fcX0 tw215 (by decide) rfl hXA rfl ?_
                      refine V_iconst 126 C dX0_readNumber_125 rfl ic1 ?_
                      refine V_iaddN 127 C dX0_readNumber_126 rfl  ?_
                      refine V_put (fs' := [_, _, _, _, _]) (k := 3) 130 C dX0_readNumber_127 rfl fcX0 tw215 (by decide) rfl rfl hXA rfl rfl (Nat.le_of_ble_eq_true rfl) rfl ?_
                      refine V_iinc 133 C dX0_readNumber_130 rfl (by decide) rfl (ii1 _) (L' := [(0, _), (1, _), (2, _), (3, _), (4, _), (5, _), (6, _), (7, _), (8, _)]) rfl ?_
                      refine V_goto 31 C dX0_readNumber_133 (by decide) ?_
                      refine V_L [0, 1, 2, 3, 4, 5, 6, 7] rfl ?_
                      have e1 : rn T N lo hi (w - (i + 1)) (v + (T p1 - 48) * uw (w - i)) (p1 + 1) = rn T N lo hi w 0 p := (rn_t (by omega) hrc).symm.trans hr
                      rw [tH_ob hTA, tH_tH, show uw (w - i) / 10 = uw (w - (i + 1)) from by have := uw_d (w - (i + 1)); rw [show w - (i + 1) + 1 = w - i from by omega] at this; exact this]
                      exact ih31 (i + 1) _ (p1 + 1) (by omega) (by omega) (by omega) e1 (by omega)
                    · have e1 := (rn_f hwi (fun c => by have := c.2; omega)).symm.trans hr
                      refine V_iconst 108 C dX0_readNumber_107 rfl ic0 ?_
                      refine V_ireturn C dX0_readNumber_108 rfl (by decide) (by omega) (by omega) ?_
                      exact ⟨by rw [← e1]; rfl, rfl, by rw [← e1]; rfl⟩
                · have e1 := (rn_f hwi (fun c => by have := c.2; omega)).symm.trans hr
                  refine V_iconst 68 C dX0_readNumber_67 rfl ic0 ?_
                  refine V_ireturn C dX0_readNumber_68 rfl (by decide) (by omega) (by omega) ?_
                  exact ⟨by rw [← e1]; rfl, rfl, by rw [← e1]; rfl⟩
        refine V_L [0, 1, 2, 3, 4, 5, 6, 7] rfl ?_
        have J := J31 (w + 1) 0 0 p (by omega) (by omega) (by omega) rfl (by omega)
        rw [tH_id hT] at J
        exact J
      · refine V_iload 14 C dX0_readNumber_12 rfl rfl ?_
        refine V_bipush 16 C dX0_readNumber_14 rfl bip10 ?_
        refine V_imulN 17 C dX0_readNumber_16 rfl  ?_
        refine V_istore 19 C dX0_readNumber_17 rfl (by decide) (L' := [(0, _), (1, _), (2, _), (3, _), (4, _), (5, _), (6, _)]) rfl ?_
        refine V_iinc 22 C dX0_readNumber_19 rfl (by decide) rfl (ii1 _) (L' := [(0, _), (1, _), (2, _), (3, _), (4, _), (5, _), (6, _)]) rfl ?_
        refine V_goto 6 C dX0_readNumber_22 (by decide) ?_
        refine V_L [0, 1, 2, 3, 4, 5, 6] rfl ?_
        have e := uw_s hi1
        rw [e]
        exact ih6 (i + 1) (by omega) (by omega) (by omega)
  refine V_L [0, 1, 2, 3, 4, 5, 6] rfl ?_
  exact J6 (w + 1) 1 (by omega) (by omega) (by omega)

theorem dX0_readTown_0 : decode cX0_readTown 0 = .ok (.aload_n 0, 1) := by decide +kernel
theorem dX0_readTown_1 : decode cX0_readTown 1 = .ok (.iload_n 1, 1) := by decide +kernel
theorem dX0_readTown_2 : decode cX0_readTown 2 = .ok (.iconst 1, 1) := by decide +kernel
theorem dX0_readTown_3 : decode cX0_readTown 3 = .ok (.iconst 0, 1) := by decide +kernel
theorem dX0_readTown_4 : decode cX0_readTown 4 = .ok (.iconst 5, 1) := by decide +kernel
theorem dX0_readTown_5 : decode cX0_readTown 5 = .ok (.invokevirtual 42, 3) := by decide +kernel
theorem dX0_readTown_8 : decode cX0_readTown 8 = .ok (.ireturn, 1) := by decide +kernel
set_option maxRecDepth 100000 in
set_option maxHeartbeats 4000000 in
theorem c_X0_readTown (l : Launch) (G : GT) (n : Nat) (h : AH) (X N p : Nat) (T : Nat → Nat) (lt : Int32) (f g : Nat → Int32) (hT : tx X T N p lt f g h) (wh : Nat) (hwh : wh < 3) : Ct l yX0_readTown cX0_readTown 2 (some .boolean) 3 0 0 G n h [.ref X, .int (nI wh)] (Ri (nI (bp ((rTn T N p).1.isSome = true))) n (fun h' => h' = tH h X N (rTn T N p).2 lt (stn g wh (rTn T N p).1))) := by
  obtain ⟨⟨hN, hpN⟩, hX, hf, hg, hch⟩ := id hT
  refine Ct_of mX0_readTown.1 (Nat.le_of_ble_eq_true rfl) ?_
  intro p₀ e₀ s₀ m₀ as₀ bl₀ me₀ c₀ C hin
  refine V_Le (L' := [(0, .ref X), (1, .int (nI wh))]) rfl ?_
  refine V_aload_n 1 C dX0_readTown_0 rfl rfl ?_
  refine V_iload_n 2 C dX0_readTown_1 rfl rfl ?_
  refine V_iconst 3 C dX0_readTown_2 rfl ic1 ?_
  refine V_iconst 4 C dX0_readTown_3 rfl ic0 ?_
  refine V_iconst 5 C dX0_readTown_4 rfl ic5 ?_
  refine V_callV 8 C dX0_readTown_5 rfl mX0_readNumber tw275 fcX0 hX (c_X0_readNumber l G _ _ X N p T lt f g hT wh 1 0 5 hwh (by omega) (by omega) (by omega) (by omega)) rfl rfl (by decide) ⟨by omega, by omega⟩ (Nat.le_of_ble_eq_true rfl) ?_
  rintro _ _ _ ⟨rfl, rfl, rfl⟩
  refine V_ireturn C dX0_readTown_8 rfl (nar_b _) (by omega) (by omega) ?_
  exact ⟨rfl, rfl, rfl⟩

theorem dX0_readRunner_0 : decode cX0_readRunner 0 = .ok (.aload_n 0, 1) := by decide +kernel
theorem dX0_readRunner_1 : decode cX0_readRunner 1 = .ok (.iload_n 1, 1) := by decide +kernel
theorem dX0_readRunner_2 : decode cX0_readRunner 2 = .ok (.iconst 1, 1) := by decide +kernel
theorem dX0_readRunner_3 : decode cX0_readRunner 3 = .ok (.iconst 0, 1) := by decide +kernel
theorem dX0_readRunner_4 : decode cX0_readRunner 4 = .ok (.iconst 4, 1) := by decide +kernel
theorem dX0_readRunner_5 : decode cX0_readRunner 5 = .ok (.invokevirtual 42, 3) := by decide +kernel
theorem dX0_readRunner_8 : decode cX0_readRunner 8 = .ok (.ireturn, 1) := by decide +kernel
set_option maxRecDepth 100000 in
set_option maxHeartbeats 4000000 in
theorem c_X0_readRunner (l : Launch) (G : GT) (n : Nat) (h : AH) (X N p : Nat) (T : Nat → Nat) (lt : Int32) (f g : Nat → Int32) (hT : tx X T N p lt f g h) (wh : Nat) (hwh : wh < 3) : Ct l yX0_readRunner cX0_readRunner 2 (some .boolean) 3 0 0 G n h [.ref X, .int (nI wh)] (Ri (nI (bp ((rRu T N p).1.isSome = true))) n (fun h' => h' = tH h X N (rRu T N p).2 lt (stn g wh (rRu T N p).1))) := by
  obtain ⟨⟨hN, hpN⟩, hX, hf, hg, hch⟩ := id hT
  refine Ct_of mX0_readRunner.1 (Nat.le_of_ble_eq_true rfl) ?_
  intro p₀ e₀ s₀ m₀ as₀ bl₀ me₀ c₀ C hin
  refine V_Le (L' := [(0, .ref X), (1, .int (nI wh))]) rfl ?_
  refine V_aload_n 1 C dX0_readRunner_0 rfl rfl ?_
  refine V_iload_n 2 C dX0_readRunner_1 rfl rfl ?_
  refine V_iconst 3 C dX0_readRunner_2 rfl ic1 ?_
  refine V_iconst 4 C dX0_readRunner_3 rfl ic0 ?_
  refine V_iconst 5 C dX0_readRunner_4 rfl ic4 ?_
  refine V_callV 8 C dX0_readRunner_5 rfl mX0_readNumber tw275 fcX0 hX (c_X0_readNumber l G _ _ X N p T lt f g hT wh 1 0 4 hwh (by omega) (by omega) (by omega) (by omega)) rfl rfl (by decide) ⟨by omega, by omega⟩ (Nat.le_of_ble_eq_true rfl) ?_
  rintro _ _ _ ⟨rfl, rfl, rfl⟩
  refine V_ireturn C dX0_readRunner_8 rfl (nar_b _) (by omega) (by omega) ?_
  exact ⟨rfl, rfl, rfl⟩

theorem dX0_readSheet_0 : decode cX0_readSheet 0 = .ok (.aload_n 0, 1) := by decide +kernel
theorem dX0_readSheet_1 : decode cX0_readSheet 1 = .ok (.iload_n 1, 1) := by decide +kernel
theorem dX0_readSheet_2 : decode cX0_readSheet 2 = .ok (.iconst 2, 1) := by decide +kernel
theorem dX0_readSheet_3 : decode cX0_readSheet 3 = .ok (.iconst 0, 1) := by decide +kernel
theorem dX0_readSheet_4 : decode cX0_readSheet 4 = .ok (.bipush 11, 2) := by decide +kernel
theorem dX0_readSheet_6 : decode cX0_readSheet 6 = .ok (.invokevirtual 42, 3) := by decide +kernel
theorem dX0_readSheet_9 : decode cX0_readSheet 9 = .ok (.ireturn, 1) := by decide +kernel
set_option maxRecDepth 100000 in
set_option maxHeartbeats 4000000 in
theorem c_X0_readSheet (l : Launch) (G : GT) (n : Nat) (h : AH) (X N p : Nat) (T : Nat → Nat) (lt : Int32) (f g : Nat → Int32) (hT : tx X T N p lt f g h) (wh : Nat) (hwh : wh < 3) : Ct l yX0_readSheet cX0_readSheet 2 (some .boolean) 3 0 0 G n h [.ref X, .int (nI wh)] (Ri (nI (bp ((rSh T N p).1.isSome = true))) n (fun h' => h' = tH h X N (rSh T N p).2 lt (stn g wh (rSh T N p).1))) := by
  obtain ⟨⟨hN, hpN⟩, hX, hf, hg, hch⟩ := id hT
  refine Ct_of mX0_readSheet.1 (Nat.le_of_ble_eq_true rfl) ?_
  intro p₀ e₀ s₀ m₀ as₀ bl₀ me₀ c₀ C hin
  refine V_Le (L' := [(0, .ref X), (1, .int (nI wh))]) rfl ?_
  refine V_aload_n 1 C dX0_readSheet_0 rfl rfl ?_
  refine V_iload_n 2 C dX0_readSheet_1 rfl rfl ?_
  refine V_iconst 3 C dX0_readSheet_2 rfl ic2 ?_
  refine V_iconst 4 C dX0_readSheet_3 rfl ic0 ?_
  refine V_bipush 6 C dX0_readSheet_4 rfl bip11 ?_
  refine V_callV 9 C dX0_readSheet_6 rfl mX0_readNumber tw275 fcX0 hX (c_X0_readNumber l G _ _ X N p T lt f g hT wh 2 0 11 hwh (by omega) (by omega) (by omega) (by omega)) rfl rfl (by decide) ⟨by omega, by omega⟩ (Nat.le_of_ble_eq_true rfl) ?_
  rintro _ _ _ ⟨rfl, rfl, rfl⟩
  refine V_ireturn C dX0_readSheet_9 rfl (nar_b _) (by omega) (by omega) ?_
  exact ⟨rfl, rfl, rfl⟩

