/-! THE PAST, AND WHAT THE REFERENCE REMEMBERS -/
section VEXT
variable {p : Program} {l : Launch} {e : Env} {R : Room} {s : State} {m : MethodId} {args : Array Value} {below : List Frame} {meth : Method} {c : Code} {Q : State → Prop} {G : GT} {nL cells slots n pc : Nat} {h : AH} {L : List (Nat × Value)} {st : List Value}
/-- numbers beyond an array's end don't count -/
theorem V_ext {a t N : Nat} {f f' : Nat → Int32} (hh : h a = some (.inl (t, N, .inl f))) (he : ∀ j, j < N → f j = f' j) (kk : V p l e R s m args below meth c Q G nL cells slots n (up h a (.inl (t, N, .inl f'))) pc L st) : V p l e R s m args below meth c Q G nL cells slots n h pc L st := fun H locs ls h1 h2 h3 h4 => by
  have h5 := (h2 a _ hh).1
  have e1 : arrV (G.2.1 t) N (fun j => .int (f j)) = arrV (G.2.1 t) N (fun j => .int (f' j)) := by
    unfold arrV
    congr 2
    funext j
    show Value.int (f j.val) = Value.int (f' j.val)
    rw [he j.val j.isLt]
  have e2 : vp_cell (G.2.1 t) (N, .inl f) = vp_cell (G.2.1 t) (N, .inl f') := e1
  refine kk H locs ls h1 (h2.set hh ?_ (fun _ _ => rfl)) h3 h4
  show H[a]? = some (vp_cell (G.2.1 t) (N, .inl f'))
  rw [← e2]
  exact h5
end VEXT
def pst (P fi c : Nat) (D : Nat → Nat → Nat) (h : AH) : Prop :=
  (fi < 15 ∧ c ≤ 14) ∧ h P = some (.inr (2, [.ref (P + 1), .int (nI fi), .int (nI c)])) ∧
  (∃ f : Nat → Option Nat, h (P + 1) = some (.inl (4, 15, .inr (.inr (.inr (.inr f))))) ∧ ∀ i, i < 15 → f i = some (P + 2 + 32 * i)) ∧
  (∀ j, j < 15 → ∃ z, cty (P + 2 + 32 * j) z h) ∧
  (∀ i, i < c → cty (P + 2 + 32 * ((fi + i) % 15)) (D i) h)
def FP (P : Nat) (h h' : AH) : Prop := ∀ a, (a < P ∨ P + 482 ≤ a) → h' a = h a
theorem pst.fr {P fi c : Nat} {D : Nat → Nat → Nat} {h h' : AH} (hP : pst P fi c D h) (hF : ∀ a, P ≤ a → a < P + 482 → h' a = h a) : pst P fi c D h' := by
  obtain ⟨h1, h2, ⟨f, h3, h4⟩, h5, h6⟩ := hP
  refine ⟨h1, by rw [hF _ (by omega) (by omega)]; exact h2, ⟨f, by rw [hF _ (by omega) (by omega)]; exact h3, h4⟩, fun j hj => ?_, fun i hi => ?_⟩
  · obtain ⟨z, hz⟩ := h5 j hj
    exact ⟨z, hz.fr (fun a g1 g2 => hF a (by omega) (by omega))⟩
  · have := Nat.mod_lt (fi + i) (show 0 < 15 by omega)
    exact (h6 i hi).fr (fun a g1 g2 => hF a (by omega) (by omega))
/-- only the numbers of the past's object -/
theorem pst.ob {P fi c fi' c' : Nat} {D D' : Nat → Nat → Nat} {h : AH} (hP : pst P fi c D h) (hb : fi' < 15 ∧ c' ≤ 14) (hD : ∀ i, i < c' → cty (P + 2 + 32 * ((fi' + i) % 15)) (D' i) h) : pst P fi' c' D' (up h P (.inr (2, [.ref (P + 1), .int (nI fi'), .int (nI c')]))) := by
  obtain ⟨h1, h2, ⟨f, h3, h4⟩, h5, h6⟩ := hP
  refine ⟨hb, up_s _ _ _, ⟨f, by rw [up_n _ (by omega)]; exact h3, h4⟩, fun j hj => ?_, fun i hi => ?_⟩
  · obtain ⟨z, hz⟩ := h5 j hj
    exact ⟨z, hz.fr (fun a g1 g2 => up_n _ (by omega))⟩
  · exact (hD i hi).fr (fun a g1 g2 => up_n _ (by omega))
/-- one more remembered -/
def psC (c : Nat) : Nat := if c = 14 then 14 else c + 1
def psD (c : Nat) (D : Nat → Nat → Nat) (y : Nat → Nat) : Nat → Nat → Nat := fun i => if c = 14 then (if i = 13 then y else D (i + 1)) else (if i = c then y else D i)
def psF (fi c : Nat) : Nat := if c = 14 then (fi + 1) % 15 else fi
/-- before it is kept: the state is in the spare row -/
def pstP (P fi c : Nat) (D : Nat → Nat → Nat) (y : Nat → Nat) (h : AH) : Prop := pst P fi c D h ∧ cty (P + 2 + 32 * ((fi + c) % 15)) y h
theorem pstP.fr {P fi c : Nat} {D : Nat → Nat → Nat} {y : Nat → Nat} {h h' : AH} (hP : pstP P fi c D y h) (hF : ∀ a, P ≤ a → a < P + 482 → h' a = h a) : pstP P fi c D y h' := by
  have := Nat.mod_lt (fi + c) (show 0 < 15 by omega)
  exact ⟨hP.1.fr hF, hP.2.fr (fun a g1 g2 => hF a (by omega) (by omega))⟩
/-- the spare row is written -/
theorem pst.spare {P fi c : Nat} {D : Nat → Nat → Nat} {y : Nat → Nat} {h h' : AH} (hP : pst P fi c D h) (hC : cty (P + 2 + 32 * ((fi + c) % 15)) y h') (hF : FR (P + 2 + 32 * ((fi + c) % 15)) h h') : pstP P fi c D y h' := by
  obtain ⟨⟨h0, h1⟩, h2, ⟨f, h3, h4⟩, h5, h6⟩ := hP
  have hm := Nat.mod_lt (fi + c) (show 0 < 15 by omega)
  have key : ∀ (j : Nat) (z : Nat → Nat), j < 15 → ¬ j = (fi + c) % 15 → cty (P + 2 + 32 * j) z h → cty (P + 2 + 32 * j) z h' := fun j z hj hne hz => hz.fr (fun a g1 g2 => hF a (by omega))
  refine ⟨⟨⟨h0, h1⟩, by rw [hF _ (by omega)]; exact h2, ⟨f, by rw [hF _ (by omega)]; exact h3, h4⟩, fun j hj => ?_, fun i hi => ?_⟩, hC⟩
  · by_cases e : j = (fi + c) % 15
    · rw [e]; exact ⟨_, hC⟩
    · obtain ⟨z, hz⟩ := h5 j hj
      exact ⟨z, key j z hj e hz⟩
  · exact key _ _ (Nat.mod_lt _ (by omega)) (by omega) (h6 i hi)
/-- and kept -/
theorem pstP.keep {P fi c : Nat} {D : Nat → Nat → Nat} {y : Nat → Nat} {h : AH} (hP : pstP P fi c D y h) : pst P (psF fi c) (psC c) (psD c D y) (up h P (.inr (2, [.ref (P + 1), .int (nI (psF fi c)), .int (nI (psC c))]))) := by
  obtain ⟨hp, hy⟩ := hP
  obtain ⟨⟨h0, h1⟩, h2, ⟨f, h3, h4⟩, h5, h6⟩ := id hp
  unfold psF psC psD
  by_cases e : c = 14
  · rw [if_pos e, if_pos e]
    subst e
    refine hp.ob ⟨Nat.mod_lt _ (by omega), by omega⟩ (fun i hi => ?_)
    rw [if_pos rfl, show ((fi + 1) % 15 + i) % 15 = (fi + (i + 1)) % 15 from by omega]
    by_cases e2 : i = 13
    · rw [if_pos e2, e2]; exact hy
    · rw [if_neg e2]; exact h6 (i + 1) (by omega)
  · rw [if_neg e, if_neg e]
    refine hp.ob ⟨h0, by omega⟩ (fun i hi => ?_)
    rw [if_neg e]
    by_cases e2 : i = c
    · rw [if_pos e2, e2]; exact hy
    · rw [if_neg e2]; exact h6 i (by omega)
/-- the reference's diary -/
def dia (c : Nat) (D : Nat → Nat → Nat) (g : Nat → Int32) : Prop := ∀ i, i < c → ∀ k, k < 130 → g (130 * i + k) = nI (D i k)
theorem dia_ps {c : Nat} {D : Nat → Nat → Nat} {y : Nat → Nat} {g1 g2 : Nat → Int32} (c' : Nat) (h1 : dia c' (if c = 14 then fun i => D (i + 1) else D) g1) (hc : psC c = c' + 1) (hc14 : c ≤ 14) (h2 : ∀ k, k < 130 → g2 (130 * c' + k) = nI (y k)) (h3 : ∀ j, j < 1820 → (j < 130 * c' ∨ 130 * c' + 130 ≤ j) → g2 j = g1 j) : dia (psC c) (psD c D y) g2 := fun i hi k hk => by
  unfold psC at hc hi
  unfold psD
  by_cases e : c = 14
  · rw [if_pos e] at hi hc h1 ⊢
    have hc' : c' = 13 := by omega
    subst hc'
    by_cases e2 : i = 13
    · rw [if_pos e2, e2]; exact h2 k hk
    · rw [if_neg e2, h3 _ (by omega) (by omega)]; exact h1 i (by omega) k hk
  · rw [if_neg e] at hi hc h1 ⊢
    have hc' : c' = c := by omega
    subst hc'
    by_cases e2 : i = c'
    · rw [if_pos e2, e2]; exact h2 k hk
    · rw [if_neg e2, h3 _ (by omega) (by omega)]; exact h1 i (by omega) k hk
theorem dX3_forget_0 : decode cX3_forget 0 = .ok (.aload_n 0, 1) := by decide +kernel
theorem dX3_forget_1 : decode cX3_forget 1 = .ok (.iconst 0, 1) := by decide +kernel
theorem dX3_forget_2 : decode cX3_forget 2 = .ok (.putfield 18, 3) := by decide +kernel
theorem dX3_forget_5 : decode cX3_forget 5 = .ok (.return_, 1) := by decide +kernel
set_option maxRecDepth 100000 in
set_option maxHeartbeats 4000000 in
theorem c_X3_forget (l : Launch) (G : GT) (n : Nat) (h : AH) (P fi k : Nat) (D : Nat → Nat → Nat) (hP : pst P fi k D h) : Ct l yX3_forget cX3_forget 1 none 1 0 0 G n h [.ref P] (Rv n (fun h' => h' = up h P (.inr (2, [.ref (P + 1), .int (nI fi), .int (nI 0)])))) := by
  obtain ⟨⟨hfi, hk⟩, hop, ⟨fA, hfA, hA⟩, hJ, hD⟩ := id hP
  refine Ct_of mX3_forget.1 (Nat.le_of_ble_eq_true rfl) ?_
  intro p₀ e₀ s₀ m₀ as₀ bl₀ me₀ c₀ C hin
  refine V_Le (L' := [(0, .ref P)]) rfl ?_
  refine V_aload_n 1 C dX3_forget_0 rfl rfl ?_
  refine V_iconst 2 C dX3_forget_1 rfl ic0 ?_
  refine V_put (fs' := [_, _, _]) (k := 2) 5 C dX3_forget_2 rfl fcX3 tw183 (by decide) rfl rfl hop rfl rfl (Nat.le_of_ble_eq_true rfl) rfl ?_
  refine V_return C dX3_forget_5 rfl (by omega) (by omega) ?_
  exact ⟨rfl, rfl, rfl⟩

theorem dX3_prepare_0 : decode cX3_prepare 0 = .ok (.aload_n 0, 1) := by decide +kernel
theorem dX3_prepare_1 : decode cX3_prepare 1 = .ok (.getfield 13, 3) := by decide +kernel
theorem dX3_prepare_4 : decode cX3_prepare 4 = .ok (.aload_n 0, 1) := by decide +kernel
theorem dX3_prepare_5 : decode cX3_prepare 5 = .ok (.getfield 22, 3) := by decide +kernel
theorem dX3_prepare_8 : decode cX3_prepare 8 = .ok (.aload_n 0, 1) := by decide +kernel
theorem dX3_prepare_9 : decode cX3_prepare 9 = .ok (.getfield 18, 3) := by decide +kernel
theorem dX3_prepare_12 : decode cX3_prepare 12 = .ok (.iadd, 1) := by decide +kernel
theorem dX3_prepare_13 : decode cX3_prepare 13 = .ok (.bipush 15, 2) := by decide +kernel
theorem dX3_prepare_15 : decode cX3_prepare 15 = .ok (.irem, 1) := by decide +kernel
theorem dX3_prepare_16 : decode cX3_prepare 16 = .ok (.aaload, 1) := by decide +kernel
theorem dX3_prepare_17 : decode cX3_prepare 17 = .ok (.aload_n 1, 1) := by decide +kernel
theorem dX3_prepare_18 : decode cX3_prepare 18 = .ok (.invokevirtual 25, 3) := by decide +kernel
theorem dX3_prepare_21 : decode cX3_prepare 21 = .ok (.return_, 1) := by decide +kernel
set_option maxRecDepth 100000 in
set_option maxHeartbeats 4000000 in
theorem c_X3_prepare (l : Launch) (G : GT) (n : Nat) (h : AH) (P fi k : Nat) (D : Nat → Nat → Nat) (hP : pst P fi k D h) (q : Nat) (y : Nat → Nat) (hC : cty q y h) (hI : Iv y) (hd : q + 32 ≤ P ∨ P + 482 ≤ q) : Ct l yX3_prepare cX3_prepare 2 none 3 0 0 G n h [.ref P, .ref q] (Rv n (fun h' => pstP P fi k D y h' ∧ FP P h h')) := by
  obtain ⟨⟨hfi, hk⟩, hop, ⟨fA, hfA, hA⟩, hJ, hD⟩ := id hP
  have hm := Nat.mod_lt (fi + k) (show 0 < 15 by omega)
  obtain ⟨z, hz⟩ := hJ _ hm
  refine Ct_of mX3_prepare.1 (Nat.le_of_ble_eq_true rfl) ?_
  intro p₀ e₀ s₀ m₀ as₀ bl₀ me₀ c₀ C hin
  refine V_Le (L' := [(0, .ref P), (1, .ref q)]) rfl ?_
  refine V_aload_n 1 C dX3_prepare_0 rfl rfl ?_
  refine V_get (k := 0) 4 C dX3_prepare_1 rfl fcX3 tw181 (by decide) rfl hop rfl ?_
  refine V_aload_n 5 C dX3_prepare_4 rfl rfl ?_
  refine V_get (k := 1) 8 C dX3_prepare_5 rfl fcX3 tw182 (by decide) rfl hop rfl ?_
  refine V_aload_n 9 C dX3_prepare_8 rfl rfl ?_
  refine V_get (k := 2) 12 C dX3_prepare_9 rfl fcX3 tw183 (by decide) rfl hop rfl ?_
  refine V_iaddN 13 C dX3_prepare_12 rfl  ?_
  refine V_bipush 15 C dX3_prepare_13 rfl bip15 ?_
  refine V_iremN 16 C dX3_prepare_15 rfl (by omega) (by omega) (by omega) ?_
  refine V_aald (j := (fi + k) % 15) 17 C dX3_prepare_16 rfl hfA rfl rfl (by omega) (by omega) (hA _ hm) ?_
  refine V_aload_n 18 C dX3_prepare_17 rfl rfl ?_
  refine V_callV 21 C dX3_prepare_18 rfl mX1_copyFrom tw645 fcX1 hz.1 (c_X1_copyFrom l G _ _ _ q z y hz hC hI (by omega)) rfl rfl (by decide) ⟨by omega, by omega⟩ (Nat.le_of_ble_eq_true rfl) ?_
  rintro _ _ h2 ⟨rfl, rfl, hC2, hF2⟩
  refine V_return C dX3_prepare_21 rfl (by omega) (by omega) ?_
  exact ⟨rfl, rfl, hP.spare hC2 hF2, fun a ha => hF2 a (by omega)⟩

theorem dX3_keepPrepared_0 : decode cX3_keepPrepared 0 = .ok (.aload_n 0, 1) := by decide +kernel
theorem dX3_keepPrepared_1 : decode cX3_keepPrepared 1 = .ok (.getfield 18, 3) := by decide +kernel
theorem dX3_keepPrepared_4 : decode cX3_keepPrepared 4 = .ok (.bipush 14, 2) := by decide +kernel
theorem dX3_keepPrepared_6 : decode cX3_keepPrepared 6 = .ok (.if_icmp .ge 16, 3) := by decide +kernel
theorem dX3_keepPrepared_9 : decode cX3_keepPrepared 9 = .ok (.aload_n 0, 1) := by decide +kernel
theorem dX3_keepPrepared_10 : decode cX3_keepPrepared 10 = .ok (.dup, 1) := by decide +kernel
theorem dX3_keepPrepared_11 : decode cX3_keepPrepared 11 = .ok (.getfield 18, 3) := by decide +kernel
theorem dX3_keepPrepared_14 : decode cX3_keepPrepared 14 = .ok (.iconst 1, 1) := by decide +kernel
theorem dX3_keepPrepared_15 : decode cX3_keepPrepared 15 = .ok (.iadd, 1) := by decide +kernel
theorem dX3_keepPrepared_16 : decode cX3_keepPrepared 16 = .ok (.putfield 18, 3) := by decide +kernel
theorem dX3_keepPrepared_19 : decode cX3_keepPrepared 19 = .ok (.goto 16, 3) := by decide +kernel
theorem dX3_keepPrepared_22 : decode cX3_keepPrepared 22 = .ok (.aload_n 0, 1) := by decide +kernel
theorem dX3_keepPrepared_23 : decode cX3_keepPrepared 23 = .ok (.aload_n 0, 1) := by decide +kernel
theorem dX3_keepPrepared_24 : decode cX3_keepPrepared 24 = .ok (.getfield 22, 3) := by decide +kernel
theorem dX3_keepPrepared_27 : decode cX3_keepPrepared 27 = .ok (.iconst 1, 1) := by decide +kernel
theorem dX3_keepPrepared_28 : decode cX3_keepPrepared 28 = .ok (.iadd, 1) := by decide +kernel
theorem dX3_keepPrepared_29 : decode cX3_keepPrepared 29 = .ok (.bipush 15, 2) := by decide +kernel
theorem dX3_keepPrepared_31 : decode cX3_keepPrepared 31 = .ok (.irem, 1) := by decide +kernel
theorem dX3_keepPrepared_32 : decode cX3_keepPrepared 32 = .ok (.putfield 22, 3) := by decide +kernel
theorem dX3_keepPrepared_35 : decode cX3_keepPrepared 35 = .ok (.return_, 1) := by decide +kernel
set_option maxRecDepth 100000 in
set_option maxHeartbeats 4000000 in
theorem c_X3_keepPrepared (l : Launch) (G : GT) (n : Nat) (h : AH) (P fi k : Nat) (D : Nat → Nat → Nat) (y : Nat → Nat) (hP : pstP P fi k D y h) : Ct l yX3_keepPrepared cX3_keepPrepared 1 none 1 0 0 G n h [.ref P] (Rv n (fun h' => pst P (psF fi k) (psC k) (psD k D y) h' ∧ ∀ a, ¬ a = P → h' a = h a)) := by
  obtain ⟨⟨hfi, hk⟩, hop, -, -, -⟩ := id hP.1
  have hK := hP.keep
  refine Ct_of mX3_keepPrepared.1 (Nat.le_of_ble_eq_true rfl) ?_
  intro p₀ e₀ s₀ m₀ as₀ bl₀ me₀ c₀ C hin
  refine V_Le (L' := [(0, .ref P)]) rfl ?_
  refine V_aload_n 1 C dX3_keepPrepared_0 rfl rfl ?_
  refine V_get (k := 2) 4 C dX3_keepPrepared_1 rfl fcX3 tw183 (by decide) rfl hop rfl ?_
  refine V_bipush 6 C dX3_keepPrepared_4 rfl bip14 ?_
  refine V_icmp_geN 22 9 C dX3_keepPrepared_6 (by decide) rfl (by omega) (by omega) (fun c6 => ?_) (fun c6 => ?_)
  · have e1 : psF fi k = (fi + 1) % 15 := if_pos (by omega)
    have e2 : psC k = k := (if_pos (by omega : k = 14)).trans (by omega)
    rw [e1, e2] at hK ⊢
    refine V_aload_n 23 C dX3_keepPrepared_22 rfl rfl ?_
    refine V_aload_n 24 C dX3_keepPrepared_23 rfl rfl ?_
    refine V_get (k := 1) 27 C dX3_keepPrepared_24 rfl fcX3 tw182 (by decide) rfl hop rfl ?_
    refine V_iconst 28 C dX3_keepPrepared_27 rfl ic1 ?_
    refine V_iaddN 29 C dX3_keepPrepared_28 rfl  ?_
    refine V_bipush 31 C dX3_keepPrepared_29 rfl bip15 ?_
    refine V_iremN 32 C dX3_keepPrepared_31 rfl (by omega) (by omega) (by omega) ?_
    refine V_put (fs' := [_, _, _]) (k := 1) 35 C dX3_keepPrepared_32 rfl fcX3 tw182 (by decide) rfl rfl hop rfl rfl (Nat.le_of_ble_eq_true rfl) rfl ?_
    refine V_return C dX3_keepPrepared_35 rfl (by omega) (by omega) ?_
    exact ⟨rfl, rfl, hK, fun a ha => up_n _ ha⟩
  · have e1 : psF fi k = fi := if_neg (by omega)
    have e2 : psC k = k + 1 := if_neg (by omega)
    rw [e1, e2] at hK ⊢
    refine V_aload_n 10 C dX3_keepPrepared_9 rfl rfl ?_
    refine V_dup 11 C dX3_keepPrepared_10 rfl rfl ?_
    refine V_get (k := 2) 14 C dX3_keepPrepared_11 rfl fcX3 tw183 (by decide) rfl hop rfl ?_
    refine V_iconst 15 C dX3_keepPrepared_14 rfl ic1 ?_
    refine V_iaddN 16 C dX3_keepPrepared_15 rfl  ?_
    refine V_put (fs' := [_, _, _]) (k := 2) 19 C dX3_keepPrepared_16 rfl fcX3 tw183 (by decide) rfl rfl hop rfl rfl (Nat.le_of_ble_eq_true rfl) rfl ?_
    refine V_goto 35 C dX3_keepPrepared_19 (by decide) ?_
    refine V_return C dX3_keepPrepared_35 rfl (by omega) (by omega) ?_
    exact ⟨rfl, rfl, hK, fun a ha => up_n _ ha⟩

theorem dX3_takeBack_0 : decode cX3_takeBack 0 = .ok (.aload_n 0, 1) := by decide +kernel
theorem dX3_takeBack_1 : decode cX3_takeBack 1 = .ok (.getfield 18, 3) := by decide +kernel
theorem dX3_takeBack_4 : decode cX3_takeBack 4 = .ok (.ifCond .le 34, 3) := by decide +kernel
theorem dX3_takeBack_7 : decode cX3_takeBack 7 = .ok (.aload_n 0, 1) := by decide +kernel
theorem dX3_takeBack_8 : decode cX3_takeBack 8 = .ok (.dup, 1) := by decide +kernel
theorem dX3_takeBack_9 : decode cX3_takeBack 9 = .ok (.getfield 18, 3) := by decide +kernel
theorem dX3_takeBack_12 : decode cX3_takeBack 12 = .ok (.iconst 1, 1) := by decide +kernel
theorem dX3_takeBack_13 : decode cX3_takeBack 13 = .ok (.isub, 1) := by decide +kernel
theorem dX3_takeBack_14 : decode cX3_takeBack 14 = .ok (.putfield 18, 3) := by decide +kernel
theorem dX3_takeBack_17 : decode cX3_takeBack 17 = .ok (.aload_n 1, 1) := by decide +kernel
theorem dX3_takeBack_18 : decode cX3_takeBack 18 = .ok (.aload_n 0, 1) := by decide +kernel
theorem dX3_takeBack_19 : decode cX3_takeBack 19 = .ok (.getfield 13, 3) := by decide +kernel
theorem dX3_takeBack_22 : decode cX3_takeBack 22 = .ok (.aload_n 0, 1) := by decide +kernel
theorem dX3_takeBack_23 : decode cX3_takeBack 23 = .ok (.getfield 22, 3) := by decide +kernel
theorem dX3_takeBack_26 : decode cX3_takeBack 26 = .ok (.aload_n 0, 1) := by decide +kernel
theorem dX3_takeBack_27 : decode cX3_takeBack 27 = .ok (.getfield 18, 3) := by decide +kernel
theorem dX3_takeBack_30 : decode cX3_takeBack 30 = .ok (.iadd, 1) := by decide +kernel
theorem dX3_takeBack_31 : decode cX3_takeBack 31 = .ok (.bipush 15, 2) := by decide +kernel
theorem dX3_takeBack_33 : decode cX3_takeBack 33 = .ok (.irem, 1) := by decide +kernel
theorem dX3_takeBack_34 : decode cX3_takeBack 34 = .ok (.aaload, 1) := by decide +kernel
theorem dX3_takeBack_35 : decode cX3_takeBack 35 = .ok (.invokevirtual 25, 3) := by decide +kernel
theorem dX3_takeBack_38 : decode cX3_takeBack 38 = .ok (.aload_n 0, 1) := by decide +kernel
theorem dX3_takeBack_39 : decode cX3_takeBack 39 = .ok (.getfield 18, 3) := by decide +kernel
theorem dX3_takeBack_42 : decode cX3_takeBack 42 = .ok (.ireturn, 1) := by decide +kernel
set_option maxRecDepth 100000 in
set_option maxHeartbeats 4000000 in
theorem c_X3_takeBack (l : Launch) (G : GT) (n : Nat) (h : AH) (P fi k : Nat) (D : Nat → Nat → Nat) (hP : pst P fi k D h) (q : Nat) (x : Nat → Nat) (hC : cty q x h) (hI : Iv (D (k - 1))) (h0 : 0 < k) (hd : q + 32 ≤ P ∨ P + 482 ≤ q) : Ct l yX3_takeBack cX3_takeBack 2 (some .int) 3 0 0 G n h [.ref P, .ref q] (Ri (nI (k - 1)) n (fun h' => pst P fi (k - 1) D h' ∧ cty q (D (k - 1)) h' ∧ ∀ a, (¬ a = P ∧ (a < q ∨ q + 32 ≤ a)) → h' a = h a)) := by
  obtain ⟨⟨hfi, hk⟩, hop, ⟨fA, hfA, hA⟩, hJ, hD⟩ := id hP
  obtain ⟨j, rfl⟩ : ∃ j, k = j + 1 := ⟨k - 1, by omega⟩
  rw [Nat.add_sub_cancel] at hI
  have hm := Nat.mod_lt (fi + j) (show 0 < 15 by omega)
  have hDj := hD j (by omega)
  have hP1 : pst P fi j D (up h P (.inr (2, [.ref (P + 1), .int (nI fi), .int (nI j)]))) := hP.ob ⟨hfi, by omega⟩ (fun i hi => hD i (by omega))
  obtain ⟨-, hop1, -, -, -⟩ := id hP1
  refine Ct_of mX3_takeBack.1 (Nat.le_of_ble_eq_true rfl) ?_
  intro p₀ e₀ s₀ m₀ as₀ bl₀ me₀ c₀ C hin
  refine V_Le (L' := [(0, .ref P), (1, .ref q)]) rfl ?_
  refine V_aload_n 1 C dX3_takeBack_0 rfl rfl ?_
  refine V_get (k := 2) 4 C dX3_takeBack_1 rfl fcX3 tw183 (by decide) rfl hop rfl ?_
  refine V_if_leN 38 7 C dX3_takeBack_4 (by decide) rfl (by omega) (fun c4 => ?_) (fun c4 => ?_)
  · exfalso
    omega
  · refine V_aload_n 8 C dX3_takeBack_7 rfl rfl ?_
    refine V_dup 9 C dX3_takeBack_8 rfl rfl ?_
    refine V_get (k := 2) 12 C dX3_takeBack_9 rfl fcX3 tw183 (by decide) rfl hop rfl ?_
    refine V_iconst 13 C dX3_takeBack_12 rfl ic1 ?_
    refine V_isubN 14 C dX3_takeBack_13 rfl (by omega) ?_
    rw [Nat.add_sub_cancel]
    refine V_put (fs' := [_, _, _]) (k := 2) 17 C dX3_takeBack_14 rfl fcX3 tw183 (by decide) rfl rfl hop rfl rfl (Nat.le_of_ble_eq_true rfl) rfl ?_
    refine V_aload_n 18 C dX3_takeBack_17 rfl rfl ?_
    refine V_aload_n 19 C dX3_takeBack_18 rfl rfl ?_
    refine V_get (k := 0) 22 C dX3_takeBack_19 rfl fcX3 tw181 (by decide) rfl hop1 rfl ?_
    refine V_aload_n 23 C dX3_takeBack_22 rfl rfl ?_
    refine V_get (k := 1) 26 C dX3_takeBack_23 rfl fcX3 tw182 (by decide) rfl hop1 rfl ?_
    refine V_aload_n 27 C dX3_takeBack_26 rfl rfl ?_
    refine V_get (k := 2) 30 C dX3_takeBack_27 rfl fcX3 tw183 (by decide) rfl hop1 rfl ?_
    refine V_iaddN 31 C dX3_takeBack_30 rfl  ?_
    refine V_bipush 33 C dX3_takeBack_31 rfl bip15 ?_
    refine V_iremN 34 C dX3_takeBack_33 rfl (by omega) (by omega) (by omega) ?_
    refine V_aald (j := (fi + j) % 15) 35 C dX3_takeBack_34 rfl ((up_n _ (by omega)).trans hfA) rfl rfl (by omega) (by omega) (hA _ hm) ?_
    refine V_callV 38 C dX3_takeBack_35 rfl mX1_copyFrom tw645 fcX1 ((up_n _ (by omega)).trans hC.1) (c_X1_copyFrom l G _ _ q (P + 2 + 32 * ((fi + j) % 15)) x (D j) (hC.fr (fun a g1 g2 => up_n _ (by omega))) (hDj.fr (fun a g1 g2 => up_n _ (by omega))) hI (by omega)) rfl rfl (by decide) ⟨by omega, by omega⟩ (Nat.le_of_ble_eq_true rfl) ?_
    rintro _ _ h2 ⟨rfl, rfl, hC2, hF2⟩
    have hP2 : pst P fi j D h2 := hP1.fr (fun a g1 g2 => hF2 a (by omega))
    have hop2 := hP2.2.1
    refine V_aload_n 39 C dX3_takeBack_38 rfl rfl ?_
    refine V_get (k := 2) 42 C dX3_takeBack_39 rfl fcX3 tw183 (by decide) rfl hop2 rfl ?_
    refine V_ireturn C dX3_takeBack_42 rfl rfl (by omega) (by omega) ?_
    exact ⟨rfl, rfl, hP2, hC2, fun a ha => (hF2 a ha.2).trans (up_n _ ha.1)⟩

theorem dX10_copyState_0 : decode cX10_copyState 0 = .ok (.iconst 0, 1) := by decide +kernel
theorem dX10_copyState_1 : decode cX10_copyState 1 = .ok (.istore 4, 2) := by decide +kernel
theorem dX10_copyState_3 : decode cX10_copyState 3 = .ok (.iload 4, 2) := by decide +kernel
theorem dX10_copyState_5 : decode cX10_copyState 5 = .ok (.sipush 130, 3) := by decide +kernel
theorem dX10_copyState_8 : decode cX10_copyState 8 = .ok (.if_icmp .ge 21, 3) := by decide +kernel
theorem dX10_copyState_11 : decode cX10_copyState 11 = .ok (.aload_n 2, 1) := by decide +kernel
theorem dX10_copyState_12 : decode cX10_copyState 12 = .ok (.iload_n 3, 1) := by decide +kernel
theorem dX10_copyState_13 : decode cX10_copyState 13 = .ok (.iload 4, 2) := by decide +kernel
theorem dX10_copyState_15 : decode cX10_copyState 15 = .ok (.iadd, 1) := by decide +kernel
theorem dX10_copyState_16 : decode cX10_copyState 16 = .ok (.aload_n 0, 1) := by decide +kernel
theorem dX10_copyState_17 : decode cX10_copyState 17 = .ok (.iload_n 1, 1) := by decide +kernel
theorem dX10_copyState_18 : decode cX10_copyState 18 = .ok (.iload 4, 2) := by decide +kernel
theorem dX10_copyState_20 : decode cX10_copyState 20 = .ok (.iadd, 1) := by decide +kernel
theorem dX10_copyState_21 : decode cX10_copyState 21 = .ok (.iaload, 1) := by decide +kernel
theorem dX10_copyState_22 : decode cX10_copyState 22 = .ok (.iastore, 1) := by decide +kernel
theorem dX10_copyState_23 : decode cX10_copyState 23 = .ok (.iinc 4 1, 3) := by decide +kernel
theorem dX10_copyState_26 : decode cX10_copyState 26 = .ok (.goto (-23), 3) := by decide +kernel
theorem dX10_copyState_29 : decode cX10_copyState 29 = .ok (.return_, 1) := by decide +kernel
set_option maxRecDepth 100000 in
set_option maxHeartbeats 4000000 in
theorem c_X10_copyState (l : Launch) (G : GT) (n : Nat) (h : AH) (a b fa ta N M : Nat) (f g g' : Nat → Int32) (ha : h a = some (.inl (0, N, .inl f))) (hb : h b = some (.inl (0, M, .inl g))) (hne : ¬ a = b) (h1 : fa + 130 ≤ N) (h2 : ta + 130 ≤ M) (hN : N < 2 ^ 31) (hM : M < 2 ^ 31) (e1 : ∀ k, k < 130 → g' (ta + k) = f (fa + k)) (e2 : ∀ j, j < M → (j < ta ∨ ta + 130 ≤ j) → g' j = g j) : Ct l yX10_copyState cX10_copyState 5 none 1 0 0 G n h [.ref a, .int (nI fa), .ref b, .int (nI ta)] (Rv n (fun h' => h' = up h b (.inl (0, M, .inl g')))) := by
  refine Ct_of mX10_copyState.1 (Nat.le_of_ble_eq_true rfl) ?_
  intro p₀ e₀ s₀ m₀ as₀ bl₀ me₀ c₀ C hin
  refine V_Le (L' := [(0, .ref a), (1, .int (nI fa)), (2, .ref b), (3, .int (nI ta))]) rfl ?_
  refine V_iconst 1 C dX10_copyState_0 rfl ic0 ?_
  refine V_istore 3 C dX10_copyState_1 rfl (by decide) (L' := [(0, _), (1, _), (2, _), (3, _), (4, _)]) rfl ?_
  have J3 : ∀ (fuel : Nat) (k : Nat) (g1 : Nat → Int32) (hk : k ≤ 130) (i1 : ∀ j, j < k → g1 (ta + j) = f (fa + j)) (i2 : ∀ j, (j < ta ∨ ta + k ≤ j) → g1 j = g j), 130 - k < fuel → V p₀ l e₀ (rmD 1 0 0) s₀ m₀ as₀ bl₀ me₀ c₀ (MQ bl₀ (Po G (Rv n (fun h' => h' = up h b (.inl (0, M, .inl g'))))) as₀ s₀ 0 0 (rg G)) G 5 0 0 n (up h b (.inl (0, M, .inl g1))) 3 [(0, .ref a), (1, .int (nI fa)), (2, .ref b), (3, .int (nI ta)), (4, .int (nI k))] [] := by
    intro fuel
    induction fuel with
    | zero => intro k g1 hk i1 i2 hf; omega
    | succ fuel ih3 =>
      intro k g1 hk i1 i2 hf
      refine V_iload 5 C dX10_copyState_3 rfl rfl ?_
      refine V_sipush 8 C dX10_copyState_5 rfl sip130 ?_
      refine V_icmp_geN 29 11 C dX10_copyState_8 (by decide) rfl (by omega) (by omega) (fun c8 => ?_) (fun c8 => ?_)
      · have hx : ∀ j, j < M → g1 j = g' j := fun j hj => by
          by_cases e : j < ta ∨ ta + 130 ≤ j
          · rw [e2 j hj e, i2 j (by omega)]
          · have q1 := e1 (j - ta) (by omega)
            have q2 := i1 (j - ta) (by omega)
            rw [show ta + (j - ta) = j from by omega] at q1 q2
            rw [q1, q2]
        refine V_ext (up_s _ _ _) hx ?_
        rw [up_up]
        refine V_return C dX10_copyState_29 rfl (by omega) (by omega) ?_
        exact ⟨rfl, rfl, rfl⟩
      · refine V_aload_n 12 C dX10_copyState_11 rfl rfl ?_
        refine V_iload_n 13 C dX10_copyState_12 rfl rfl ?_
        refine V_iload 15 C dX10_copyState_13 rfl rfl ?_
        refine V_iaddN 16 C dX10_copyState_15 rfl  ?_
        refine V_aload_n 17 C dX10_copyState_16 rfl rfl ?_
        refine V_iload_n 18 C dX10_copyState_17 rfl rfl ?_
        refine V_iload 20 C dX10_copyState_18 rfl rfl ?_
        refine V_iaddN 21 C dX10_copyState_20 rfl  ?_
        refine V_iald (j := fa + k) 22 C dX10_copyState_21 rfl ((up_n _ hne).trans ha) rfl (by omega) (by omega) ?_
        refine V_iast (j := ta + k) 23 C dX10_copyState_22 rfl (up_s _ _ _) rfl (by omega) (by omega) ?_
        rw [up_up]
        refine V_iinc 26 C dX10_copyState_23 rfl (by decide) rfl (ii1 _) (L' := [(0, _), (1, _), (2, _), (3, _), (4, _)]) rfl ?_
        refine V_goto 3 C dX10_copyState_26 (by decide) ?_
        refine V_L [0, 1, 2, 3, 4] rfl ?_
        refine ih3 (k + 1) _ (by omega) (fun j hj => ?_) (fun j hj => ?_) (by omega)
        · by_cases e : j = k
          · rw [e, pk_us]
          · rw [pk_un (by omega)]; exact i1 j (by omega)
        · rw [pk_un (by omega)]; exact i2 j (by omega)
  refine V_L [0, 1, 2, 3, 4] rfl ?_
  have J := J3 131 0 g (by omega) (fun j hj => absurd hj (Nat.not_lt_zero _)) (fun _ _ => rfl) (by omega)
  rw [up_id hb] at J
  exact J

theorem dX10_remember_0 : decode cX10_remember 0 = .ok (.aload_n 0, 1) := by decide +kernel
theorem dX10_remember_1 : decode cX10_remember 1 = .ok (.getfield 230, 3) := by decide +kernel
theorem dX10_remember_4 : decode cX10_remember 4 = .ok (.bipush 14, 2) := by decide +kernel
theorem dX10_remember_6 : decode cX10_remember 6 = .ok (.if_icmp .ne 44, 3) := by decide +kernel
theorem dX10_remember_9 : decode cX10_remember 9 = .ok (.iconst 0, 1) := by decide +kernel
theorem dX10_remember_10 : decode cX10_remember 10 = .ok (.istore_n 1, 1) := by decide +kernel
theorem dX10_remember_11 : decode cX10_remember 11 = .ok (.iload_n 1, 1) := by decide +kernel
theorem dX10_remember_12 : decode cX10_remember 12 = .ok (.sipush 1690, 3) := by decide +kernel
theorem dX10_remember_15 : decode cX10_remember 15 = .ok (.if_icmp .ge 25, 3) := by decide +kernel
theorem dX10_remember_18 : decode cX10_remember 18 = .ok (.aload_n 0, 1) := by decide +kernel
theorem dX10_remember_19 : decode cX10_remember 19 = .ok (.getfield 19, 3) := by decide +kernel
theorem dX10_remember_22 : decode cX10_remember 22 = .ok (.iload_n 1, 1) := by decide +kernel
theorem dX10_remember_23 : decode cX10_remember 23 = .ok (.aload_n 0, 1) := by decide +kernel
theorem dX10_remember_24 : decode cX10_remember 24 = .ok (.getfield 19, 3) := by decide +kernel
theorem dX10_remember_27 : decode cX10_remember 27 = .ok (.iload_n 1, 1) := by decide +kernel
theorem dX10_remember_28 : decode cX10_remember 28 = .ok (.sipush 130, 3) := by decide +kernel
theorem dX10_remember_31 : decode cX10_remember 31 = .ok (.iadd, 1) := by decide +kernel
theorem dX10_remember_32 : decode cX10_remember 32 = .ok (.iaload, 1) := by decide +kernel
theorem dX10_remember_33 : decode cX10_remember 33 = .ok (.iastore, 1) := by decide +kernel
theorem dX10_remember_34 : decode cX10_remember 34 = .ok (.iinc 1 1, 3) := by decide +kernel
theorem dX10_remember_37 : decode cX10_remember 37 = .ok (.goto (-26), 3) := by decide +kernel
theorem dX10_remember_40 : decode cX10_remember 40 = .ok (.aload_n 0, 1) := by decide +kernel
theorem dX10_remember_41 : decode cX10_remember 41 = .ok (.dup, 1) := by decide +kernel
theorem dX10_remember_42 : decode cX10_remember 42 = .ok (.getfield 230, 3) := by decide +kernel
theorem dX10_remember_45 : decode cX10_remember 45 = .ok (.iconst 1, 1) := by decide +kernel
theorem dX10_remember_46 : decode cX10_remember 46 = .ok (.isub, 1) := by decide +kernel
theorem dX10_remember_47 : decode cX10_remember 47 = .ok (.putfield 230, 3) := by decide +kernel
theorem dX10_remember_50 : decode cX10_remember 50 = .ok (.aload_n 0, 1) := by decide +kernel
theorem dX10_remember_51 : decode cX10_remember 51 = .ok (.getfield 13, 3) := by decide +kernel
theorem dX10_remember_54 : decode cX10_remember 54 = .ok (.iconst 0, 1) := by decide +kernel
theorem dX10_remember_55 : decode cX10_remember 55 = .ok (.aload_n 0, 1) := by decide +kernel
theorem dX10_remember_56 : decode cX10_remember 56 = .ok (.getfield 19, 3) := by decide +kernel
theorem dX10_remember_59 : decode cX10_remember 59 = .ok (.sipush 130, 3) := by decide +kernel
theorem dX10_remember_62 : decode cX10_remember 62 = .ok (.aload_n 0, 1) := by decide +kernel
theorem dX10_remember_63 : decode cX10_remember 63 = .ok (.getfield 230, 3) := by decide +kernel
theorem dX10_remember_66 : decode cX10_remember 66 = .ok (.imul, 1) := by decide +kernel
theorem dX10_remember_67 : decode cX10_remember 67 = .ok (.invokestatic 226, 3) := by decide +kernel
theorem dX10_remember_70 : decode cX10_remember 70 = .ok (.aload_n 0, 1) := by decide +kernel
theorem dX10_remember_71 : decode cX10_remember 71 = .ok (.dup, 1) := by decide +kernel
theorem dX10_remember_72 : decode cX10_remember 72 = .ok (.getfield 230, 3) := by decide +kernel
theorem dX10_remember_75 : decode cX10_remember 75 = .ok (.iconst 1, 1) := by decide +kernel
theorem dX10_remember_76 : decode cX10_remember 76 = .ok (.iadd, 1) := by decide +kernel
theorem dX10_remember_77 : decode cX10_remember 77 = .ok (.putfield 230, 3) := by decide +kernel
theorem dX10_remember_80 : decode cX10_remember 80 = .ok (.return_, 1) := by decide +kernel
set_option maxRecDepth 100000 in
set_option maxHeartbeats 4000000 in
theorem c_X10_remember (l : Launch) (G : GT) (n : Nat) (h : AH) (m : Nat) (rf sz sp ou : Int32) (k : Nat) (hm : h m = some (obM m rf sz (nI k) sp ou)) (D : Nat → Nat → Nat) (y : Nat → Nat) (g : Nat → Int32) (hk : k ≤ 14) (hx : Row (m + 2) y h) (hg : h (m + 4) = some (.inl (0, 1820, .inl g))) (hD : dia k D g) : Ct l yX10_remember cX10_remember 2 none 2 0 0 G n h [.ref m] (Rv n (fun h' => ∃ g', h' = up (up h (m + 4) (.inl (0, 1820, .inl g'))) m (obM m rf sz (nI (psC k)) sp ou) ∧ dia (psC k) (psD k D y) g')) := by
  refine Ct_of mX10_remember.1 (Nat.le_of_ble_eq_true rfl) ?_
  intro p₀ e₀ s₀ m₀ as₀ bl₀ me₀ c₀ C hin
  refine V_Le (L' := [(0, .ref m)]) rfl ?_
  refine V_aload_n 1 C dX10_remember_0 rfl rfl ?_
  refine V_get (k := 6) 4 C dX10_remember_1 rfl fcX10 tw942 (by decide) rfl hm rfl ?_
  refine V_bipush 6 C dX10_remember_4 rfl bip14 ?_
  have J50 : ∀ (j : Nat) (g1 : Nat → Int32) (hj : j ≤ 13) (hjk : psC k = j + 1) (hD1 : dia j (if k = 14 then fun i => D (i + 1) else D) g1), V p₀ l e₀ (rmD 2 0 0) s₀ m₀ as₀ bl₀ me₀ c₀ (MQ bl₀ (Po G (Rv n (fun h' => ∃ g', h' = up (up h (m + 4) (.inl (0, 1820, .inl g'))) m (obM m rf sz (nI (psC k)) sp ou) ∧ dia (psC k) (psD k D y) g'))) as₀ s₀ 0 0 (rg G)) G 2 0 0 n (up (up h (m + 4) (.inl (0, 1820, .inl g1))) m (obM m rf sz (nI j) sp ou)) 50 [(0, .ref m)] [] := by
    intro j g1 hj hjk hD1
    have hm2 : (up (up h (m + 4) (.inl (0, 1820, .inl g1))) m (obM m rf sz (nI j) sp ou)) m = _ := up_s _ _ _
    have hx2 : Row (m + 2) y (up (up h (m + 4) (.inl (0, 1820, .inl g1))) m (obM m rf sz (nI j) sp ou)) := (up_n _ (by omega)).trans ((up_n _ (by omega)).trans hx)
    have hg2 : (up (up h (m + 4) (.inl (0, 1820, .inl g1))) m (obM m rf sz (nI j) sp ou)) (m + 4) = some (.inl (0, 1820, .inl g1)) := (up_n _ (by omega)).trans (up_s _ _ _)
    have q1 : ∀ t, t < 130 → (fun t => if 130 * j ≤ t ∧ t < 130 * j + 130 then nI (y (t - 130 * j)) else g1 t) (130 * j + t) = nI (y (0 + t)) := fun t ht => by
      show (if 130 * j ≤ 130 * j + t ∧ 130 * j + t < 130 * j + 130 then _ else _) = _
      rw [if_pos (by omega), show 130 * j + t - 130 * j = 0 + t from by omega]
    have q2 : ∀ t, t < 1820 → (t < 130 * j ∨ 130 * j + 130 ≤ t) → (fun t => if 130 * j ≤ t ∧ t < 130 * j + 130 then nI (y (t - 130 * j)) else g1 t) t = g1 t := fun t ht hc => if_neg (by omega)
    refine V_aload_n 51 C dX10_remember_50 rfl rfl ?_
    refine V_get (k := 3) 54 C dX10_remember_51 rfl fcX10 tw939 (by decide) rfl hm2 rfl ?_
    refine V_iconst 55 C dX10_remember_54 rfl ic0 ?_
    refine V_aload_n 56 C dX10_remember_55 rfl rfl ?_
    refine V_get (k := 5) 59 C dX10_remember_56 rfl fcX10 tw941 (by decide) rfl hm2 rfl ?_
    refine V_sipush 62 C dX10_remember_59 rfl sip130 ?_
    refine V_aload_n 63 C dX10_remember_62 rfl rfl ?_
    refine V_get (k := 6) 66 C dX10_remember_63 rfl fcX10 tw942 (by decide) rfl hm2 rfl ?_
    refine V_imulN 67 C dX10_remember_66 rfl  ?_
    refine V_callS 70 C dX10_remember_67 rfl mX10_copyState tw1154 (c_X10_copyState l G _ _ (m + 2) (m + 4) 0 (130 * j) 130 1820 _ g1 (fun t => if 130 * j ≤ t ∧ t < 130 * j + 130 then nI (y (t - 130 * j)) else g1 t) hx2 hg2 (by omega) (by omega) (by omega) (by omega) (by omega) q1 q2) rfl rfl (by decide) ⟨by omega, by omega⟩ (Nat.le_of_ble_eq_true rfl) ?_
    rintro _ _ _ ⟨rfl, rfl, rfl⟩
    refine V_aload_n 71 C dX10_remember_70 rfl rfl ?_
    refine V_dup 72 C dX10_remember_71 rfl rfl ?_
    refine V_get (k := 6) 75 C dX10_remember_72 rfl fcX10 tw942 (by decide) rfl ((up_n _ (by omega)).trans hm2) rfl ?_
    refine V_iconst 76 C dX10_remember_75 rfl ic1 ?_
    refine V_iaddN 77 C dX10_remember_76 rfl  ?_
    refine V_put (fs' := [_, _, _, _, _, _, _, _, _, _, _, _]) (k := 6) 80 C dX10_remember_77 rfl fcX10 tw942 (by decide) rfl rfl ((up_n _ (by omega)).trans hm2) rfl rfl (Nat.le_of_ble_eq_true rfl) rfl ?_
    refine V_return C dX10_remember_80 rfl (by omega) (by omega) ?_
    exact ⟨rfl, rfl, _, by rw [up_3 (by omega), up_3 (by omega), hjk], dia_ps j hD1 hjk hk (fun t ht => (q1 t ht).trans (by rw [Nat.zero_add])) q2⟩
  refine V_icmp_neN 50 9 C dX10_remember_6 (by decide) rfl (by omega) (by omega) (fun c6 => ?_) (fun c6 => ?_)
  · have J := J50 k g (by omega) (if_neg (by omega)) (by rw [if_neg (by omega)]; exact hD)
    rw [up_id hg, up_id hm] at J
    refine V_L [0] rfl ?_
    exact J
  · refine V_iconst 10 C dX10_remember_9 rfl ic0 ?_
    refine V_istore_n 11 C dX10_remember_10 rfl (by decide) (L' := [(0, _), (1, _)]) rfl ?_
    have J11 : ∀ (fuel : Nat) (i : Nat) (g1 : Nat → Int32) (hi : i ≤ 1690) (i1 : ∀ j, j < i → g1 j = g (130 + j)) (i2 : ∀ j, i ≤ j → g1 j = g j), 1690 - i < fuel → V p₀ l e₀ (rmD 2 0 0) s₀ m₀ as₀ bl₀ me₀ c₀ (MQ bl₀ (Po G (Rv n (fun h' => ∃ g', h' = up (up h (m + 4) (.inl (0, 1820, .inl g'))) m (obM m rf sz (nI (psC k)) sp ou) ∧ dia (psC k) (psD k D y) g'))) as₀ s₀ 0 0 (rg G)) G 2 0 0 n (up h (m + 4) (.inl (0, 1820, .inl g1))) 11 [(0, .ref m), (1, .int (nI i))] [] := by
      intro fuel
      induction fuel with
      | zero => intro i g1 hi i1 i2 hf; omega
      | succ fuel ih11 =>
        intro i g1 hi i1 i2 hf
        have hm1 : (up h (m + 4) (.inl (0, 1820, .inl g1))) m = _ := (up_n _ (by omega)).trans hm
        refine V_iload_n 12 C dX10_remember_11 rfl rfl ?_
        refine V_sipush 15 C dX10_remember_12 rfl sip1690 ?_
        refine V_icmp_geN 40 18 C dX10_remember_15 (by decide) rfl (by omega) (by omega) (fun c15 => ?_) (fun c15 => ?_)
        · refine V_aload_n 41 C dX10_remember_40 rfl rfl ?_
          refine V_dup 42 C dX10_remember_41 rfl rfl ?_
          refine V_get (k := 6) 45 C dX10_remember_42 rfl fcX10 tw942 (by decide) rfl hm1 rfl ?_
          refine V_iconst 46 C dX10_remember_45 rfl ic1 ?_
          refine V_isubN 47 C dX10_remember_46 rfl (by omega) ?_
          refine V_put (fs' := [_, _, _, _, _, _, _, _, _, _, _, _]) (k := 6) 50 C dX10_remember_47 rfl fcX10 tw942 (by decide) rfl rfl hm1 rfl rfl (Nat.le_of_ble_eq_true rfl) rfl ?_
          refine V_L [0] rfl ?_
          have hk14 : k = 14 := by omega
          subst hk14
          exact J50 13 g1 (by omega) rfl (by rw [if_pos rfl]; exact fun i hi t ht => by rw [i1 _ (by omega), show 130 + (130 * i + t) = 130 * (i + 1) + t from by omega]; exact hD (i + 1) (by omega) t ht)
        · refine V_aload_n 19 C dX10_remember_18 rfl rfl ?_
          refine V_get (k := 5) 22 C dX10_remember_19 rfl fcX10 tw941 (by decide) rfl hm1 rfl ?_
          refine V_iload_n 23 C dX10_remember_22 rfl rfl ?_
          refine V_aload_n 24 C dX10_remember_23 rfl rfl ?_
          refine V_get (k := 5) 27 C dX10_remember_24 rfl fcX10 tw941 (by decide) rfl hm1 rfl ?_
          refine V_iload_n 28 C dX10_remember_27 rfl rfl ?_
          refine V_sipush 31 C dX10_remember_28 rfl sip130 ?_
          refine V_iaddN 32 C dX10_remember_31 rfl  ?_
          refine V_iald (j := i + 130) 33 C dX10_remember_32 rfl (up_s _ _ _) rfl (by omega) (by omega) ?_
          rw [Nat.add_comm i 130]
          refine V_iast (j := i) 34 C dX10_remember_33 rfl (up_s _ _ _) rfl (by omega) (by omega) ?_
          rw [up_up]
          refine V_iinc 37 C dX10_remember_34 rfl (by decide) rfl (ii1 _) (L' := [(0, _), (1, _)]) rfl ?_
          refine V_goto 11 C dX10_remember_37 (by decide) ?_
          refine V_L [0, 1] rfl ?_
          refine ih11 (i + 1) _ (by omega) (fun j hj => ?_) (fun j hj => ?_) (by omega)
          · by_cases e : j = i
            · rw [e, pk_us, i2 _ (by omega), Nat.add_comm]
            · rw [pk_un e]; exact i1 j (by omega)
          · rw [pk_un (by omega)]; exact i2 j (by omega)
    refine V_L [0, 1] rfl ?_
    have J := J11 1691 0 g (by omega) (fun j hj => absurd hj (Nat.not_lt_zero _)) (fun _ _ => rfl) (by omega)
    rw [up_id hg] at J
    exact J

