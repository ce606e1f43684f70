/-! THE PAST, AND WHAT THE REFERENCE REMEMBERS -/
section VEXT
variable {p : Program} {l : Launch} {e : Env} {R : Room} {s : State} {m : MethodId} {args : Array Value} {below : List Frame} {meth : Method} {c : Code} {Q : State → Prop} {G : GT} {nL cells slots n pc : Nat} {h : AH} {L : List (Nat × Value)} {st : List Value}
/-- numbers beyond an array's end don't count -/
theorem V_ext {a t N : Nat} {f f' : Nat → Int32} (hh : h a = some (.inl (t, N, .inl f))) (he : ∀ j, j < N → f j = f' j) (kk : V p l e R s m args below meth c Q G nL cells slots n (up h a (.inl (t, N, .inl f'))) pc L st) : V p l e R s m args below meth c Q G nL cells slots n h pc L st := fun H locs ls h1 h2 h3 h4 => by
  have h5 := (h2 a _ hh).1
  have e1 : arrV (G.2.1 t) N (fun j => .int (f j)) = arrV (G.2.1 t) N (fun j => .int (f' j)) := by
    unfold arrV
    congr 2
    funext j
    show Value.int (f j.val) = Value.int (f' j.val)
    rw [he j.val j.isLt]
  have e2 : vp_cell (G.2.1 t) (N, .inl f) = vp_cell (G.2.1 t) (N, .inl f') := e1
  refine kk H locs ls h1 (h2.set hh ?_ (fun _ _ => rfl)) h3 h4
  show H[a]? = some (vp_cell (G.2.1 t) (N, .inl f'))
  rw [← e2]
  exact h5
end VEXT
def pst (P fi c : Nat) (D : Nat → Nat → Nat) (h : AH) : Prop :=
  (fi < 15 ∧ c ≤ 14) ∧ h P = some (.inr (2, [.ref (P + 1), .int (nI fi), .int (nI c)])) ∧
  (∃ f : Nat → Option Nat, h (P + 1) = some (.inl (4, 15, .inr (.inr (.inr (.inr f))))) ∧ ∀ i, i < 15 → f i = some (P + 2 + 32 * i)) ∧
  (∀ j, j < 15 → ∃ z, cty (P + 2 + 32 * j) z h) ∧
  (∀ i, i < c → cty (P + 2 + 32 * ((fi + i) % 15)) (D i) h)
def FP (P : Nat) (h h' : AH) : Prop := ∀ a, (a < P ∨ P + 482 ≤ a) → h' a = h a
theorem pst.fr {P fi c : Nat} {D : Nat → Nat → Nat} {h h' : AH} (hP : pst P fi c D h) (hF : ∀ a, P ≤ a → a < P + 482 → h' a = h a) : pst P fi c D h' := by
  obtain ⟨h1, h2, ⟨f, h3, h4⟩, h5, h6⟩ := hP
  refine ⟨h1, by rw [hF _ (by omega) (by omega)]; exact h2, ⟨f, by rw [hF _ (by omega) (by omega)]; exact h3, h4⟩, fun j hj => ?_, fun i hi => ?_⟩
  · obtain ⟨z, hz⟩ := h5 j hj
    exact ⟨z, hz.fr (fun a g1 g2 => hF a (by omega) (by omega))⟩
  · have := Nat.mod_lt (fi + i) (show 0 < 15 by omega)
    exact (h6 i hi).fr (fun a g1 g2 => hF a (by omega) (by omega))
/-- only the numbers of the past's object -/
theorem pst.ob {P fi c fi' c' : Nat} {D D' : Nat → Nat → Nat} {h : AH} (hP : pst P fi c D h) (hb : fi' < 15 ∧ c' ≤ 14) (hD : ∀ i, i < c' → cty (P + 2 + 32 * ((fi' + i) % 15)) (D' i) h) : pst P fi' c' D' (up h P (.inr (2, [.ref (P + 1), .int (nI fi'), .int (nI c')]))) := by
  obtain ⟨h1, h2, ⟨f, h3, h4⟩, h5, h6⟩ := hP
  refine ⟨hb, up_s _ _ _, ⟨f, by rw [up_n _ (by omega)]; exact h3, h4⟩, fun j hj => ?_, fun i hi => ?_⟩
  · obtain ⟨z, hz⟩ := h5 j hj
    exact ⟨z, hz.fr (fun a g1 g2 => up_n _ (by omega))⟩
  · exact (hD i hi).fr (fun a g1 g2 => up_n _ (by omega))
/-- one more remembered -/
def psC (c : Nat) : Nat := if c = 14 then 14 else c + 1
def psD (c : Nat) (D : Nat → Nat → Nat) (y : Nat → Nat) : Nat → Nat → Nat := fun i => if c = 14 then (if i = 13 then y else D (i + 1)) else (if i = c then y else D i)
def psF (fi c : Nat) : Nat := if c = 14 then (fi + 1) % 15 else fi
/-- before it is kept: the state is in the spare row -/
def pstP (P fi c : Nat) (D : Nat → Nat → Nat) (y : Nat → Nat) (h : AH) : Prop := pst P fi c D h ∧ cty (P + 2 + 32 * ((fi + c) % 15)) y h
theorem pstP.fr {P fi c : Nat} {D : Nat → Nat → Nat} {y : Nat → Nat} {h h' : AH} (hP : pstP P fi c D y h) (hF : ∀ a, P ≤ a → a < P + 482 → h' a = h a) : pstP P fi c D y h' := by
  have := Nat.mod_lt (fi + c) (show 0 < 15 by omega)
  exact ⟨hP.1.fr hF, hP.2.fr (fun a g1 g2 => hF a (by omega) (by omega))⟩
/-- the spare row is written -/
theorem pst.spare {P fi c : Nat} {D : Nat → Nat → Nat} {y : Nat → Nat} {h h' : AH} (hP : pst P fi c D h) (hC : cty (P + 2 + 32 * ((fi + c) % 15)) y h') (hF : FR (P + 2 + 32 * ((fi + c) % 15)) h h') : pstP P fi c D y h' := by
  obtain ⟨⟨h0, h1⟩, h2, ⟨f, h3, h4⟩, h5, h6⟩ := hP
  have hm := Nat.mod_lt (fi + c) (show 0 < 15 by omega)
  have key : ∀ (j : Nat) (z : Nat → Nat), j < 15 → ¬ j = (fi + c) % 15 → cty (P + 2 + 32 * j) z h → cty (P + 2 + 32 * j) z h' := fun j z hj hne hz => hz.fr (fun a g1 g2 => hF a (by omega))
  refine ⟨⟨⟨h0, h1⟩, by rw [hF _ (by omega)]; exact h2, ⟨f, by rw [hF _ (by omega)]; exact h3, h4⟩, fun j hj => ?_, fun i hi => ?_⟩, hC⟩
  · by_cases e : j = (fi + c) % 15
    · rw [e]; exact ⟨_, hC⟩
    · obtain ⟨z, hz⟩ := h5 j hj
      exact ⟨z, key j z hj e hz⟩
  · exact key _ _ (Nat.mod_lt _ (by omega)) (by omega) (h6 i hi)
/-- and kept -/
theorem pstP.keep {P fi c : Nat} {D : Nat → Nat → Nat} {y : Nat → Nat} {h : AH} (hP : pstP P fi c D y h) : pst P (psF fi c) (psC c) (psD c D y) (up h P (.inr (2, [.ref (P + 1), .int (nI (psF fi c)), .int (nI (psC c))]))) := by
  obtain ⟨hp, hy⟩ := hP
  obtain ⟨⟨h0, h1⟩, h2, ⟨f, h3, h4⟩, h5, h6⟩ := id hp
  unfold psF psC psD
  by_cases e : c = 14
  · rw [if_pos e, if_pos e]
    subst e
    refine hp.ob ⟨Nat.mod_lt _ (by omega), by omega⟩ (fun i hi => ?_)
    rw [if_pos rfl, show ((fi + 1) % 15 + i) % 15 = (fi + (i + 1)) % 15 from by omega]
    by_cases e2 : i = 13
    · rw [if_pos e2, e2]; exact hy
    · rw [if_neg e2]; exact h6 (i + 1) (by omega)
  · rw [if_neg e, if_neg e]
    refine hp.ob ⟨h0, by omega⟩ (fun i hi => ?_)
    rw [if_neg e]
    by_cases e2 : i = c
    · rw [if_pos e2, e2]; exact hy
    · rw [if_neg e2]; exact h6 i (by omega)
/-- the reference's diary -/
def dia (c : Nat) (D : Nat → Nat → Nat) (g : Nat → Int32) : Prop := ∀ i, i < c → ∀ k, k < 130 → g (130 * i + k) = nI (D i k)
theorem dia_ps {c : Nat} {D : Nat → Nat → Nat} {y : Nat → Nat} {g1 g2 : Nat → Int32} (c' : Nat) (h1 : dia c' (if c = 14 then fun i => D (i + 1) else D) g1) (hc : psC c = c' + 1) (hc14 : c ≤ 14) (h2 : ∀ k, k < 130 → g2 (130 * c' + k) = nI (y k)) (h3 : ∀ j, j < 1820 → (j < 130 * c' ∨ 130 * c' + 130 ≤ j) → g2 j = g1 j) : dia (psC c) (psD c D y) g2 := fun i hi k hk => by
  unfold psC at hc hi
  unfold psD
  by_cases e : c = 14
  · rw [if_pos e] at hi hc h1 ⊢
    have hc' : c' = 13 := by omega
    subst hc'
    by_cases e2 : i = 13
    · rw [if_pos e2, e2]; exact h2 k hk
    · rw [if_neg e2, h3 _ (by omega) (by omega)]; exact h1 i (by omega) k hk
  · rw [if_neg e] at hi hc h1 ⊢
    have hc' : c' = c := by omega
    subst hc'
    by_cases e2 : i = c'
    · rw [if_pos e2, e2]; exact h2 k hk
    · rw [if_neg e2, h3 _ (by omega) (by omega)]; exact h1 i (by omega) k hk
theorem dX3_forget_0 : decode cX3_forget 0 = .ok (.aload_n 0, 1) := by decide +kernel
theorem dX3_forget_1 : decode cX3_forget 1 = .ok (.iconst 0, 1) := by decide +kernel
theorem dX3_forget_2 : decode cX3_forget 2 = .ok (.putfield 18, 3) := by decide +kernel
theorem dX3_forget_5 : decode cX3_forget 5 = .ok (.return_, 1) := by decide +kernel
set_option maxRecDepth 100000 in
set_option maxHeartbeats 4000000 in
theorem c_X3_forget (l : Launch) (G : GT) (n : Nat) (h : AH) (P fi k : Nat) (D : Nat → Nat → Nat) (hP : pst P fi k D h) : Ct l yX3_forget cX3_forget 1 none 1 0 0 G n h [.ref P] (Rv n (fun h' => h' = up h P (.inr (2, [.ref (P + 1), .int (nI fi), .int (nI 0)])))) := by
  obtain ⟨⟨hfi, hk⟩, hop, ⟨fA, hfA, hA⟩, hJ, hD⟩ := id hP
  refine Ct_of mX3_forget.1 (Nat.le_of_ble_eq_true rfl) ?_
  intro p₀ e₀ s₀ m₀ as₀ bl₀ me₀ c₀ C hin
  refine V_Le (L' := [(0, .ref P)]) rfl ?_
  refine V_aload_n 1 C dX3_forget_0 rfl rfl ?_
  refine V_iconst 2 C dX3_forget_1 rfl ic0 ?_
  refine V_put (fs' := [_, _, _]) (k := 2) 5 C dX3_forget_2 rfl fcX3 tw182 (by decide) rfl rfl hop rfl rfl (Nat.le_of_ble_eq_true rfl) rfl ?_
  refine V_return C dX3_forget_5 rfl (by omega) (by omega) ?_
  exact ⟨rfl, rfl, rfl⟩

theorem dX3_prepare_0 : decode cX3_prepare 0 = .ok (.aload_n 0, 1) := by decide +kernel
theorem dX3_prepare_1 : decode cX3_prepare 1 = .ok (.getfield 13, 3) := by decide +kernel
theorem dX3_prepare_4 : decode cX3_prepare 4 = .ok (.aload_n 0, 1) := by decide +kernel
theorem dX3_prepare_5 : decode cX3_prepare 5 = .ok (.getfield 22, 3) := by decide +kernel
theorem dX3_prepare_8 : decode cX3_prepare 8 = .ok (.aload_n 0, 1) := by decide +kernel
theorem dX3_prepare_9 : decode cX3_prepare 9 = .ok (.getfield 18, 3) := by decide +kernel
theorem dX3_prepare_12 : decode cX3_prepare 12 = .ok (.iadd, 1) := by decide +kernel
theorem dX3_prepare_13 : decode cX3_prepare 13 = .ok (.bipush 15, 2) := by decide +kernel
theorem dX3_prepare_15 : decode cX3_prepare 15 = .ok (.irem, 1) := by decide +kernel
theorem dX3_prepare_16 : decode cX3_prepare 16 = .ok (.aaload, 1) := by decide +kernel
theorem dX3_prepare_17 : decode cX3_prepare 17 = .ok (.aload_n 1, 1) := by decide +kernel
theorem dX3_prepare_18 : decode cX3_prepare 18 = .ok (.invokevirtual 25, 3) := by decide +kernel
theorem dX3_prepare_21 : decode cX3_prepare 21 = .ok (.return_, 1) := by decide +kernel
set_option maxRecDepth 100000 in
set_option maxHeartbeats 4000000 in
theorem c_X3_prepare (l : Launch) (G : GT) (n : Nat) (h : AH) (P fi k : Nat) (D : Nat → Nat → Nat) (hP : pst P fi k D h) (q : Nat) (y : Nat → Nat) (hC : cty q y h) (hI : Iv y) (hd : q + 32 ≤ P ∨ P + 482 ≤ q) : Ct l yX3_prepare cX3_prepare 2 none 3 0 0 G n h [.ref P, .ref q] (Rv n (fun h' => pstP P fi k D y h' ∧ FP P h h')) := by
  obtain ⟨⟨hfi, hk⟩, hop, ⟨fA, hfA, hA⟩, hJ, hD⟩ := id hP
  have hm := Nat.mod_lt (fi + k) (show 0 < 15 by omega)
  obtain ⟨z, hz⟩ := hJ _ hm
  refine Ct_of mX3_prepare.1 (Nat.le_of_ble_eq_true rfl) ?_
  intro p₀ e₀ s₀ m₀ as₀ bl₀ me₀ c₀ C hin
  refine V_Le (L' := [(0, .ref P), (1, .ref q)]) rfl ?_
  refine V_aload_n 1 C dX3_prepare_0 rfl rfl ?_
  refine V_get (k := 0) 4 C dX3_prepare_1 rfl fcX3 tw180 (by decide) rfl hop rfl ?_
  refine V_aload_n 5 C dX3_prepare_4 rfl rfl ?_
  refine V_get (k := 1) 8 C dX3_prepare_5 rfl fcX3 tw181 (by decide) rfl hop rfl ?_
  refine V_aload_n 9 C dX3_prepare_8 rfl rfl ?_
  refine V_get (k := 2) 12 C dX3_prepare_9 rfl fcX3 tw182 (by decide) rfl hop rfl ?_
  refine V_iaddN 13 C dX3_prepare_12 rfl  ?_
  refine V_bipush 15 C dX3_prepare_13 rfl bip15 ?_
  refine V_iremN 16 C dX3_prepare_15 rfl (by omega) (by omega) (by omega) ?_
  refine V_aald (j := (fi + k) % 15) 17 C dX3_prepare_16 rfl hfA rfl rfl (by omega) (by omega) (hA _ hm) ?_
  refine V_aload_n 18 C dX3_prepare_17 rfl rfl ?_
  refine V_callV 21 C dX3_prepare_18 rfl mX1_copyFrom tw638 fcX1 hz.1 (c_X1_copyFrom l G _ _ _ q z y hz hC hI (by omega)) rfl rfl (by decide) ⟨by omega, by omega⟩ (Nat.le_of_ble_eq_true rfl) ?_
  rintro _ _ h2 ⟨rfl, rfl, hC2, hF2⟩
  refine V_return C dX3_prepare_21 rfl (by omega) (by omega) ?_
  exact ⟨rfl, rfl, hP.spare hC2 hF2, fun a ha => hF2 a (by omega)⟩

theorem dX3_keepPrepared_0 : decode cX3_keepPrepared 0 = .ok (.aload_n 0, 1) := by decide +kernel
theorem dX3_keepPrepared_1 : decode cX3_keepPrepared 1 = .ok (.getfield 18, 3) := by decide +kernel
theorem dX3_keepPrepared_4 : decode cX3_keepPrepared 4 = .ok (.bipush 14, 2) := by decide +kernel
theorem dX3_keepPrepared_6 : decode cX3_keepPrepared 6 = .ok (.if_icmp .ge 16, 3) := by decide +kernel
theorem dX3_keepPrepared_9 : decode cX3_keepPrepared 9 = .ok (.aload_n 0, 1) := by decide +kernel
theorem dX3_keepPrepared_10 : decode cX3_keepPrepared 10 = .ok (.dup, 1) := by decide +kernel
theorem dX3_keepPrepared_11 : decode cX3_keepPrepared 11 = .ok (.getfield 18, 3) := by decide +kernel
theorem dX3_keepPrepared_14 : decode cX3_keepPrepared 14 = .ok (.iconst 1, 1) := by decide +kernel
theorem dX3_keepPrepared_15 : decode cX3_keepPrepared 15 = .ok (.iadd, 1) := by decide +kernel
theorem dX3_keepPrepared_16 : decode cX3_keepPrepared 16 = .ok (.putfield 18, 3) := by decide +kernel
theorem dX3_keepPrepared_19 : decode cX3_keepPrepared 19 = .ok (.goto 16, 3) := by decide +kernel
theorem dX3_keepPrepared_22 : decode cX3_keepPrepared 22 = .ok (.aload_n 0, 1) := by decide +kernel
theorem dX3_keepPrepared_23 : decode cX3_keepPrepared 23 = .ok (.aload_n 0, 1) := by decide +kernel
theorem dX3_keepPrepared_24 : decode cX3_keepPrepared 24 = .ok (.getfield 22, 3) := by decide +kernel
theorem dX3_keepPrepared_27 : decode cX3_keepPrepared 27 = .ok (.iconst 1, 1) := by decide +kernel
theorem dX3_keepPrepared_28 : decode cX3_keepPrepared 28 = .ok (.iadd, 1) := by decide +kernel
theorem dX3_keepPrepared_29 : decode cX3_keepPrepared 29 = .ok (.bipush 15, 2) := by decide +kernel
theorem dX3_keepPrepared_31 : decode cX3_keepPrepared 31 = .ok (.irem, 1) := by decide +kernel
theorem dX3_keepPrepared_32 : decode cX3_keepPrepared 32 = .ok (.putfield 22, 3) := by decide +kernel
theorem dX3_keepPrepared_35 : decode cX3_keepPrepared 35 = .ok (.return_, 1) := by decide +kernel
set_option maxRecDepth 100000 in
set_option maxHeartbeats 4000000 in
theorem c_X3_keepPrepared (l : Launch) (G : GT) (n : Nat) (h : AH) (P fi k : Nat) (D : Nat → Nat → Nat) (y : Nat → Nat) (hP : pstP P fi k D y h) : Ct l yX3_keepPrepared cX3_keepPrepared 1 none 1 0 0 G n h [.ref P] (Rv n (fun h' => pst P (psF fi k) (psC k) (psD k D y) h' ∧ ∀ a, ¬ a = P → h' a = h a)) := by
  obtain ⟨⟨hfi, hk⟩, hop, -, -, -⟩ := id hP.1
  have hK := hP.keep
  refine Ct_of mX3_keepPrepared.1 (Nat.le_of_ble_eq_true rfl) ?_
  intro p₀ e₀ s₀ m₀ as₀ bl₀ me₀ c₀ C hin
  refine V_Le (L' := [(0, .ref P)]) rfl ?_
  refine V_aload_n 1 C dX3_keepPrepared_0 rfl rfl ?_
  refine V_get (k := 2) 4 C dX3_keepPrepared_1 rfl fcX3 tw182 (by decide) rfl hop rfl ?_
  refine V_bipush 6 C dX3_keepPrepared_4 rfl bip14 ?_
  refine V_icmp_geN 22 9 C dX3_keepPrepared_6 (by decide) rfl (by omega) (by omega) (fun c6 => ?_) (fun c6 => ?_)
  · have e1 : psF fi k = (fi + 1) % 15 := if_pos (by omega)
    have e2 : psC k = k := (if_pos (by omega : k = 14)).trans (by omega)
    rw [e1, e2] at hK ⊢
    refine V_aload_n 23 C dX3_keepPrepared_22 rfl rfl ?_
    refine V_aload_n 24 C dX3_keepPrepared_23 rfl rfl ?_
    refine V_get (k := 1) 27 C dX3_keepPrepared_24 rfl fcX3 tw181 (by decide) rfl hop rfl ?_
    refine V_iconst 28 C dX3_keepPrepared_27 rfl ic1 ?_
    refine V_iaddN 29 C dX3_keepPrepared_28 rfl  ?_
    refine V_bipush 31 C dX3_keepPrepared_29 rfl bip15 ?_
    refine V_iremN 32 C dX3_keepPrepared_31 rfl (by omega) (by omega) (by omega) ?_
    refine V_put (fs' := [_, _, _]) (k := 1) 35 C dX3_keepPrepared_32 rfl fcX3 tw181 (by decide) rfl rfl hop rfl rfl (Nat.le_of_ble_eq_true rfl) rfl ?_
    refine V_return C dX3_keepPrepared_35 rfl (by omega) (by omega) ?_
    exact ⟨rfl, rfl, hK, fun a ha => up_n _ ha⟩
  · have e1 : psF fi k = fi := if_neg (by omega)
    have e2 : psC k = k + 1 := if_neg (by omega)
    rw [e1, e2] at hK ⊢
    refine V_aload_n 10 C dX3_keepPrepared_9 rfl rfl ?_
    refine V_dup 11 C dX3_keepPrepared_10 rfl rfl ?_
    refine V_get (k := 2) 14 C dX3_keepPrepared_11 rfl fcX3 tw182 (by decide) rfl hop rfl ?_
    refine V_iconst 15 C dX3_keepPrepared_14 rfl ic1 ?_
    refine V_iaddN 16 C dX3_keepPrepared_15 rfl  ?_
    refine V_put (fs' := [_, _, _]) (k := 2) 19 C dX3_keepPrepared_16 rfl fcX3 tw182 (by decide) rfl rfl hop rfl rfl (Nat.le_of_ble_eq_true rfl) rfl ?_
    refine V_goto 35 C dX3_keepPrepared_19 (by decide) ?_
    refine V_return C dX3_keepPrepared_35 rfl (by omega) (by omega) ?_
    exact ⟨rfl, rfl, hK, fun a ha => up_n _ ha⟩

theorem dX3_takeBack_0 : decode cX3_takeBack 0 = .ok (.aload_n 0, 1) := by decide +kernel
theorem dX3_takeBack_1 : decode cX3_takeBack 1 = .ok (.getfield 18, 3) := by decide +kernel
theorem dX3_takeBack_4 : decode cX3_takeBack 4 = .ok (.ifCond .le 34, 3) := by decide +kernel
theorem dX3_takeBack_7 : decode cX3_takeBack 7 = .ok (.aload_n 0, 1) := by decide +kernel
theorem dX3_takeBack_8 : decode cX3_takeBack 8 = .ok (.dup, 1) := by decide +kernel
theorem dX3_takeBack_9 : decode cX3_takeBack 9 = .ok (.getfield 18, 3) := by decide +kernel
theorem dX3_takeBack_12 : decode cX3_takeBack 12 = .ok (.iconst 1, 1) := by decide +kernel
theorem dX3_takeBack_13 : decode cX3_takeBack 13 = .ok (.isub, 1) := by decide +kernel
theorem dX3_takeBack_14 : decode cX3_takeBack 14 = .ok (.putfield 18, 3) := by decide +kernel
theorem dX3_takeBack_17 : decode cX3_takeBack 17 = .ok (.aload_n 1, 1) := by decide +kernel
theorem dX3_takeBack_18 : decode cX3_takeBack 18 = .ok (.aload_n 0, 1) := by decide +kernel
theorem dX3_takeBack_19 : decode cX3_takeBack 19 = .ok (.getfield 13, 3) := by decide +kernel
theorem dX3_takeBack_22 : decode cX3_takeBack 22 = .ok (.aload_n 0, 1) := by decide +kernel
theorem dX3_takeBack_23 : decode cX3_takeBack 23 = .ok (.getfield 22, 3) := by decide +kernel
theorem dX3_takeBack_26 : decode cX3_takeBack 26 = .ok (.aload_n 0, 1) := by decide +kernel
theorem dX3_takeBack_27 : decode cX3_takeBack 27 = .ok (.getfield 18, 3) := by decide +kernel
theorem dX3_takeBack_30 : decode cX3_takeBack 30 = .ok (.iadd, 1) := by decide +kernel
theorem dX3_takeBack_31 : decode cX3_takeBack 31 = .ok (.bipush 15, 2) := by decide +kernel
theorem dX3_takeBack_33 : decode cX3_takeBack 33 = .ok (.irem, 1) := by decide +kernel
theorem dX3_takeBack_34 : decode cX3_takeBack 34 = .ok (.aaload, 1) := by decide +kernel
theorem dX3_takeBack_35 : decode cX3_takeBack 35 = .ok (.invokevirtual 25, 3) := by decide +kernel
theorem dX3_takeBack_38 : decode cX3_takeBack 38 = .ok (.aload_n 0, 1) := by decide +kernel
theorem dX3_takeBack_39 : decode cX3_takeBack 39 = .ok (.getfield 18, 3) := by decide +kernel
theorem dX3_takeBack_42 : decode cX3_takeBack 42 = .ok (.ireturn, 1) := by decide +kernel
set_option maxRecDepth 100000 in
set_option maxHeartbeats 4000000 in
theorem c_X3_takeBack (l : Launch) (G : GT) (n : Nat) (h : AH) (P fi k : Nat) (D : Nat → Nat → Nat) (hP : pst P fi k D h) (q : Nat) (x : Nat → Nat) (hC : cty q x h) (hI : Iv (D (k - 1))) (h0 : 0 < k) (hd : q + 32 ≤ P ∨ P + 482 ≤ q) : Ct l yX3_takeBack cX3_takeBack 2 (some .int) 3 0 0 G n h [.ref P, .ref q] (Ri (nI (k - 1)) n (fun h' => pst P fi (k - 1) D h' ∧ cty q (D (k - 1)) h' ∧ ∀ a, (¬ a = P ∧ (a < q ∨ q + 32 ≤ a)) → h' a = h a)) := by
  obtain ⟨⟨hfi, hk⟩, hop, ⟨fA, hfA, hA⟩, hJ, hD⟩ := id hP
  obtain ⟨j, rfl⟩ : ∃ j, k = j + 1 := ⟨k - 1, by omega⟩
  rw [Nat.add_sub_cancel] at hI
  have hm := Nat.mod_lt (fi + j) (show 0 < 15 by omega)
  have hDj := hD j (by omega)
  have hP1 : pst P fi j D (up h P (.inr (2, [.ref (P + 1), .int (nI fi), .int (nI j)]))) := hP.ob ⟨hfi, by omega⟩ (fun i hi => hD i (by omega))
  obtain ⟨-, hop1, -, -, -⟩ := id hP1
  refine Ct_of mX3_takeBack.1 (Nat.le_of_ble_eq_true rfl) ?_
  intro p₀ e₀ s₀ m₀ as₀ bl₀ me₀ c₀ C hin
  refine V_Le (L' := [(0, .ref P), (1, .ref q)]) rfl ?_
  refine V_aload_n 1 C dX3_takeBack_0 rfl rfl ?_
  refine V_get (k := 2) 4 C dX3_takeBack_1 rfl fcX3 tw182 (by decide) rfl hop rfl ?_
  refine V_if_leN 38 7 C dX3_takeBack_4 (by decide) rfl (by omega) (fun c4 => ?_) (fun c4 => ?_)
  · exfalso
    omega
  · refine V_aload_n 8 C dX3_takeBack_7 rfl rfl ?_
    refine V_dup 9 C dX3_takeBack_8 rfl rfl ?_
    refine V_get (k := 2) 12 C dX3_takeBack_9 rfl fcX3 tw182 (by decide) rfl hop rfl ?_
    refine V_iconst 13 C dX3_takeBack_12 rfl ic1 ?_
    refine V_isubN 14 C dX3_takeBack_13 rfl (by omega) ?_
    rw [Nat.add_sub_cancel]
    refine V_put (fs' := [_, _, _]) (k := 2) 17 C dX3_takeBack_14 rfl fcX3 tw182 (by decide) rfl rfl hop rfl rfl (Nat.le_of_ble_eq_true rfl) rfl ?_
    refine V_aload_n 18 C dX3_takeBack_17 rfl rfl ?_
    refine V_aload_n 19 C dX3_takeBack_18 rfl rfl ?_
    refine V_get (k := 0) 22 C dX3_takeBack_19 rfl fcX3 tw180 (by decide) rfl hop1 rfl ?_
    refine V_aload_n 23 C dX3_takeBack_22 rfl rfl ?_
    refine V_get (k := 1) 26 C dX3_takeBack_23 rfl fcX3 tw181 (by decide) rfl hop1 rfl ?_
    refine V_aload_n 27 C dX3_takeBack_26 rfl rfl ?_
    refine V_get (k := 2) 30 C dX3_takeBack_27 rfl fcX3 tw182 (by decide) rfl hop1 rfl ?_
    refine V_iaddN 31 C dX3_takeBack_30 rfl  ?_
    refine V_bipush 33 C dX3_takeBack_31 rfl bip15 ?_
    refine V_iremN 34 C dX3_takeBack_33 rfl (by omega) (by omega) (by omega) ?_
    refine V_aald (j := (fi + j) % 15) 35 C dX3_takeBack_34 rfl ((up_n _ (by omega)).trans hfA) rfl rfl (by omega) (by omega) (hA _ hm) ?_
    refine V_callV 38 C dX3_takeBack_35 rfl mX1_copyFrom tw638 fcX1 ((up_n _ (by omega)).trans hC.1) (c_X1_copyFrom l G _ _ q (P + 2 + 32 * ((fi + j) % 15)) x (D j) (hC.fr (fun a g1 g2 => up_n _ (by omega))) (hDj.fr (fun a g1 g2 => up_n _ (by omega))) hI (by omega)) rfl rfl (by decide) ⟨by omega, by omega⟩ (Nat.le_of_ble_eq_true rfl) ?_
    rintro _ _ h2 ⟨rfl, rfl, hC2, hF2⟩
    have hP2 : pst P fi j D h2 := hP1.fr (fun a g1 g2 => hF2 a (by omega))
    have hop2 := hP2.2.1
    refine V_aload_n 39 C dX3_takeBack_38 rfl rfl ?_
    refine V_get (k := 2) 42 C dX3_takeBack_39 rfl fcX3 tw182 (by decide) rfl hop2 rfl ?_
    refine V_ireturn C dX3_takeBack_42 rfl rfl (by omega) (by omega) ?_
    exact ⟨rfl, rfl, hP2, hC2, fun a ha => (hF2 a ha.2).trans (up_n _ ha.1)⟩

