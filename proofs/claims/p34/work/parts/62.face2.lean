/-! THE CLASS'S FACE: actions -/
theorem nIc {v : Nat} (h : v < 2 ^ 31) : ¬ nI v = cN ∧ ¬ nI v = cR ∧ ¬ nI v = cW := ⟨nIne (by omega) (by omega) (by omega), nIne (by omega) (by omega) (by omega), nIne (by omega) (by omega) (by omega)⟩
theorem cNR : ¬ cR = cN := by decide +kernel
theorem cNW : ¬ cW = cN := by decide +kernel
theorem cRW : ¬ cW = cR := by decide +kernel
/-- the number of an action's refusal -/
def kA (i1 i2 i3 : Nat) (v : Int32) : Nat := if v = cN then i1 else if v = cR then i2 else if v = cW then i3 else 0
theorem kA_0 {i1 i2 i3 : Nat} {v : Int32} (h : ¬ v = cN ∧ ¬ v = cR ∧ ¬ v = cW) : kA i1 i2 i3 v = 0 := by unfold kA; rw [if_neg h.1, if_neg h.2.1, if_neg h.2.2]
theorem kA_1 {i1 i2 i3 : Nat} {v : Int32} (h : v = cN) : kA i1 i2 i3 v = i1 := if_pos h
theorem kA_2 {i1 i2 i3 : Nat} {v : Int32} (h : v = cR) : kA i1 i2 i3 v = i2 := by unfold kA; rw [h, if_neg cNR, if_pos rfl]
theorem kA_3 {i1 i2 i3 : Nat} {v : Int32} (h : v = cW) : kA i1 i2 i3 v = i3 := by unfold kA; rw [h, if_neg cNW, if_neg cRW, if_pos rfl]
def aK (kk k : Nat) : Nat := if kk = 0 then psC k else k
def aD (kk k : Nat) (D : Nat → Nat → Nat) (y : Nat → Nat) : Nat → Nat → Nat := if kk = 0 then psD k D y else D
theorem PoA {x n i1 i2 i3 k N : Nat} {h h' : AH} {v : Int32} {y y2 : Nat → Nat} {D S : Nat → Nat → Nat} {sv : Nat → Bool} {T : Nat → Nat} (hn : ¬ v = cN ∧ ¬ v = cR ∧ ¬ v = cW) (hS : SysC x y2 (psC k) (psD k D y) S sv N T h') (hX : FX x h h') : PoC x h (kA i1 i2 i3 v) v y2 (aK (kA i1 i2 i3 v) k) (aD (kA i1 i2 i3 v) k D y) S sv N T (some (.int v)) n h' := by
  have e := kA_0 (i1 := i1) (i2 := i2) (i3 := i3) hn
  exact ⟨e, rfl, by rw [e]; exact hS, hX⟩
theorem PxA {x i1 i2 i3 k N : Nat} {h h' : AH} {v : Int32} {E : String} {Es : List String} {y y2 : Nat → Nat} {D S : Nat → Nat → Nat} {sv : Nat → Bool} {T : Nat → Nat} (hne : (v = cN → i1 ≠ 0 ∧ Es[i1 - 1]? = some ioE) ∧ (v = cR → i2 ≠ 0 ∧ Es[i2 - 1]? = some iaE) ∧ (v = cW → i3 ≠ 0 ∧ Es[i3 - 1]? = some isE)) (e : (v = cN ∧ E = ioE) ∨ (v = cR ∧ E = iaE) ∨ (v = cW ∧ E = isE)) (hS : SysC x y2 k D S sv N T h') (hX : FX x h h') : PxC x h (kA i1 i2 i3 v) Es y2 (aK (kA i1 i2 i3 v) k) (aD (kA i1 i2 i3 v) k D y) S sv N T E h' := by
  have key : ∀ i, kA i1 i2 i3 v = i → i ≠ 0 → Es[i - 1]? = some E → PxC x h (kA i1 i2 i3 v) Es y2 (aK (kA i1 i2 i3 v) k) (aD (kA i1 i2 i3 v) k D y) S sv N T E h' := by
    intro i ei hi hE
    have e1 : aK i k = k := if_neg hi
    have e2 : aD i k D y = D := if_neg hi
    rw [ei, e1, e2]
    exact ⟨hi, hE, hS, hX⟩
  rcases e with ⟨g, rfl⟩ | ⟨g, rfl⟩ | ⟨g, rfl⟩
  · exact key i1 (kA_1 g) (hne.1 g).1 (hne.1 g).2
  · exact key i2 (kA_2 g) (hne.2.1 g).1 (hne.2.1 g).2
  · exact key i3 (kA_3 g) (hne.2.2 g).1 (hne.2.2 g).2
/-- what an action can't answer -/
theorem aTw_c {y : Nat → Nat} (hI : Iv y) : ¬ (aTw y).1 = cN ∧ ¬ (aTw y).1 = cR := by
  have := hI.1
  unfold aTw
  split
  · have h := nIc (show y 0 < 2 ^ 31 by omega); exact ⟨h.1, h.2.1⟩
  · exact ⟨cNW, cRW⟩
theorem aRu_c {y : Nat → Nat} (hI : Iv y) (t : Int32) : ¬ (aRu y t).1 = cR := by
  have := hI.1
  unfold aRu
  split
  · split
    · exact (nIc (show y 2 < 2 ^ 31 by omega)).2.1
    · exact cRW
  · exact fun e => cNR e.symm
theorem aTk_c {y : Nat → Nat} (r s : Int32) : ¬ (aTk y r s).1 = cR := by
  unfold aTk
  split
  · split
    · next h => exact (nIc (by have := h.2.2.2; omega)).2.1
    · exact cRW
  · exact fun e => cNR e.symm
theorem pof_31 {y : Nat → Nat} (hI : Iv y) {s : Nat} (hs : s < y 4) (h : ¬ pof y s = NO) : pof y s < 2 ^ 31 := by
  have := hI.1
  rcases pof_b hI hs with e | e
  · omega
  · exact absurd e h
theorem aLy_c {y : Nat → Nat} (hI : Iv y) (s : Int32) : ¬ (aLy y s).1 = cR := by
  have := hI.1
  unfold aLy
  split
  · next hs =>
    split
    · next h => exact (nIc (pof_31 hI (z_ix hs) h.1)).2.1
    · exact cRW
  · exact fun e => cNR e.symm
theorem aGo_c {y : Nat → Nat} (hI : Iv y) (r w : Int32) : ¬ (aGo y r w).1 = cR := by
  have := hI.1
  unfold aGo
  split
  · next hs =>
    split
    · next h => have := goT_b hI (z r) (z_ix hs.2); exact (nIc (by omega)).2.1
    · exact cRW
  · exact fun e => cNR e.symm
theorem aCp_c {y : Nat → Nat} (s f : Int32) : ¬ (aCp y s f).1 = cW := by
  unfold aCp
  split
  · split
    · have := crs_le y (z s); exact (nIc (by omega)).2.2
    · exact fun e => cRW e.symm
  · exact fun e => cNW e.symm
theorem aPr_c {y : Nat → Nat} (a b c f : Int32) : ¬ (aPr y a b c f).1 = cW := by
  unfold aPr
  split
  · split
    · have := prs_le y (z a) (z b) (z c); exact (nIc (by omega)).2.2
    · exact fun e => cRW e.symm
  · exact fun e => cNW e.symm
theorem aHr_c {y : Nat → Nat} (hI : Iv y) (k : Int32) : ¬ (aHr y k).1 = cN ∧ ¬ (aHr y k).1 = cW := by
  unfold aHr
  split
  · next h =>
    have h1 := coms_le hI (z k)
    have h2 : z k ≤ 60 := by unfold z; omega
    have h3 := nIc (show coms y (z k) < 2 ^ 31 by omega)
    exact ⟨h3.1, h3.2.2⟩
  · exact ⟨cNR, fun e => cRW e.symm⟩
/-- with what is counted as refused -/
def cnt (x : Ar) : Nat → Nat := if x.1 = 0 ∨ x.1 = cN ∨ x.1 = cR ∨ x.1 = cW then x.2 else rfOn x.2
theorem obj_rf (q : Nat) (y : Nat → Nat) : obj q (rfOn y) = .inr (1, [.int (nI (y 0)), .int (nI (y 1)), .int (nI (y 2)), .int (nI (y 3)), .int (nI (y 4)), .int (nI (y 5)), .int (nI (y 6 + 1)), .ref (q + 1), .ref (q + 12), .ref (q + 18), .ref (q + 19)]) := by
  unfold obj rfOn
  rw [ys_s, ys_n _ (by omega), ys_n _ (by omega), ys_n _ (by omega), ys_n _ (by omega), ys_n _ (by omega), ys_n _ (by omega)]
theorem cty_same {q : Nat} {y y' : Nat → Nat} {h h' : AH} (hC : cty q y h) (h0 : h' q = some (obj q y')) (hF : ∀ a, q < a → a < q + 32 → h' a = h a) (e : ∀ j, j < 130 → ¬ j = 6 → ¬ j = 5 → y' j = y j) (hb : y 1 ≤ 10 ∧ y 2 ≤ 5 ∧ y 3 ≤ 6 ∧ y 4 ≤ 12) : cty q y' h' := by
  obtain ⟨hob, ⟨fR, hfR, hR⟩, ⟨fU, hfU, hU⟩, ⟨fS, hfS, hS⟩, ⟨fM, hfM, hM⟩, hRd, hRu, hSh⟩ := hC
  refine ⟨h0, ⟨fR, by rw [hF _ (by omega) (by omega)]; exact hfR, hR⟩, ⟨fU, by rw [hF _ (by omega) (by omega)]; exact hfU, hU⟩, ⟨fS, by rw [hF _ (by omega) (by omega)]; exact hfS, hS⟩, ⟨fM, by rw [hF _ (by omega) (by omega)]; exact hfM, fun i hi => ?_⟩, fun i hi => ?_, fun i hi => ?_, fun i hi => ?_⟩
  · rw [e 3 (by omega) (by omega) (by omega)] at hi
    rw [e (52 + i) (by omega) (by omega) (by omega)]
    exact hM i hi
  · obtain ⟨u, v, w, g, e2⟩ := hRd i hi
    exact ⟨u, v, w, by rw [hF _ (by omega) (by omega)]; exact g, fun zz => by rw [e 1 (by omega) (by omega) (by omega)] at zz; rw [e (7 + 3 * i) (by omega) (by omega) (by omega), e (7 + 3 * i + 1) (by omega) (by omega) (by omega), e (7 + 3 * i + 2) (by omega) (by omega) (by omega)]; exact e2 zz⟩
  · obtain ⟨u, v, w, g, e2⟩ := hRu i hi
    exact ⟨u, v, w, by rw [hF _ (by omega) (by omega)]; exact g, fun zz => by rw [e 2 (by omega) (by omega) (by omega)] at zz; rw [e (37 + 3 * i) (by omega) (by omega) (by omega), e (37 + 3 * i + 1) (by omega) (by omega) (by omega), e (37 + 3 * i + 2) (by omega) (by omega) (by omega)]; exact e2 zz⟩
  · obtain ⟨u, v, w, d1, d2, g, g1, g2⟩ := hSh i hi
    exact ⟨u, v, w, d1, d2, g, by rw [hF _ (by omega) (by omega)]; exact g1, fun zz => by rw [e 4 (by omega) (by omega) (by omega)] at zz; rw [e (58 + 6 * i) (by omega) (by omega) (by omega), e (58 + 6 * i + 1) (by omega) (by omega) (by omega), e (58 + 6 * i + 2) (by omega) (by omega) (by omega), e (58 + 6 * i + 3) (by omega) (by omega) (by omega), e (58 + 6 * i + 4) (by omega) (by omega) (by omega), e (58 + 6 * i + 5) (by omega) (by omega) (by omega)]; exact g2 zz⟩
theorem cty_rf {q : Nat} {y : Nat → Nat} {h : AH} (hC : cty q y h) (hb : y 1 ≤ 10 ∧ y 2 ≤ 5 ∧ y 3 ≤ 6 ∧ y 4 ≤ 12) : cty q (rfOn y) (up h q (obj q (rfOn y))) := cty_same hC (up_s _ _ _) (fun a g1 g2 => up_n _ (by omega)) (fun j _ hj _ => ys_n _ hj) hb
/-- no row but nothing alive: any row of zeros -/
theorem cty_0 {q : Nat} {y : Nat → Nat} {h : AH} (hC : cty q y h) (hz : ∀ j, j < 7 → y j = 0) : cty q (fun _ => 0) h := by
  obtain ⟨hob, hR, hU, hS, ⟨fM, hfM, hM⟩, hRd, hRu, hSh⟩ := hC
  have eo : obj q y = obj q (fun _ => 0) := by unfold obj; rw [hz 0 (by omega), hz 1 (by omega), hz 2 (by omega), hz 3 (by omega), hz 4 (by omega), hz 5 (by omega), hz 6 (by omega)]
  refine ⟨by rw [← eo]; exact hob, hR, hU, hS, ⟨fM, hfM, fun i hi => absurd hi (Nat.not_lt_zero i)⟩, fun i hi => ?_, fun i hi => ?_, fun i hi => ?_⟩
  · obtain ⟨a, b, c, g, -⟩ := hRd i hi
    exact ⟨a, b, c, g, fun e => absurd e (Nat.not_lt_zero i)⟩
  · obtain ⟨a, b, c, g, -⟩ := hRu i hi
    exact ⟨a, b, c, g, fun e => absurd e (Nat.not_lt_zero i)⟩
  · obtain ⟨a, b, c, d, e, g, g1, -⟩ := hSh i hi
    exact ⟨a, b, c, d, e, g, g1, fun e => absurd e (Nat.not_lt_zero i)⟩
theorem i2c_n {k : Nat} (h : k < 256) : ((nI k).toUInt32 % 65536).toInt32 = nI k := by
  have key : ((List.range 256).all fun k => decide (((nI k).toUInt32 % 65536).toInt32 = nI k)) = true := by decide +kernel
  exact of_decide_eq_true (List.all_eq_true.mp key k (List.mem_range.mpr h))
def aN (kk N : Nat) : Nat := if kk = 0 then N + 1 else N
def aTx (kk N : Nat) (T : Nat → Nat) (c : Nat) : Nat → Nat := if kk = 0 then ys T N c else T
theorem tx_add {X N ch : Nat} {T : Nat → Nat} {a0 lt : Int32} {f g : Nat → Int32} {h : AH} (hT : tx0 X T N a0 lt f g h) (hc : ch < 256) (h120 : N < 120) : tx0 X (ys T N ch) (N + 1) a0 lt (upd f N (nI ch)) g (up (up h (X + 1) (aC (upd f N (nI ch)))) X (txo X (nI (N + 1)) a0 lt)) := by
  obtain ⟨h0, h1, h2, h3, h4⟩ := hT
  refine ⟨by omega, up_s _ _ _, by rw [up_n _ (by omega)]; exact up_s _ _ _, by rw [up_n _ (by omega), up_n _ (by omega)]; exact h3, fun i hi => ?_⟩
  by_cases e : i = N
  · rw [e, pk_us, ys_s]; exact ⟨rfl, hc⟩
  · rw [pk_un e, ys_n _ e]; exact h4 i (by omega)
theorem barI (b : Bool) : vp_nar .boolean (nI b.toNat) = nI b.toNat := by cases b <;> decide
theorem bar0 : vp_nar .boolean (nI 0) = nI 0 := by decide
theorem bar1 : vp_nar .boolean (nI 1) = nI 1 := by decide
def sA (kk j : Nat) (y : Nat → Nat) (S : Nat → Nat → Nat) : Nat → Nat → Nat := if kk = 0 then (fun i => if i = j then y else S i) else S
def sB (kk j : Nat) (sv : Nat → Bool) : Nat → Bool := if kk = 0 then (fun i => if i = j then true else sv i) else sv
theorem dX9_settled_0 : decode cX9_settled 0 = .ok (.iload_n 1, 1) := by decide +kernel
theorem dX9_settled_1 : decode cX9_settled 1 = .ok (.bipush (-2), 2) := by decide +kernel
theorem dX9_settled_3 : decode cX9_settled 3 = .ok (.if_icmp .ne 14, 3) := by decide +kernel
theorem dX9_settled_6 : decode cX9_settled 6 = .ok (.new 313, 3) := by decide +kernel
theorem dX9_settled_9 : decode cX9_settled 9 = .ok (.dup, 1) := by decide +kernel
theorem dX9_settled_10 : decode cX9_settled 10 = .ok (.ldc_w 315, 3) := by decide +kernel
theorem dX9_settled_13 : decode cX9_settled 13 = .ok (.invokespecial 317, 3) := by decide +kernel
theorem dX9_settled_16 : decode cX9_settled 16 = .ok (.athrow, 1) := by decide +kernel
theorem dX9_settled_17 : decode cX9_settled 17 = .ok (.iload_n 1, 1) := by decide +kernel
theorem dX9_settled_18 : decode cX9_settled 18 = .ok (.bipush (-3), 2) := by decide +kernel
theorem dX9_settled_20 : decode cX9_settled 20 = .ok (.if_icmp .ne 14, 3) := by decide +kernel
theorem dX9_settled_23 : decode cX9_settled 23 = .ok (.new 117, 3) := by decide +kernel
theorem dX9_settled_26 : decode cX9_settled 26 = .ok (.dup, 1) := by decide +kernel
theorem dX9_settled_27 : decode cX9_settled 27 = .ok (.ldc_w 322, 3) := by decide +kernel
theorem dX9_settled_30 : decode cX9_settled 30 = .ok (.invokespecial 121, 3) := by decide +kernel
theorem dX9_settled_33 : decode cX9_settled 33 = .ok (.athrow, 1) := by decide +kernel
theorem dX9_settled_34 : decode cX9_settled 34 = .ok (.iload_n 1, 1) := by decide +kernel
theorem dX9_settled_35 : decode cX9_settled 35 = .ok (.bipush (-4), 2) := by decide +kernel
theorem dX9_settled_37 : decode cX9_settled 37 = .ok (.if_icmp .ne 14, 3) := by decide +kernel
theorem dX9_settled_40 : decode cX9_settled 40 = .ok (.new 56, 3) := by decide +kernel
theorem dX9_settled_43 : decode cX9_settled 43 = .ok (.dup, 1) := by decide +kernel
theorem dX9_settled_44 : decode cX9_settled 44 = .ok (.ldc_w 324, 3) := by decide +kernel
theorem dX9_settled_47 : decode cX9_settled 47 = .ok (.invokespecial 60, 3) := by decide +kernel
theorem dX9_settled_50 : decode cX9_settled 50 = .ok (.athrow, 1) := by decide +kernel
theorem dX9_settled_51 : decode cX9_settled 51 = .ok (.aload_n 0, 1) := by decide +kernel
theorem dX9_settled_52 : decode cX9_settled 52 = .ok (.getfield 22, 3) := by decide +kernel
theorem dX9_settled_55 : decode cX9_settled 55 = .ok (.invokevirtual 326, 3) := by decide +kernel
theorem dX9_settled_58 : decode cX9_settled 58 = .ok (.iload_n 1, 1) := by decide +kernel
theorem dX9_settled_59 : decode cX9_settled 59 = .ok (.ireturn, 1) := by decide +kernel
set_option maxRecDepth 100000 in
set_option maxHeartbeats 4000000 in
theorem c_X9_settled (l : Launch) (G : GT) (n : Nat) (h : AH) (hl : l.stackTraces = false) (x : Nat) (hob : h x = some (obC x)) (fi k : Nat) (D : Nat → Nat → Nat) (y : Nat → Nat) (hP : pstP (x + 65) fi k D y h) (v : Int32) : CX l yX9_settled cX9_settled 2 (some .int) 6 1 6 G n h [.ref x, .int v] (fun v' n' h' => v' = some (.int v) ∧ (¬ v = cN ∧ ¬ v = cR ∧ ¬ v = cW) ∧ n = n' ∧ pst (x + 65) (psF fi k) (psC k) (psD k D y) h' ∧ ∀ a, ¬ a = x + 65 → h' a = h a) (fun E h' => ((v = cN ∧ E = ioE) ∨ (v = cR ∧ E = iaE) ∨ (v = cW ∧ E = isE)) ∧ h' = h) := by
  refine CX_of mX9_settled.1 (Nat.le_of_ble_eq_true rfl) ?_
  intro p₀ e₀ s₀ m₀ as₀ bl₀ me₀ c₀ C hE
  refine V_Le (L' := [(0, .ref x), (1, .int v)]) rfl ?_
  refine V_iload_n 1 C dX9_settled_0 rfl rfl ?_
  refine V_bipush 3 C dX9_settled_1 rfl bipm2 ?_
  refine V_icmp_ne 17 6 C dX9_settled_3 (by decide) rfl  (fun c3 => ?_) (fun c3 => ?_)
  · refine V_iload_n 18 C dX9_settled_17 rfl rfl ?_
    refine V_bipush 20 C dX9_settled_18 rfl bipm3 ?_
    refine V_icmp_ne 34 23 C dX9_settled_20 (by decide) rfl  (fun c20 => ?_) (fun c20 => ?_)
    · refine V_iload_n 35 C dX9_settled_34 rfl rfl ?_
      refine V_bipush 37 C dX9_settled_35 rfl bipm4 ?_
      refine V_icmp_ne 51 40 C dX9_settled_37 (by decide) rfl  (fun c37 => ?_) (fun c37 => ?_)
      · refine V_aload_n 52 C dX9_settled_51 rfl rfl ?_
        refine V_get (k := 2) 55 C dX9_settled_52 rfl fcX9 tw230 (by decide) rfl hob rfl ?_
        refine V_callV 58 C dX9_settled_55 rfl mX3_keepPrepared tw660 fcX3 hP.1.2.1 (c_X3_keepPrepared l G _ _ (x + 65) fi k D y hP) rfl rfl (by decide) ⟨by omega, by omega⟩ (Nat.le_of_ble_eq_true rfl) ?_
        rintro _ _ h5 ⟨rfl, rfl, hP5, hF5⟩
        refine V_iload_n 59 C dX9_settled_58 rfl rfl ?_
        refine V_x (V_ireturn C dX9_settled_59 rfl rfl (by omega) (by omega) ?_)
        exact ⟨rfl, ⟨c3, c20, c37⟩, rfl, hP5, hF5⟩
      · exact V_throwW C hl hE thIS (show (324, "this cannot be done now") ∈ strL from by decide +kernel) dX9_settled_40 dX9_settled_43 dX9_settled_44 dX9_settled_47 dX9_settled_50 (by decide) ⟨by omega, by omega⟩ (Nat.le_of_ble_eq_true rfl) ⟨Or.inr (Or.inr ⟨c37, rfl⟩), rfl⟩
    · exact V_throwW C hl hE thIA (show (322, "an argument is out of its range") ∈ strL from by decide +kernel) dX9_settled_23 dX9_settled_26 dX9_settled_27 dX9_settled_30 dX9_settled_33 (by decide) ⟨by omega, by omega⟩ (Nat.le_of_ble_eq_true rfl) ⟨Or.inr (Or.inl ⟨c20, rfl⟩), rfl⟩
  · exact V_throwW C hl hE thIO (show (315, "there is no such thing") ∈ strL from by decide +kernel) dX9_settled_6 dX9_settled_9 dX9_settled_10 dX9_settled_13 dX9_settled_16 (by decide) ⟨by omega, by omega⟩ (Nat.le_of_ble_eq_true rfl) ⟨Or.inl ⟨c3, rfl⟩, rfl⟩

theorem dX9_counted_0 : decode cX9_counted 0 = .ok (.iload_n 1, 1) := by decide +kernel
theorem dX9_counted_1 : decode cX9_counted 1 = .ok (.ifCond .eq 16, 3) := by decide +kernel
theorem dX9_counted_4 : decode cX9_counted 4 = .ok (.aload_n 0, 1) := by decide +kernel
theorem dX9_counted_5 : decode cX9_counted 5 = .ok (.getfield 10, 3) := by decide +kernel
theorem dX9_counted_8 : decode cX9_counted 8 = .ok (.dup, 1) := by decide +kernel
theorem dX9_counted_9 : decode cX9_counted 9 = .ok (.getfield 111, 3) := by decide +kernel
theorem dX9_counted_12 : decode cX9_counted 12 = .ok (.iconst 1, 1) := by decide +kernel
theorem dX9_counted_13 : decode cX9_counted 13 = .ok (.iadd, 1) := by decide +kernel
theorem dX9_counted_14 : decode cX9_counted 14 = .ok (.putfield 111, 3) := by decide +kernel
theorem dX9_counted_17 : decode cX9_counted 17 = .ok (.iload_n 1, 1) := by decide +kernel
theorem dX9_counted_18 : decode cX9_counted 18 = .ok (.ireturn, 1) := by decide +kernel
set_option maxRecDepth 100000 in
set_option maxHeartbeats 4000000 in
theorem c_X9_counted (l : Launch) (G : GT) (n : Nat) (h : AH) (x : Nat) (hob : h x = some (obC x)) (y : Nat → Nat) (hC : cty (x + 1) y h) (hb : y 0 ≤ 6 ∧ y 1 ≤ 10 ∧ y 2 ≤ 5 ∧ y 3 ≤ 6 ∧ y 4 ≤ 12) (v : Int32) : Ct l yX9_counted cX9_counted 2 (some .int) 1 0 0 G n h [.ref x, .int v] (fun v' n' h' => v' = some (.int v) ∧ n = n' ∧ cty (x + 1) (if v = 0 then y else rfOn y) h' ∧ FR (x + 1) h h') := by
  refine Ct_of mX9_counted.1 (Nat.le_of_ble_eq_true rfl) ?_
  intro p₀ e₀ s₀ m₀ as₀ bl₀ me₀ c₀ C hin
  refine V_Le (L' := [(0, .ref x), (1, .int v)]) rfl ?_
  refine V_iload_n 1 C dX9_counted_0 rfl rfl ?_
  refine V_if_eq 17 4 C dX9_counted_1 (by decide) rfl  (fun c1 => ?_) (fun c1 => ?_)
  · have hC2 : cty (x + 1) (if v = 0 then y else rfOn y) h := by rw [if_pos c1]; exact hC
    have hF2 : FR (x + 1) h h := FR.rf
    refine V_iload_n 18 C dX9_counted_17 rfl rfl ?_
    refine V_ireturn C dX9_counted_18 rfl rfl (by omega) (by omega) ?_
    exact ⟨rfl, rfl, hC2, hF2⟩
  · refine V_aload_n 5 C dX9_counted_4 rfl rfl ?_
    refine V_get (k := 0) 8 C dX9_counted_5 rfl fcX9 tw228 (by decide) rfl hob rfl ?_
    refine V_dup 9 C dX9_counted_8 rfl rfl ?_
    refine V_get (k := 6) 12 C dX9_counted_9 rfl fcX1 tw136 (by decide) rfl hC.1 rfl ?_
    refine V_iconst 13 C dX9_counted_12 rfl ic1 ?_
    refine V_iaddN 14 C dX9_counted_13 rfl  ?_
    refine V_put (fs' := [_, _, _, _, _, _, _, _, _, _, _]) (k := 6) 17 C dX9_counted_14 rfl fcX1 tw136 (by decide) rfl rfl hC.1 rfl rfl (Nat.le_of_ble_eq_true rfl) rfl ?_
    rw [← obj_rf]
    have hC2 : cty (x + 1) (if v = 0 then y else rfOn y) (up h (x + 1) (obj (x + 1) (rfOn y))) := by rw [if_neg c1]; exact cty_rf hC hb.2
    have hF2 : FR (x + 1) h (up h (x + 1) (obj (x + 1) (rfOn y))) := fun a ha => up_n _ (by omega)
    refine V_iload_n 18 C dX9_counted_17 rfl rfl ?_
    refine V_ireturn C dX9_counted_18 rfl rfl (by omega) (by omega) ?_
    exact ⟨rfl, rfl, hC2, hF2⟩

theorem dX9_town_0 : decode cX9_town 0 = .ok (.aload_n 0, 1) := by decide +kernel
theorem dX9_town_1 : decode cX9_town 1 = .ok (.getfield 22, 3) := by decide +kernel
theorem dX9_town_4 : decode cX9_town 4 = .ok (.aload_n 0, 1) := by decide +kernel
theorem dX9_town_5 : decode cX9_town 5 = .ok (.getfield 10, 3) := by decide +kernel
theorem dX9_town_8 : decode cX9_town 8 = .ok (.invokevirtual 214, 3) := by decide +kernel
theorem dX9_town_11 : decode cX9_town 11 = .ok (.aload_n 0, 1) := by decide +kernel
theorem dX9_town_12 : decode cX9_town 12 = .ok (.aload_n 0, 1) := by decide +kernel
theorem dX9_town_13 : decode cX9_town 13 = .ok (.getfield 10, 3) := by decide +kernel
theorem dX9_town_16 : decode cX9_town 16 = .ok (.invokevirtual 218, 3) := by decide +kernel
theorem dX9_town_19 : decode cX9_town 19 = .ok (.invokevirtual 221, 3) := by decide +kernel
theorem dX9_town_22 : decode cX9_town 22 = .ok (.ireturn, 1) := by decide +kernel
set_option maxRecDepth 100000 in
set_option maxHeartbeats 4000000 in
theorem c_X9_town (l : Launch) (G : GT) (n : Nat) (h : AH) (hl : l.stackTraces = false) (x : Nat) (y : Nat → Nat) (k : Nat) (D S : Nat → Nat → Nat) (sv : Nat → Bool) (N : Nat) (T : Nat → Nat) (hS : SysC x y k D S sv N T h) (hI : SI y k D S sv N T) : CX l yX9_town cX9_town 1 (some .int) 8 4 24 G n h [.ref x] (PoC x h (kA 1 1 1 (aTw y).1) ((aTw y).1) (aTw y).2 (aK (kA 1 1 1 (aTw y).1) k) (aD (kA 1 1 1 (aTw y).1) k D y) S sv N T) (PxC x h (kA 1 1 1 (aTw y).1) [isE] (aTw y).2 (aK (kA 1 1 1 (aTw y).1) k) (aD (kA 1 1 1 (aTw y).1) k D y) S sv N T) := by
  have NE := NO_eq
  obtain ⟨w0, w1, ⟨z2, w2⟩, ⟨fi, w3⟩, ⟨pf, pg, w4⟩, ⟨tp, tlt, tf, tg, w5⟩, ⟨f6, w6, v6⟩, w7, w8, ⟨g9, w9, v9⟩⟩ := id hS
  obtain ⟨hIy, hk14, hID, hIS, hN, hT⟩ := id hI
  obtain ⟨⟨i0, i1, i2, i3, i4⟩, iR, iU, iM, iS⟩ := id hIy
  obtain ⟨yob, ⟨fR, hfR, hR⟩, ⟨fU, hfU, hU⟩, ⟨fS, hfS, hSS⟩, ⟨fM, hfM, hM⟩, -, -, -⟩ := id w1
  refine CX_of mX9_town.1 (Nat.le_of_ble_eq_true rfl) ?_
  intro p₀ e₀ s₀ m₀ as₀ bl₀ me₀ c₀ C hE
  refine V_Le (L' := [(0, .ref x)]) rfl ?_
  refine V_aload_n 1 C dX9_town_0 rfl rfl ?_
  refine V_get (k := 2) 4 C dX9_town_1 rfl fcX9 tw230 (by decide) rfl w0 rfl ?_
  refine V_aload_n 5 C dX9_town_4 rfl rfl ?_
  refine V_get (k := 0) 8 C dX9_town_5 rfl fcX9 tw228 (by decide) rfl w0 rfl ?_
  refine V_callV 11 C dX9_town_8 rfl mX3_prepare tw634 fcX3 w3.2.1 (c_X3_prepare l G _ _ (x + 65) fi k D w3 (x + 1) y w1 hIy (by omega)) rfl rfl (by decide) ⟨by omega, by omega⟩ (Nat.le_of_ble_eq_true rfl) ?_
  rintro _ _ h1 ⟨rfl, rfl, hPp, hFp⟩
  have x0 : h1 x = some (obC x) := (hFp _ (by omega)).trans w0
  have x1 : cty (x + 1) y h1 := w1.fr (fun a _ _ => hFp a (by omega))
  have hSp : SysC x y k D S sv N T h1 := hS.past hPp.1 hFp
  refine V_aload_n 12 C dX9_town_11 rfl rfl ?_
  refine V_aload_n 13 C dX9_town_12 rfl rfl ?_
  refine V_get (k := 0) 16 C dX9_town_13 rfl fcX9 tw228 (by decide) rfl x0 rfl ?_
  refine V_callV 19 C dX9_town_16 rfl mX1_addTown tw654 fcX1 x1.1 (c_X1_addTown l G _ _ (x + 1) y x1 hIy) rfl rfl (by decide) ⟨by omega, by omega⟩ (Nat.le_of_ble_eq_true rfl) ?_
  rintro _ _ h2 ⟨rfl, rfl, hC2, hF2⟩
  have y0 : h2 x = some (obC x) := (hF2 _ (by omega)).trans x0
  have hP2 : pstP (x + 65) fi k D y h2 := hPp.fr (fun a _ _ => hF2 a (by omega))
  have hS2 : SysC x (aTw y).2 k D S sv N T h2 := hSp.now hC2 hF2
  have hX2 : FX x h h2 := fun a ha => (hF2 a (by omega)).trans (hFp a (by omega))
  refine V_callVX 22 C hE dX9_town_19 rfl mX9_settled tw655 fcX9 y0 (c_X9_settled l G _ _ hl x y0 fi k D y hP2 _) rfl rfl (by decide) ⟨by omega, by omega⟩ (Nat.le_of_ble_eq_true rfl) (fun _ _ e => by obtain ⟨e1, rfl⟩ := e; exact PxA (⟨fun e => absurd e (aTw_c hIy).1, fun e => absurd e (aTw_c hIy).2, fun _ => ⟨by decide, rfl⟩⟩) e1 hS2 hX2) ?_
  rintro _ _ h5 ⟨rfl, hn5, rfl, hP5, hF5⟩
  have hS5 : SysC x (aTw y).2 (psC k) (psD k D y) S sv N T h5 := hS2.past hP5 (fun a ha => hF5 a (by omega))
  have hX5 : FX x h h5 := fun a ha => (hF5 a (by omega)).trans (hX2 a ha)
  refine V_x (V_ireturn C dX9_town_22 rfl rfl (by omega) (by omega) ?_)
  exact (PoA hn5 hS5 hX5)

theorem dX9_road_0 : decode cX9_road 0 = .ok (.aload_n 0, 1) := by decide +kernel
theorem dX9_road_1 : decode cX9_road 1 = .ok (.getfield 22, 3) := by decide +kernel
theorem dX9_road_4 : decode cX9_road 4 = .ok (.aload_n 0, 1) := by decide +kernel
theorem dX9_road_5 : decode cX9_road 5 = .ok (.getfield 10, 3) := by decide +kernel
theorem dX9_road_8 : decode cX9_road 8 = .ok (.invokevirtual 214, 3) := by decide +kernel
theorem dX9_road_11 : decode cX9_road 11 = .ok (.aload_n 0, 1) := by decide +kernel
theorem dX9_road_12 : decode cX9_road 12 = .ok (.aload_n 0, 1) := by decide +kernel
theorem dX9_road_13 : decode cX9_road 13 = .ok (.getfield 10, 3) := by decide +kernel
theorem dX9_road_16 : decode cX9_road 16 = .ok (.iload_n 1, 1) := by decide +kernel
theorem dX9_road_17 : decode cX9_road 17 = .ok (.iload_n 2, 1) := by decide +kernel
theorem dX9_road_18 : decode cX9_road 18 = .ok (.iload_n 3, 1) := by decide +kernel
theorem dX9_road_19 : decode cX9_road 19 = .ok (.invokevirtual 224, 3) := by decide +kernel
theorem dX9_road_22 : decode cX9_road 22 = .ok (.invokevirtual 221, 3) := by decide +kernel
theorem dX9_road_25 : decode cX9_road 25 = .ok (.ireturn, 1) := by decide +kernel
set_option maxRecDepth 100000 in
set_option maxHeartbeats 4000000 in
theorem c_X9_road (l : Launch) (G : GT) (n : Nat) (h : AH) (hl : l.stackTraces = false) (x : Nat) (y : Nat → Nat) (k : Nat) (D S : Nat → Nat → Nat) (sv : Nat → Bool) (N : Nat) (T : Nat → Nat) (hS : SysC x y k D S sv N T h) (hI : SI y k D S sv N T) (p1 : Int32) (p2 : Int32) (p3 : Int32) : CX l yX9_road cX9_road 4 (some .int) 8 4 24 G n h [.ref x, .int p1, .int p2, .int p3] (PoC x h (kA 1 2 3 (aRd y p1 p2 p3).1) ((aRd y p1 p2 p3).1) (aRd y p1 p2 p3).2 (aK (kA 1 2 3 (aRd y p1 p2 p3).1) k) (aD (kA 1 2 3 (aRd y p1 p2 p3).1) k D y) S sv N T) (PxC x h (kA 1 2 3 (aRd y p1 p2 p3).1) [ioE, iaE, isE] (aRd y p1 p2 p3).2 (aK (kA 1 2 3 (aRd y p1 p2 p3).1) k) (aD (kA 1 2 3 (aRd y p1 p2 p3).1) k D y) S sv N T) := by
  have NE := NO_eq
  obtain ⟨w0, w1, ⟨z2, w2⟩, ⟨fi, w3⟩, ⟨pf, pg, w4⟩, ⟨tp, tlt, tf, tg, w5⟩, ⟨f6, w6, v6⟩, w7, w8, ⟨g9, w9, v9⟩⟩ := id hS
  obtain ⟨hIy, hk14, hID, hIS, hN, hT⟩ := id hI
  obtain ⟨⟨i0, i1, i2, i3, i4⟩, iR, iU, iM, iS⟩ := id hIy
  obtain ⟨yob, ⟨fR, hfR, hR⟩, ⟨fU, hfU, hU⟩, ⟨fS, hfS, hSS⟩, ⟨fM, hfM, hM⟩, -, -, -⟩ := id w1
  refine CX_of mX9_road.1 (Nat.le_of_ble_eq_true rfl) ?_
  intro p₀ e₀ s₀ m₀ as₀ bl₀ me₀ c₀ C hE
  refine V_Le (L' := [(0, .ref x), (1, .int p1), (2, .int p2), (3, .int p3)]) rfl ?_
  refine V_aload_n 1 C dX9_road_0 rfl rfl ?_
  refine V_get (k := 2) 4 C dX9_road_1 rfl fcX9 tw230 (by decide) rfl w0 rfl ?_
  refine V_aload_n 5 C dX9_road_4 rfl rfl ?_
  refine V_get (k := 0) 8 C dX9_road_5 rfl fcX9 tw228 (by decide) rfl w0 rfl ?_
  refine V_callV 11 C dX9_road_8 rfl mX3_prepare tw634 fcX3 w3.2.1 (c_X3_prepare l G _ _ (x + 65) fi k D w3 (x + 1) y w1 hIy (by omega)) rfl rfl (by decide) ⟨by omega, by omega⟩ (Nat.le_of_ble_eq_true rfl) ?_
  rintro _ _ h1 ⟨rfl, rfl, hPp, hFp⟩
  have x0 : h1 x = some (obC x) := (hFp _ (by omega)).trans w0
  have x1 : cty (x + 1) y h1 := w1.fr (fun a _ _ => hFp a (by omega))
  have hSp : SysC x y k D S sv N T h1 := hS.past hPp.1 hFp
  refine V_aload_n 12 C dX9_road_11 rfl rfl ?_
  refine V_aload_n 13 C dX9_road_12 rfl rfl ?_
  refine V_get (k := 0) 16 C dX9_road_13 rfl fcX9 tw228 (by decide) rfl x0 rfl ?_
  refine V_iload_n 17 C dX9_road_16 rfl rfl ?_
  refine V_iload_n 18 C dX9_road_17 rfl rfl ?_
  refine V_iload_n 19 C dX9_road_18 rfl rfl ?_
  refine V_callV 22 C dX9_road_19 rfl mX1_addRoad tw671 fcX1 x1.1 (c_X1_addRoad l G _ _ (x + 1) y x1 hIy p1 p2 p3) rfl rfl (by decide) ⟨by omega, by omega⟩ (Nat.le_of_ble_eq_true rfl) ?_
  rintro _ _ h2 ⟨rfl, rfl, hC2, hF2⟩
  have y0 : h2 x = some (obC x) := (hF2 _ (by omega)).trans x0
  have hP2 : pstP (x + 65) fi k D y h2 := hPp.fr (fun a _ _ => hF2 a (by omega))
  have hS2 : SysC x (aRd y p1 p2 p3).2 k D S sv N T h2 := hSp.now hC2 hF2
  have hX2 : FX x h h2 := fun a ha => (hF2 a (by omega)).trans (hFp a (by omega))
  refine V_callVX 25 C hE dX9_road_22 rfl mX9_settled tw655 fcX9 y0 (c_X9_settled l G _ _ hl x y0 fi k D y hP2 _) rfl rfl (by decide) ⟨by omega, by omega⟩ (Nat.le_of_ble_eq_true rfl) (fun _ _ e => by obtain ⟨e1, rfl⟩ := e; exact PxA (⟨fun _ => ⟨by decide, rfl⟩, fun _ => ⟨by decide, rfl⟩, fun _ => ⟨by decide, rfl⟩⟩) e1 hS2 hX2) ?_
  rintro _ _ h5 ⟨rfl, hn5, rfl, hP5, hF5⟩
  have hS5 : SysC x (aRd y p1 p2 p3).2 (psC k) (psD k D y) S sv N T h5 := hS2.past hP5 (fun a ha => hF5 a (by omega))
  have hX5 : FX x h h5 := fun a ha => (hF5 a (by omega)).trans (hX2 a ha)
  refine V_x (V_ireturn C dX9_road_25 rfl rfl (by omega) (by omega) ?_)
  exact (PoA hn5 hS5 hX5)

theorem dX9_runner_0 : decode cX9_runner 0 = .ok (.aload_n 0, 1) := by decide +kernel
theorem dX9_runner_1 : decode cX9_runner 1 = .ok (.getfield 22, 3) := by decide +kernel
theorem dX9_runner_4 : decode cX9_runner 4 = .ok (.aload_n 0, 1) := by decide +kernel
theorem dX9_runner_5 : decode cX9_runner 5 = .ok (.getfield 10, 3) := by decide +kernel
theorem dX9_runner_8 : decode cX9_runner 8 = .ok (.invokevirtual 214, 3) := by decide +kernel
theorem dX9_runner_11 : decode cX9_runner 11 = .ok (.aload_n 0, 1) := by decide +kernel
theorem dX9_runner_12 : decode cX9_runner 12 = .ok (.aload_n 0, 1) := by decide +kernel
theorem dX9_runner_13 : decode cX9_runner 13 = .ok (.getfield 10, 3) := by decide +kernel
theorem dX9_runner_16 : decode cX9_runner 16 = .ok (.iload_n 1, 1) := by decide +kernel
theorem dX9_runner_17 : decode cX9_runner 17 = .ok (.invokevirtual 228, 3) := by decide +kernel
theorem dX9_runner_20 : decode cX9_runner 20 = .ok (.invokevirtual 221, 3) := by decide +kernel
theorem dX9_runner_23 : decode cX9_runner 23 = .ok (.ireturn, 1) := by decide +kernel
set_option maxRecDepth 100000 in
set_option maxHeartbeats 4000000 in
theorem c_X9_runner (l : Launch) (G : GT) (n : Nat) (h : AH) (hl : l.stackTraces = false) (x : Nat) (y : Nat → Nat) (k : Nat) (D S : Nat → Nat → Nat) (sv : Nat → Bool) (N : Nat) (T : Nat → Nat) (hS : SysC x y k D S sv N T h) (hI : SI y k D S sv N T) (p1 : Int32) : CX l yX9_runner cX9_runner 2 (some .int) 8 4 24 G n h [.ref x, .int p1] (PoC x h (kA 1 1 2 (aRu y p1).1) ((aRu y p1).1) (aRu y p1).2 (aK (kA 1 1 2 (aRu y p1).1) k) (aD (kA 1 1 2 (aRu y p1).1) k D y) S sv N T) (PxC x h (kA 1 1 2 (aRu y p1).1) [ioE, isE] (aRu y p1).2 (aK (kA 1 1 2 (aRu y p1).1) k) (aD (kA 1 1 2 (aRu y p1).1) k D y) S sv N T) := by
  have NE := NO_eq
  obtain ⟨w0, w1, ⟨z2, w2⟩, ⟨fi, w3⟩, ⟨pf, pg, w4⟩, ⟨tp, tlt, tf, tg, w5⟩, ⟨f6, w6, v6⟩, w7, w8, ⟨g9, w9, v9⟩⟩ := id hS
  obtain ⟨hIy, hk14, hID, hIS, hN, hT⟩ := id hI
  obtain ⟨⟨i0, i1, i2, i3, i4⟩, iR, iU, iM, iS⟩ := id hIy
  obtain ⟨yob, ⟨fR, hfR, hR⟩, ⟨fU, hfU, hU⟩, ⟨fS, hfS, hSS⟩, ⟨fM, hfM, hM⟩, -, -, -⟩ := id w1
  refine CX_of mX9_runner.1 (Nat.le_of_ble_eq_true rfl) ?_
  intro p₀ e₀ s₀ m₀ as₀ bl₀ me₀ c₀ C hE
  refine V_Le (L' := [(0, .ref x), (1, .int p1)]) rfl ?_
  refine V_aload_n 1 C dX9_runner_0 rfl rfl ?_
  refine V_get (k := 2) 4 C dX9_runner_1 rfl fcX9 tw230 (by decide) rfl w0 rfl ?_
  refine V_aload_n 5 C dX9_runner_4 rfl rfl ?_
  refine V_get (k := 0) 8 C dX9_runner_5 rfl fcX9 tw228 (by decide) rfl w0 rfl ?_
  refine V_callV 11 C dX9_runner_8 rfl mX3_prepare tw634 fcX3 w3.2.1 (c_X3_prepare l G _ _ (x + 65) fi k D w3 (x + 1) y w1 hIy (by omega)) rfl rfl (by decide) ⟨by omega, by omega⟩ (Nat.le_of_ble_eq_true rfl) ?_
  rintro _ _ h1 ⟨rfl, rfl, hPp, hFp⟩
  have x0 : h1 x = some (obC x) := (hFp _ (by omega)).trans w0
  have x1 : cty (x + 1) y h1 := w1.fr (fun a _ _ => hFp a (by omega))
  have hSp : SysC x y k D S sv N T h1 := hS.past hPp.1 hFp
  refine V_aload_n 12 C dX9_runner_11 rfl rfl ?_
  refine V_aload_n 13 C dX9_runner_12 rfl rfl ?_
  refine V_get (k := 0) 16 C dX9_runner_13 rfl fcX9 tw228 (by decide) rfl x0 rfl ?_
  refine V_iload_n 17 C dX9_runner_16 rfl rfl ?_
  refine V_callV 20 C dX9_runner_17 rfl mX1_addRunner tw679 fcX1 x1.1 (c_X1_addRunner l G _ _ (x + 1) y x1 hIy p1) rfl rfl (by decide) ⟨by omega, by omega⟩ (Nat.le_of_ble_eq_true rfl) ?_
  rintro _ _ h2 ⟨rfl, rfl, hC2, hF2⟩
  have y0 : h2 x = some (obC x) := (hF2 _ (by omega)).trans x0
  have hP2 : pstP (x + 65) fi k D y h2 := hPp.fr (fun a _ _ => hF2 a (by omega))
  have hS2 : SysC x (aRu y p1).2 k D S sv N T h2 := hSp.now hC2 hF2
  have hX2 : FX x h h2 := fun a ha => (hF2 a (by omega)).trans (hFp a (by omega))
  refine V_callVX 23 C hE dX9_runner_20 rfl mX9_settled tw655 fcX9 y0 (c_X9_settled l G _ _ hl x y0 fi k D y hP2 _) rfl rfl (by decide) ⟨by omega, by omega⟩ (Nat.le_of_ble_eq_true rfl) (fun _ _ e => by obtain ⟨e1, rfl⟩ := e; exact PxA (⟨fun _ => ⟨by decide, rfl⟩, fun e => absurd e (aRu_c hIy _), fun _ => ⟨by decide, rfl⟩⟩) e1 hS2 hX2) ?_
  rintro _ _ h5 ⟨rfl, hn5, rfl, hP5, hF5⟩
  have hS5 : SysC x (aRu y p1).2 (psC k) (psD k D y) S sv N T h5 := hS2.past hP5 (fun a ha => hF5 a (by omega))
  have hX5 : FX x h h5 := fun a ha => (hF5 a (by omega)).trans (hX2 a ha)
  refine V_x (V_ireturn C dX9_runner_23 rfl rfl (by omega) (by omega) ?_)
  exact (PoA hn5 hS5 hX5)

theorem dX9_write_0 : decode cX9_write 0 = .ok (.aload_n 0, 1) := by decide +kernel
theorem dX9_write_1 : decode cX9_write 1 = .ok (.getfield 22, 3) := by decide +kernel
theorem dX9_write_4 : decode cX9_write 4 = .ok (.aload_n 0, 1) := by decide +kernel
theorem dX9_write_5 : decode cX9_write 5 = .ok (.getfield 10, 3) := by decide +kernel
theorem dX9_write_8 : decode cX9_write 8 = .ok (.invokevirtual 214, 3) := by decide +kernel
theorem dX9_write_11 : decode cX9_write 11 = .ok (.aload_n 0, 1) := by decide +kernel
theorem dX9_write_12 : decode cX9_write 12 = .ok (.aload_n 0, 1) := by decide +kernel
theorem dX9_write_13 : decode cX9_write 13 = .ok (.getfield 10, 3) := by decide +kernel
theorem dX9_write_16 : decode cX9_write 16 = .ok (.iload_n 1, 1) := by decide +kernel
theorem dX9_write_17 : decode cX9_write 17 = .ok (.iload_n 2, 1) := by decide +kernel
theorem dX9_write_18 : decode cX9_write 18 = .ok (.iload_n 3, 1) := by decide +kernel
theorem dX9_write_19 : decode cX9_write 19 = .ok (.invokevirtual 231, 3) := by decide +kernel
theorem dX9_write_22 : decode cX9_write 22 = .ok (.invokevirtual 221, 3) := by decide +kernel
theorem dX9_write_25 : decode cX9_write 25 = .ok (.ireturn, 1) := by decide +kernel
set_option maxRecDepth 100000 in
set_option maxHeartbeats 4000000 in
theorem c_X9_write (l : Launch) (G : GT) (n : Nat) (h : AH) (hl : l.stackTraces = false) (x : Nat) (y : Nat → Nat) (k : Nat) (D S : Nat → Nat → Nat) (sv : Nat → Bool) (N : Nat) (T : Nat → Nat) (hS : SysC x y k D S sv N T h) (hI : SI y k D S sv N T) (p1 : Int32) (p2 : Int32) (p3 : Int32) : CX l yX9_write cX9_write 4 (some .int) 8 4 24 G n h [.ref x, .int p1, .int p2, .int p3] (PoC x h (kA 1 2 3 (aWr y p1 p2 p3).1) ((aWr y p1 p2 p3).1) (aWr y p1 p2 p3).2 (aK (kA 1 2 3 (aWr y p1 p2 p3).1) k) (aD (kA 1 2 3 (aWr y p1 p2 p3).1) k D y) S sv N T) (PxC x h (kA 1 2 3 (aWr y p1 p2 p3).1) [ioE, iaE, isE] (aWr y p1 p2 p3).2 (aK (kA 1 2 3 (aWr y p1 p2 p3).1) k) (aD (kA 1 2 3 (aWr y p1 p2 p3).1) k D y) S sv N T) := by
  have NE := NO_eq
  obtain ⟨w0, w1, ⟨z2, w2⟩, ⟨fi, w3⟩, ⟨pf, pg, w4⟩, ⟨tp, tlt, tf, tg, w5⟩, ⟨f6, w6, v6⟩, w7, w8, ⟨g9, w9, v9⟩⟩ := id hS
  obtain ⟨hIy, hk14, hID, hIS, hN, hT⟩ := id hI
  obtain ⟨⟨i0, i1, i2, i3, i4⟩, iR, iU, iM, iS⟩ := id hIy
  obtain ⟨yob, ⟨fR, hfR, hR⟩, ⟨fU, hfU, hU⟩, ⟨fS, hfS, hSS⟩, ⟨fM, hfM, hM⟩, -, -, -⟩ := id w1
  refine CX_of mX9_write.1 (Nat.le_of_ble_eq_true rfl) ?_
  intro p₀ e₀ s₀ m₀ as₀ bl₀ me₀ c₀ C hE
  refine V_Le (L' := [(0, .ref x), (1, .int p1), (2, .int p2), (3, .int p3)]) rfl ?_
  refine V_aload_n 1 C dX9_write_0 rfl rfl ?_
  refine V_get (k := 2) 4 C dX9_write_1 rfl fcX9 tw230 (by decide) rfl w0 rfl ?_
  refine V_aload_n 5 C dX9_write_4 rfl rfl ?_
  refine V_get (k := 0) 8 C dX9_write_5 rfl fcX9 tw228 (by decide) rfl w0 rfl ?_
  refine V_callV 11 C dX9_write_8 rfl mX3_prepare tw634 fcX3 w3.2.1 (c_X3_prepare l G _ _ (x + 65) fi k D w3 (x + 1) y w1 hIy (by omega)) rfl rfl (by decide) ⟨by omega, by omega⟩ (Nat.le_of_ble_eq_true rfl) ?_
  rintro _ _ h1 ⟨rfl, rfl, hPp, hFp⟩
  have x0 : h1 x = some (obC x) := (hFp _ (by omega)).trans w0
  have x1 : cty (x + 1) y h1 := w1.fr (fun a _ _ => hFp a (by omega))
  have hSp : SysC x y k D S sv N T h1 := hS.past hPp.1 hFp
  refine V_aload_n 12 C dX9_write_11 rfl rfl ?_
  refine V_aload_n 13 C dX9_write_12 rfl rfl ?_
  refine V_get (k := 0) 16 C dX9_write_13 rfl fcX9 tw228 (by decide) rfl x0 rfl ?_
  refine V_iload_n 17 C dX9_write_16 rfl rfl ?_
  refine V_iload_n 18 C dX9_write_17 rfl rfl ?_
  refine V_iload_n 19 C dX9_write_18 rfl rfl ?_
  refine V_callV 22 C dX9_write_19 rfl mX1_addMessage tw687 fcX1 x1.1 (c_X1_addMessage l G _ _ (x + 1) y x1 hIy p1 p2 p3) rfl rfl (by decide) ⟨by omega, by omega⟩ (Nat.le_of_ble_eq_true rfl) ?_
  rintro _ _ h2 ⟨rfl, rfl, hC2, hF2⟩
  have y0 : h2 x = some (obC x) := (hF2 _ (by omega)).trans x0
  have hP2 : pstP (x + 65) fi k D y h2 := hPp.fr (fun a _ _ => hF2 a (by omega))
  have hS2 : SysC x (aWr y p1 p2 p3).2 k D S sv N T h2 := hSp.now hC2 hF2
  have hX2 : FX x h h2 := fun a ha => (hF2 a (by omega)).trans (hFp a (by omega))
  refine V_callVX 25 C hE dX9_write_22 rfl mX9_settled tw655 fcX9 y0 (c_X9_settled l G _ _ hl x y0 fi k D y hP2 _) rfl rfl (by decide) ⟨by omega, by omega⟩ (Nat.le_of_ble_eq_true rfl) (fun _ _ e => by obtain ⟨e1, rfl⟩ := e; exact PxA (⟨fun _ => ⟨by decide, rfl⟩, fun _ => ⟨by decide, rfl⟩, fun _ => ⟨by decide, rfl⟩⟩) e1 hS2 hX2) ?_
  rintro _ _ h5 ⟨rfl, hn5, rfl, hP5, hF5⟩
  have hS5 : SysC x (aWr y p1 p2 p3).2 (psC k) (psD k D y) S sv N T h5 := hS2.past hP5 (fun a ha => hF5 a (by omega))
  have hX5 : FX x h h5 := fun a ha => (hF5 a (by omega)).trans (hX2 a ha)
  refine V_x (V_ireturn C dX9_write_25 rfl rfl (by omega) (by omega) ?_)
  exact (PoA hn5 hS5 hX5)

theorem dX9_take_0 : decode cX9_take 0 = .ok (.aload_n 0, 1) := by decide +kernel
theorem dX9_take_1 : decode cX9_take 1 = .ok (.getfield 22, 3) := by decide +kernel
theorem dX9_take_4 : decode cX9_take 4 = .ok (.aload_n 0, 1) := by decide +kernel
theorem dX9_take_5 : decode cX9_take 5 = .ok (.getfield 10, 3) := by decide +kernel
theorem dX9_take_8 : decode cX9_take 8 = .ok (.invokevirtual 214, 3) := by decide +kernel
theorem dX9_take_11 : decode cX9_take 11 = .ok (.aload_n 0, 1) := by decide +kernel
theorem dX9_take_12 : decode cX9_take 12 = .ok (.aload_n 0, 1) := by decide +kernel
theorem dX9_take_13 : decode cX9_take 13 = .ok (.getfield 10, 3) := by decide +kernel
theorem dX9_take_16 : decode cX9_take 16 = .ok (.iload_n 1, 1) := by decide +kernel
theorem dX9_take_17 : decode cX9_take 17 = .ok (.iload_n 2, 1) := by decide +kernel
theorem dX9_take_18 : decode cX9_take 18 = .ok (.invokevirtual 234, 3) := by decide +kernel
theorem dX9_take_21 : decode cX9_take 21 = .ok (.invokevirtual 221, 3) := by decide +kernel
theorem dX9_take_24 : decode cX9_take 24 = .ok (.ireturn, 1) := by decide +kernel
set_option maxRecDepth 100000 in
set_option maxHeartbeats 4000000 in
theorem c_X9_take (l : Launch) (G : GT) (n : Nat) (h : AH) (hl : l.stackTraces = false) (x : Nat) (y : Nat → Nat) (k : Nat) (D S : Nat → Nat → Nat) (sv : Nat → Bool) (N : Nat) (T : Nat → Nat) (hS : SysC x y k D S sv N T h) (hI : SI y k D S sv N T) (p1 : Int32) (p2 : Int32) : CX l yX9_take cX9_take 3 (some .int) 8 4 24 G n h [.ref x, .int p1, .int p2] (PoC x h (kA 1 1 2 (aTk y p1 p2).1) ((aTk y p1 p2).1) (aTk y p1 p2).2 (aK (kA 1 1 2 (aTk y p1 p2).1) k) (aD (kA 1 1 2 (aTk y p1 p2).1) k D y) S sv N T) (PxC x h (kA 1 1 2 (aTk y p1 p2).1) [ioE, isE] (aTk y p1 p2).2 (aK (kA 1 1 2 (aTk y p1 p2).1) k) (aD (kA 1 1 2 (aTk y p1 p2).1) k D y) S sv N T) := by
  have NE := NO_eq
  obtain ⟨w0, w1, ⟨z2, w2⟩, ⟨fi, w3⟩, ⟨pf, pg, w4⟩, ⟨tp, tlt, tf, tg, w5⟩, ⟨f6, w6, v6⟩, w7, w8, ⟨g9, w9, v9⟩⟩ := id hS
  obtain ⟨hIy, hk14, hID, hIS, hN, hT⟩ := id hI
  obtain ⟨⟨i0, i1, i2, i3, i4⟩, iR, iU, iM, iS⟩ := id hIy
  obtain ⟨yob, ⟨fR, hfR, hR⟩, ⟨fU, hfU, hU⟩, ⟨fS, hfS, hSS⟩, ⟨fM, hfM, hM⟩, -, -, -⟩ := id w1
  refine CX_of mX9_take.1 (Nat.le_of_ble_eq_true rfl) ?_
  intro p₀ e₀ s₀ m₀ as₀ bl₀ me₀ c₀ C hE
  refine V_Le (L' := [(0, .ref x), (1, .int p1), (2, .int p2)]) rfl ?_
  refine V_aload_n 1 C dX9_take_0 rfl rfl ?_
  refine V_get (k := 2) 4 C dX9_take_1 rfl fcX9 tw230 (by decide) rfl w0 rfl ?_
  refine V_aload_n 5 C dX9_take_4 rfl rfl ?_
  refine V_get (k := 0) 8 C dX9_take_5 rfl fcX9 tw228 (by decide) rfl w0 rfl ?_
  refine V_callV 11 C dX9_take_8 rfl mX3_prepare tw634 fcX3 w3.2.1 (c_X3_prepare l G _ _ (x + 65) fi k D w3 (x + 1) y w1 hIy (by omega)) rfl rfl (by decide) ⟨by omega, by omega⟩ (Nat.le_of_ble_eq_true rfl) ?_
  rintro _ _ h1 ⟨rfl, rfl, hPp, hFp⟩
  have x0 : h1 x = some (obC x) := (hFp _ (by omega)).trans w0
  have x1 : cty (x + 1) y h1 := w1.fr (fun a _ _ => hFp a (by omega))
  have hSp : SysC x y k D S sv N T h1 := hS.past hPp.1 hFp
  refine V_aload_n 12 C dX9_take_11 rfl rfl ?_
  refine V_aload_n 13 C dX9_take_12 rfl rfl ?_
  refine V_get (k := 0) 16 C dX9_take_13 rfl fcX9 tw228 (by decide) rfl x0 rfl ?_
  refine V_iload_n 17 C dX9_take_16 rfl rfl ?_
  refine V_iload_n 18 C dX9_take_17 rfl rfl ?_
  refine V_callV 21 C dX9_take_18 rfl mX1_handOver tw695 fcX1 x1.1 (c_X1_handOver l G _ _ (x + 1) y x1 hIy p1 p2) rfl rfl (by decide) ⟨by omega, by omega⟩ (Nat.le_of_ble_eq_true rfl) ?_
  rintro _ _ h2 ⟨rfl, rfl, hC2, hF2⟩
  have y0 : h2 x = some (obC x) := (hF2 _ (by omega)).trans x0
  have hP2 : pstP (x + 65) fi k D y h2 := hPp.fr (fun a _ _ => hF2 a (by omega))
  have hS2 : SysC x (aTk y p1 p2).2 k D S sv N T h2 := hSp.now hC2 hF2
  have hX2 : FX x h h2 := fun a ha => (hF2 a (by omega)).trans (hFp a (by omega))
  refine V_callVX 24 C hE dX9_take_21 rfl mX9_settled tw655 fcX9 y0 (c_X9_settled l G _ _ hl x y0 fi k D y hP2 _) rfl rfl (by decide) ⟨by omega, by omega⟩ (Nat.le_of_ble_eq_true rfl) (fun _ _ e => by obtain ⟨e1, rfl⟩ := e; exact PxA (⟨fun _ => ⟨by decide, rfl⟩, fun e => absurd e (aTk_c _ _), fun _ => ⟨by decide, rfl⟩⟩) e1 hS2 hX2) ?_
  rintro _ _ h5 ⟨rfl, hn5, rfl, hP5, hF5⟩
  have hS5 : SysC x (aTk y p1 p2).2 (psC k) (psD k D y) S sv N T h5 := hS2.past hP5 (fun a ha => hF5 a (by omega))
  have hX5 : FX x h h5 := fun a ha => (hF5 a (by omega)).trans (hX2 a ha)
  refine V_x (V_ireturn C dX9_take_24 rfl rfl (by omega) (by omega) ?_)
  exact (PoA hn5 hS5 hX5)

theorem dX9_lay_0 : decode cX9_lay 0 = .ok (.aload_n 0, 1) := by decide +kernel
theorem dX9_lay_1 : decode cX9_lay 1 = .ok (.getfield 22, 3) := by decide +kernel
theorem dX9_lay_4 : decode cX9_lay 4 = .ok (.aload_n 0, 1) := by decide +kernel
theorem dX9_lay_5 : decode cX9_lay 5 = .ok (.getfield 10, 3) := by decide +kernel
theorem dX9_lay_8 : decode cX9_lay 8 = .ok (.invokevirtual 214, 3) := by decide +kernel
theorem dX9_lay_11 : decode cX9_lay 11 = .ok (.aload_n 0, 1) := by decide +kernel
theorem dX9_lay_12 : decode cX9_lay 12 = .ok (.aload_n 0, 1) := by decide +kernel
theorem dX9_lay_13 : decode cX9_lay 13 = .ok (.getfield 10, 3) := by decide +kernel
theorem dX9_lay_16 : decode cX9_lay 16 = .ok (.iload_n 1, 1) := by decide +kernel
theorem dX9_lay_17 : decode cX9_lay 17 = .ok (.invokevirtual 237, 3) := by decide +kernel
theorem dX9_lay_20 : decode cX9_lay 20 = .ok (.invokevirtual 221, 3) := by decide +kernel
theorem dX9_lay_23 : decode cX9_lay 23 = .ok (.ireturn, 1) := by decide +kernel
set_option maxRecDepth 100000 in
set_option maxHeartbeats 4000000 in
theorem c_X9_lay (l : Launch) (G : GT) (n : Nat) (h : AH) (hl : l.stackTraces = false) (x : Nat) (y : Nat → Nat) (k : Nat) (D S : Nat → Nat → Nat) (sv : Nat → Bool) (N : Nat) (T : Nat → Nat) (hS : SysC x y k D S sv N T h) (hI : SI y k D S sv N T) (p1 : Int32) : CX l yX9_lay cX9_lay 2 (some .int) 8 4 24 G n h [.ref x, .int p1] (PoC x h (kA 1 1 2 (aLy y p1).1) ((aLy y p1).1) (aLy y p1).2 (aK (kA 1 1 2 (aLy y p1).1) k) (aD (kA 1 1 2 (aLy y p1).1) k D y) S sv N T) (PxC x h (kA 1 1 2 (aLy y p1).1) [ioE, isE] (aLy y p1).2 (aK (kA 1 1 2 (aLy y p1).1) k) (aD (kA 1 1 2 (aLy y p1).1) k D y) S sv N T) := by
  have NE := NO_eq
  obtain ⟨w0, w1, ⟨z2, w2⟩, ⟨fi, w3⟩, ⟨pf, pg, w4⟩, ⟨tp, tlt, tf, tg, w5⟩, ⟨f6, w6, v6⟩, w7, w8, ⟨g9, w9, v9⟩⟩ := id hS
  obtain ⟨hIy, hk14, hID, hIS, hN, hT⟩ := id hI
  obtain ⟨⟨i0, i1, i2, i3, i4⟩, iR, iU, iM, iS⟩ := id hIy
  obtain ⟨yob, ⟨fR, hfR, hR⟩, ⟨fU, hfU, hU⟩, ⟨fS, hfS, hSS⟩, ⟨fM, hfM, hM⟩, -, -, -⟩ := id w1
  refine CX_of mX9_lay.1 (Nat.le_of_ble_eq_true rfl) ?_
  intro p₀ e₀ s₀ m₀ as₀ bl₀ me₀ c₀ C hE
  refine V_Le (L' := [(0, .ref x), (1, .int p1)]) rfl ?_
  refine V_aload_n 1 C dX9_lay_0 rfl rfl ?_
  refine V_get (k := 2) 4 C dX9_lay_1 rfl fcX9 tw230 (by decide) rfl w0 rfl ?_
  refine V_aload_n 5 C dX9_lay_4 rfl rfl ?_
  refine V_get (k := 0) 8 C dX9_lay_5 rfl fcX9 tw228 (by decide) rfl w0 rfl ?_
  refine V_callV 11 C dX9_lay_8 rfl mX3_prepare tw634 fcX3 w3.2.1 (c_X3_prepare l G _ _ (x + 65) fi k D w3 (x + 1) y w1 hIy (by omega)) rfl rfl (by decide) ⟨by omega, by omega⟩ (Nat.le_of_ble_eq_true rfl) ?_
  rintro _ _ h1 ⟨rfl, rfl, hPp, hFp⟩
  have x0 : h1 x = some (obC x) := (hFp _ (by omega)).trans w0
  have x1 : cty (x + 1) y h1 := w1.fr (fun a _ _ => hFp a (by omega))
  have hSp : SysC x y k D S sv N T h1 := hS.past hPp.1 hFp
  refine V_aload_n 12 C dX9_lay_11 rfl rfl ?_
  refine V_aload_n 13 C dX9_lay_12 rfl rfl ?_
  refine V_get (k := 0) 16 C dX9_lay_13 rfl fcX9 tw228 (by decide) rfl x0 rfl ?_
  refine V_iload_n 17 C dX9_lay_16 rfl rfl ?_
  refine V_callV 20 C dX9_lay_17 rfl mX1_layDown tw703 fcX1 x1.1 (c_X1_layDown l G _ _ (x + 1) y x1 hIy p1) rfl rfl (by decide) ⟨by omega, by omega⟩ (Nat.le_of_ble_eq_true rfl) ?_
  rintro _ _ h2 ⟨rfl, rfl, hC2, hF2⟩
  have y0 : h2 x = some (obC x) := (hF2 _ (by omega)).trans x0
  have hP2 : pstP (x + 65) fi k D y h2 := hPp.fr (fun a _ _ => hF2 a (by omega))
  have hS2 : SysC x (aLy y p1).2 k D S sv N T h2 := hSp.now hC2 hF2
  have hX2 : FX x h h2 := fun a ha => (hF2 a (by omega)).trans (hFp a (by omega))
  refine V_callVX 23 C hE dX9_lay_20 rfl mX9_settled tw655 fcX9 y0 (c_X9_settled l G _ _ hl x y0 fi k D y hP2 _) rfl rfl (by decide) ⟨by omega, by omega⟩ (Nat.le_of_ble_eq_true rfl) (fun _ _ e => by obtain ⟨e1, rfl⟩ := e; exact PxA (⟨fun _ => ⟨by decide, rfl⟩, fun e => absurd e (aLy_c hIy _), fun _ => ⟨by decide, rfl⟩⟩) e1 hS2 hX2) ?_
  rintro _ _ h5 ⟨rfl, hn5, rfl, hP5, hF5⟩
  have hS5 : SysC x (aLy y p1).2 (psC k) (psD k D y) S sv N T h5 := hS2.past hP5 (fun a ha => hF5 a (by omega))
  have hX5 : FX x h h5 := fun a ha => (hF5 a (by omega)).trans (hX2 a ha)
  refine V_x (V_ireturn C dX9_lay_23 rfl rfl (by omega) (by omega) ?_)
  exact (PoA hn5 hS5 hX5)

theorem dX9_go_0 : decode cX9_go 0 = .ok (.aload_n 0, 1) := by decide +kernel
theorem dX9_go_1 : decode cX9_go 1 = .ok (.getfield 22, 3) := by decide +kernel
theorem dX9_go_4 : decode cX9_go 4 = .ok (.aload_n 0, 1) := by decide +kernel
theorem dX9_go_5 : decode cX9_go 5 = .ok (.getfield 10, 3) := by decide +kernel
theorem dX9_go_8 : decode cX9_go 8 = .ok (.invokevirtual 214, 3) := by decide +kernel
theorem dX9_go_11 : decode cX9_go 11 = .ok (.aload_n 0, 1) := by decide +kernel
theorem dX9_go_12 : decode cX9_go 12 = .ok (.aload_n 0, 1) := by decide +kernel
theorem dX9_go_13 : decode cX9_go 13 = .ok (.getfield 10, 3) := by decide +kernel
theorem dX9_go_16 : decode cX9_go 16 = .ok (.iload_n 1, 1) := by decide +kernel
theorem dX9_go_17 : decode cX9_go 17 = .ok (.iload_n 2, 1) := by decide +kernel
theorem dX9_go_18 : decode cX9_go 18 = .ok (.invokevirtual 240, 3) := by decide +kernel
theorem dX9_go_21 : decode cX9_go 21 = .ok (.invokevirtual 221, 3) := by decide +kernel
theorem dX9_go_24 : decode cX9_go 24 = .ok (.ireturn, 1) := by decide +kernel
set_option maxRecDepth 100000 in
set_option maxHeartbeats 4000000 in
theorem c_X9_go (l : Launch) (G : GT) (n : Nat) (h : AH) (hl : l.stackTraces = false) (x : Nat) (y : Nat → Nat) (k : Nat) (D S : Nat → Nat → Nat) (sv : Nat → Bool) (N : Nat) (T : Nat → Nat) (hS : SysC x y k D S sv N T h) (hI : SI y k D S sv N T) (p1 : Int32) (p2 : Int32) : CX l yX9_go cX9_go 3 (some .int) 8 4 24 G n h [.ref x, .int p1, .int p2] (PoC x h (kA 1 1 2 (aGo y p1 p2).1) ((aGo y p1 p2).1) (aGo y p1 p2).2 (aK (kA 1 1 2 (aGo y p1 p2).1) k) (aD (kA 1 1 2 (aGo y p1 p2).1) k D y) S sv N T) (PxC x h (kA 1 1 2 (aGo y p1 p2).1) [ioE, isE] (aGo y p1 p2).2 (aK (kA 1 1 2 (aGo y p1 p2).1) k) (aD (kA 1 1 2 (aGo y p1 p2).1) k D y) S sv N T) := by
  have NE := NO_eq
  obtain ⟨w0, w1, ⟨z2, w2⟩, ⟨fi, w3⟩, ⟨pf, pg, w4⟩, ⟨tp, tlt, tf, tg, w5⟩, ⟨f6, w6, v6⟩, w7, w8, ⟨g9, w9, v9⟩⟩ := id hS
  obtain ⟨hIy, hk14, hID, hIS, hN, hT⟩ := id hI
  obtain ⟨⟨i0, i1, i2, i3, i4⟩, iR, iU, iM, iS⟩ := id hIy
  obtain ⟨yob, ⟨fR, hfR, hR⟩, ⟨fU, hfU, hU⟩, ⟨fS, hfS, hSS⟩, ⟨fM, hfM, hM⟩, -, -, -⟩ := id w1
  refine CX_of mX9_go.1 (Nat.le_of_ble_eq_true rfl) ?_
  intro p₀ e₀ s₀ m₀ as₀ bl₀ me₀ c₀ C hE
  refine V_Le (L' := [(0, .ref x), (1, .int p1), (2, .int p2)]) rfl ?_
  refine V_aload_n 1 C dX9_go_0 rfl rfl ?_
  refine V_get (k := 2) 4 C dX9_go_1 rfl fcX9 tw230 (by decide) rfl w0 rfl ?_
  refine V_aload_n 5 C dX9_go_4 rfl rfl ?_
  refine V_get (k := 0) 8 C dX9_go_5 rfl fcX9 tw228 (by decide) rfl w0 rfl ?_
  refine V_callV 11 C dX9_go_8 rfl mX3_prepare tw634 fcX3 w3.2.1 (c_X3_prepare l G _ _ (x + 65) fi k D w3 (x + 1) y w1 hIy (by omega)) rfl rfl (by decide) ⟨by omega, by omega⟩ (Nat.le_of_ble_eq_true rfl) ?_
  rintro _ _ h1 ⟨rfl, rfl, hPp, hFp⟩
  have x0 : h1 x = some (obC x) := (hFp _ (by omega)).trans w0
  have x1 : cty (x + 1) y h1 := w1.fr (fun a _ _ => hFp a (by omega))
  have hSp : SysC x y k D S sv N T h1 := hS.past hPp.1 hFp
  refine V_aload_n 12 C dX9_go_11 rfl rfl ?_
  refine V_aload_n 13 C dX9_go_12 rfl rfl ?_
  refine V_get (k := 0) 16 C dX9_go_13 rfl fcX9 tw228 (by decide) rfl x0 rfl ?_
  refine V_iload_n 17 C dX9_go_16 rfl rfl ?_
  refine V_iload_n 18 C dX9_go_17 rfl rfl ?_
  refine V_callV 21 C dX9_go_18 rfl mX1_send tw711 fcX1 x1.1 (c_X1_send l G _ _ (x + 1) y x1 hIy p1 p2) rfl rfl (by decide) ⟨by omega, by omega⟩ (Nat.le_of_ble_eq_true rfl) ?_
  rintro _ _ h2 ⟨rfl, rfl, hC2, hF2⟩
  have y0 : h2 x = some (obC x) := (hF2 _ (by omega)).trans x0
  have hP2 : pstP (x + 65) fi k D y h2 := hPp.fr (fun a _ _ => hF2 a (by omega))
  have hS2 : SysC x (aGo y p1 p2).2 k D S sv N T h2 := hSp.now hC2 hF2
  have hX2 : FX x h h2 := fun a ha => (hF2 a (by omega)).trans (hFp a (by omega))
  refine V_callVX 24 C hE dX9_go_21 rfl mX9_settled tw655 fcX9 y0 (c_X9_settled l G _ _ hl x y0 fi k D y hP2 _) rfl rfl (by decide) ⟨by omega, by omega⟩ (Nat.le_of_ble_eq_true rfl) (fun _ _ e => by obtain ⟨e1, rfl⟩ := e; exact PxA (⟨fun _ => ⟨by decide, rfl⟩, fun e => absurd e (aGo_c hIy _ _), fun _ => ⟨by decide, rfl⟩⟩) e1 hS2 hX2) ?_
  rintro _ _ h5 ⟨rfl, hn5, rfl, hP5, hF5⟩
  have hS5 : SysC x (aGo y p1 p2).2 (psC k) (psD k D y) S sv N T h5 := hS2.past hP5 (fun a ha => hF5 a (by omega))
  have hX5 : FX x h h5 := fun a ha => (hF5 a (by omega)).trans (hX2 a ha)
  refine V_x (V_ireturn C dX9_go_24 rfl rfl (by omega) (by omega) ?_)
  exact (PoA hn5 hS5 hX5)

theorem dX9_copy_0 : decode cX9_copy 0 = .ok (.aload_n 0, 1) := by decide +kernel
theorem dX9_copy_1 : decode cX9_copy 1 = .ok (.getfield 22, 3) := by decide +kernel
theorem dX9_copy_4 : decode cX9_copy 4 = .ok (.aload_n 0, 1) := by decide +kernel
theorem dX9_copy_5 : decode cX9_copy 5 = .ok (.getfield 10, 3) := by decide +kernel
theorem dX9_copy_8 : decode cX9_copy 8 = .ok (.invokevirtual 214, 3) := by decide +kernel
theorem dX9_copy_11 : decode cX9_copy 11 = .ok (.aload_n 0, 1) := by decide +kernel
theorem dX9_copy_12 : decode cX9_copy 12 = .ok (.aload_n 0, 1) := by decide +kernel
theorem dX9_copy_13 : decode cX9_copy 13 = .ok (.aload_n 0, 1) := by decide +kernel
theorem dX9_copy_14 : decode cX9_copy 14 = .ok (.getfield 10, 3) := by decide +kernel
theorem dX9_copy_17 : decode cX9_copy 17 = .ok (.iload_n 1, 1) := by decide +kernel
theorem dX9_copy_18 : decode cX9_copy 18 = .ok (.iload_n 2, 1) := by decide +kernel
theorem dX9_copy_19 : decode cX9_copy 19 = .ok (.invokevirtual 243, 3) := by decide +kernel
theorem dX9_copy_22 : decode cX9_copy 22 = .ok (.invokevirtual 221, 3) := by decide +kernel
theorem dX9_copy_25 : decode cX9_copy 25 = .ok (.invokevirtual 246, 3) := by decide +kernel
theorem dX9_copy_28 : decode cX9_copy 28 = .ok (.ireturn, 1) := by decide +kernel
set_option maxRecDepth 100000 in
set_option maxHeartbeats 4000000 in
theorem c_X9_copy (l : Launch) (G : GT) (n : Nat) (h : AH) (hl : l.stackTraces = false) (x : Nat) (y : Nat → Nat) (k : Nat) (D S : Nat → Nat → Nat) (sv : Nat → Bool) (N : Nat) (T : Nat → Nat) (hS : SysC x y k D S sv N T h) (hI : SI y k D S sv N T) (p1 : Int32) (p2 : Int32) : CX l yX9_copy cX9_copy 3 (some .int) 8 4 24 G n h [.ref x, .int p1, .int p2] (PoC x h (kA 1 2 1 (aCp y p1 p2).1) ((aCp y p1 p2).1) (cnt (aCp y p1 p2)) (aK (kA 1 2 1 (aCp y p1 p2).1) k) (aD (kA 1 2 1 (aCp y p1 p2).1) k D y) S sv N T) (PxC x h (kA 1 2 1 (aCp y p1 p2).1) [ioE, iaE] (cnt (aCp y p1 p2)) (aK (kA 1 2 1 (aCp y p1 p2).1) k) (aD (kA 1 2 1 (aCp y p1 p2).1) k D y) S sv N T) := by
  have NE := NO_eq
  obtain ⟨w0, w1, ⟨z2, w2⟩, ⟨fi, w3⟩, ⟨pf, pg, w4⟩, ⟨tp, tlt, tf, tg, w5⟩, ⟨f6, w6, v6⟩, w7, w8, ⟨g9, w9, v9⟩⟩ := id hS
  obtain ⟨hIy, hk14, hID, hIS, hN, hT⟩ := id hI
  obtain ⟨⟨i0, i1, i2, i3, i4⟩, iR, iU, iM, iS⟩ := id hIy
  obtain ⟨yob, ⟨fR, hfR, hR⟩, ⟨fU, hfU, hU⟩, ⟨fS, hfS, hSS⟩, ⟨fM, hfM, hM⟩, -, -, -⟩ := id w1
  refine CX_of mX9_copy.1 (Nat.le_of_ble_eq_true rfl) ?_
  intro p₀ e₀ s₀ m₀ as₀ bl₀ me₀ c₀ C hE
  refine V_Le (L' := [(0, .ref x), (1, .int p1), (2, .int p2)]) rfl ?_
  refine V_aload_n 1 C dX9_copy_0 rfl rfl ?_
  refine V_get (k := 2) 4 C dX9_copy_1 rfl fcX9 tw230 (by decide) rfl w0 rfl ?_
  refine V_aload_n 5 C dX9_copy_4 rfl rfl ?_
  refine V_get (k := 0) 8 C dX9_copy_5 rfl fcX9 tw228 (by decide) rfl w0 rfl ?_
  refine V_callV 11 C dX9_copy_8 rfl mX3_prepare tw634 fcX3 w3.2.1 (c_X3_prepare l G _ _ (x + 65) fi k D w3 (x + 1) y w1 hIy (by omega)) rfl rfl (by decide) ⟨by omega, by omega⟩ (Nat.le_of_ble_eq_true rfl) ?_
  rintro _ _ h1 ⟨rfl, rfl, hPp, hFp⟩
  have x0 : h1 x = some (obC x) := (hFp _ (by omega)).trans w0
  have x1 : cty (x + 1) y h1 := w1.fr (fun a _ _ => hFp a (by omega))
  have hSp : SysC x y k D S sv N T h1 := hS.past hPp.1 hFp
  refine V_aload_n 12 C dX9_copy_11 rfl rfl ?_
  refine V_aload_n 13 C dX9_copy_12 rfl rfl ?_
  refine V_aload_n 14 C dX9_copy_13 rfl rfl ?_
  refine V_get (k := 0) 17 C dX9_copy_14 rfl fcX9 tw228 (by decide) rfl x0 rfl ?_
  refine V_iload_n 18 C dX9_copy_17 rfl rfl ?_
  refine V_iload_n 19 C dX9_copy_18 rfl rfl ?_
  refine V_callV 22 C dX9_copy_19 rfl mX1_addCopy tw719 fcX1 x1.1 (c_X1_addCopy l G _ _ (x + 1) y x1 hIy p1 p2) rfl rfl (by decide) ⟨by omega, by omega⟩ (Nat.le_of_ble_eq_true rfl) ?_
  rintro _ _ h2 ⟨rfl, rfl, hC2, hF2⟩
  have y0 : h2 x = some (obC x) := (hF2 _ (by omega)).trans x0
  have hP2 : pstP (x + 65) fi k D y h2 := hPp.fr (fun a _ _ => hF2 a (by omega))
  have hS2 : SysC x (aCp y p1 p2).2 k D S sv N T h2 := hSp.now hC2 hF2
  have hX2 : FX x h h2 := fun a ha => (hF2 a (by omega)).trans (hFp a (by omega))
  refine V_callVX 25 C hE dX9_copy_22 rfl mX9_settled tw655 fcX9 y0 (c_X9_settled l G _ _ hl x y0 fi k D y hP2 _) rfl rfl (by decide) ⟨by omega, by omega⟩ (Nat.le_of_ble_eq_true rfl) (fun _ _ e => by obtain ⟨e1, rfl⟩ := e; rw [show cnt (aCp y p1 p2) = (aCp y p1 p2).2 from if_pos (Or.inr (e1.imp And.left (Or.imp And.left And.left)))]; exact PxA (⟨fun _ => ⟨by decide, rfl⟩, fun _ => ⟨by decide, rfl⟩, fun e => absurd e (aCp_c _ _)⟩) e1 hS2 hX2) ?_
  rintro _ _ h5 ⟨rfl, hn5, rfl, hP5, hF5⟩
  have hS5 : SysC x (aCp y p1 p2).2 (psC k) (psD k D y) S sv N T h5 := hS2.past hP5 (fun a ha => hF5 a (by omega))
  have hX5 : FX x h h5 := fun a ha => (hF5 a (by omega)).trans (hX2 a ha)
  refine V_callV 28 C dX9_copy_25 rfl mX9_counted tw720 fcX9 hS5.1 (c_X9_counted l G _ _ x hS5.1 (aCp y p1 p2).2 hS5.2.1 (show _ from (Iv_aCp hIy _ _).1) _) rfl rfl (by decide) ⟨by omega, by omega⟩ (Nat.le_of_ble_eq_true rfl) ?_
  rintro _ _ h6 ⟨rfl, rfl, hC6, hF6⟩
  have ec : (if (aCp y p1 p2).1 = 0 then (aCp y p1 p2).2 else rfOn (aCp y p1 p2).2) = cnt (aCp y p1 p2) := by
    unfold cnt
    by_cases e : (aCp y p1 p2).1 = 0
    · rw [if_pos e, if_pos (Or.inl e)]
    · rw [if_neg e, if_neg (fun g => g.elim e (fun g => g.elim hn5.1 (fun g => g.elim hn5.2.1 hn5.2.2)))]
  rw [ec] at hC6
  refine V_x (V_ireturn C dX9_copy_28 rfl rfl (by omega) (by omega) ?_)
  exact (PoA hn5 (hS5.now hC6 hF6) (fun a ha => (hF6 a (by omega)).trans (hX5 a ha)))

theorem dX9_proof_0 : decode cX9_proof 0 = .ok (.aload_n 0, 1) := by decide +kernel
theorem dX9_proof_1 : decode cX9_proof 1 = .ok (.getfield 22, 3) := by decide +kernel
theorem dX9_proof_4 : decode cX9_proof 4 = .ok (.aload_n 0, 1) := by decide +kernel
theorem dX9_proof_5 : decode cX9_proof 5 = .ok (.getfield 10, 3) := by decide +kernel
theorem dX9_proof_8 : decode cX9_proof 8 = .ok (.invokevirtual 214, 3) := by decide +kernel
theorem dX9_proof_11 : decode cX9_proof 11 = .ok (.aload_n 0, 1) := by decide +kernel
theorem dX9_proof_12 : decode cX9_proof 12 = .ok (.aload_n 0, 1) := by decide +kernel
theorem dX9_proof_13 : decode cX9_proof 13 = .ok (.aload_n 0, 1) := by decide +kernel
theorem dX9_proof_14 : decode cX9_proof 14 = .ok (.getfield 10, 3) := by decide +kernel
theorem dX9_proof_17 : decode cX9_proof 17 = .ok (.iload_n 1, 1) := by decide +kernel
theorem dX9_proof_18 : decode cX9_proof 18 = .ok (.iload_n 2, 1) := by decide +kernel
theorem dX9_proof_19 : decode cX9_proof 19 = .ok (.iload_n 3, 1) := by decide +kernel
theorem dX9_proof_20 : decode cX9_proof 20 = .ok (.iload 4, 2) := by decide +kernel
theorem dX9_proof_22 : decode cX9_proof 22 = .ok (.invokevirtual 249, 3) := by decide +kernel
theorem dX9_proof_25 : decode cX9_proof 25 = .ok (.invokevirtual 221, 3) := by decide +kernel
theorem dX9_proof_28 : decode cX9_proof 28 = .ok (.invokevirtual 246, 3) := by decide +kernel
theorem dX9_proof_31 : decode cX9_proof 31 = .ok (.ireturn, 1) := by decide +kernel
set_option maxRecDepth 100000 in
set_option maxHeartbeats 4000000 in
theorem c_X9_proof (l : Launch) (G : GT) (n : Nat) (h : AH) (hl : l.stackTraces = false) (x : Nat) (y : Nat → Nat) (k : Nat) (D S : Nat → Nat → Nat) (sv : Nat → Bool) (N : Nat) (T : Nat → Nat) (hS : SysC x y k D S sv N T h) (hI : SI y k D S sv N T) (p1 : Int32) (p2 : Int32) (p3 : Int32) (p4 : Int32) : CX l yX9_proof cX9_proof 5 (some .int) 8 4 24 G n h [.ref x, .int p1, .int p2, .int p3, .int p4] (PoC x h (kA 1 2 1 (aPr y p1 p2 p3 p4).1) ((aPr y p1 p2 p3 p4).1) (cnt (aPr y p1 p2 p3 p4)) (aK (kA 1 2 1 (aPr y p1 p2 p3 p4).1) k) (aD (kA 1 2 1 (aPr y p1 p2 p3 p4).1) k D y) S sv N T) (PxC x h (kA 1 2 1 (aPr y p1 p2 p3 p4).1) [ioE, iaE] (cnt (aPr y p1 p2 p3 p4)) (aK (kA 1 2 1 (aPr y p1 p2 p3 p4).1) k) (aD (kA 1 2 1 (aPr y p1 p2 p3 p4).1) k D y) S sv N T) := by
  have NE := NO_eq
  obtain ⟨w0, w1, ⟨z2, w2⟩, ⟨fi, w3⟩, ⟨pf, pg, w4⟩, ⟨tp, tlt, tf, tg, w5⟩, ⟨f6, w6, v6⟩, w7, w8, ⟨g9, w9, v9⟩⟩ := id hS
  obtain ⟨hIy, hk14, hID, hIS, hN, hT⟩ := id hI
  obtain ⟨⟨i0, i1, i2, i3, i4⟩, iR, iU, iM, iS⟩ := id hIy
  obtain ⟨yob, ⟨fR, hfR, hR⟩, ⟨fU, hfU, hU⟩, ⟨fS, hfS, hSS⟩, ⟨fM, hfM, hM⟩, -, -, -⟩ := id w1
  refine CX_of mX9_proof.1 (Nat.le_of_ble_eq_true rfl) ?_
  intro p₀ e₀ s₀ m₀ as₀ bl₀ me₀ c₀ C hE
  refine V_Le (L' := [(0, .ref x), (1, .int p1), (2, .int p2), (3, .int p3), (4, .int p4)]) rfl ?_
  refine V_aload_n 1 C dX9_proof_0 rfl rfl ?_
  refine V_get (k := 2) 4 C dX9_proof_1 rfl fcX9 tw230 (by decide) rfl w0 rfl ?_
  refine V_aload_n 5 C dX9_proof_4 rfl rfl ?_
  refine V_get (k := 0) 8 C dX9_proof_5 rfl fcX9 tw228 (by decide) rfl w0 rfl ?_
  refine V_callV 11 C dX9_proof_8 rfl mX3_prepare tw634 fcX3 w3.2.1 (c_X3_prepare l G _ _ (x + 65) fi k D w3 (x + 1) y w1 hIy (by omega)) rfl rfl (by decide) ⟨by omega, by omega⟩ (Nat.le_of_ble_eq_true rfl) ?_
  rintro _ _ h1 ⟨rfl, rfl, hPp, hFp⟩
  have x0 : h1 x = some (obC x) := (hFp _ (by omega)).trans w0
  have x1 : cty (x + 1) y h1 := w1.fr (fun a _ _ => hFp a (by omega))
  have hSp : SysC x y k D S sv N T h1 := hS.past hPp.1 hFp
  refine V_aload_n 12 C dX9_proof_11 rfl rfl ?_
  refine V_aload_n 13 C dX9_proof_12 rfl rfl ?_
  refine V_aload_n 14 C dX9_proof_13 rfl rfl ?_
  refine V_get (k := 0) 17 C dX9_proof_14 rfl fcX9 tw228 (by decide) rfl x0 rfl ?_
  refine V_iload_n 18 C dX9_proof_17 rfl rfl ?_
  refine V_iload_n 19 C dX9_proof_18 rfl rfl ?_
  refine V_iload_n 20 C dX9_proof_19 rfl rfl ?_
  refine V_iload 22 C dX9_proof_20 rfl rfl ?_
  refine V_callV 25 C dX9_proof_22 rfl mX1_addProof tw870 fcX1 x1.1 (c_X1_addProof l G _ _ (x + 1) y x1 hIy p1 p2 p3 p4) rfl rfl (by decide) ⟨by omega, by omega⟩ (Nat.le_of_ble_eq_true rfl) ?_
  rintro _ _ h2 ⟨rfl, rfl, hC2, hF2⟩
  have y0 : h2 x = some (obC x) := (hF2 _ (by omega)).trans x0
  have hP2 : pstP (x + 65) fi k D y h2 := hPp.fr (fun a _ _ => hF2 a (by omega))
  have hS2 : SysC x (aPr y p1 p2 p3 p4).2 k D S sv N T h2 := hSp.now hC2 hF2
  have hX2 : FX x h h2 := fun a ha => (hF2 a (by omega)).trans (hFp a (by omega))
  refine V_callVX 28 C hE dX9_proof_25 rfl mX9_settled tw655 fcX9 y0 (c_X9_settled l G _ _ hl x y0 fi k D y hP2 _) rfl rfl (by decide) ⟨by omega, by omega⟩ (Nat.le_of_ble_eq_true rfl) (fun _ _ e => by obtain ⟨e1, rfl⟩ := e; rw [show cnt (aPr y p1 p2 p3 p4) = (aPr y p1 p2 p3 p4).2 from if_pos (Or.inr (e1.imp And.left (Or.imp And.left And.left)))]; exact PxA (⟨fun _ => ⟨by decide, rfl⟩, fun _ => ⟨by decide, rfl⟩, fun e => absurd e (aPr_c _ _ _ _)⟩) e1 hS2 hX2) ?_
  rintro _ _ h5 ⟨rfl, hn5, rfl, hP5, hF5⟩
  have hS5 : SysC x (aPr y p1 p2 p3 p4).2 (psC k) (psD k D y) S sv N T h5 := hS2.past hP5 (fun a ha => hF5 a (by omega))
  have hX5 : FX x h h5 := fun a ha => (hF5 a (by omega)).trans (hX2 a ha)
  refine V_callV 31 C dX9_proof_28 rfl mX9_counted tw720 fcX9 hS5.1 (c_X9_counted l G _ _ x hS5.1 (aPr y p1 p2 p3 p4).2 hS5.2.1 (show _ from (Iv_aPr hIy _ _ _ _).1) _) rfl rfl (by decide) ⟨by omega, by omega⟩ (Nat.le_of_ble_eq_true rfl) ?_
  rintro _ _ h6 ⟨rfl, rfl, hC6, hF6⟩
  have ec : (if (aPr y p1 p2 p3 p4).1 = 0 then (aPr y p1 p2 p3 p4).2 else rfOn (aPr y p1 p2 p3 p4).2) = cnt (aPr y p1 p2 p3 p4) := by
    unfold cnt
    by_cases e : (aPr y p1 p2 p3 p4).1 = 0
    · rw [if_pos e, if_pos (Or.inl e)]
    · rw [if_neg e, if_neg (fun g => g.elim e (fun g => g.elim hn5.1 (fun g => g.elim hn5.2.1 hn5.2.2)))]
  rw [ec] at hC6
  refine V_x (V_ireturn C dX9_proof_31 rfl rfl (by omega) (by omega) ?_)
  exact (PoA hn5 (hS5.now hC6 hF6) (fun a ha => (hF6 a (by omega)).trans (hX5 a ha)))

theorem dX9_hours_0 : decode cX9_hours 0 = .ok (.aload_n 0, 1) := by decide +kernel
theorem dX9_hours_1 : decode cX9_hours 1 = .ok (.getfield 22, 3) := by decide +kernel
theorem dX9_hours_4 : decode cX9_hours 4 = .ok (.aload_n 0, 1) := by decide +kernel
theorem dX9_hours_5 : decode cX9_hours 5 = .ok (.getfield 10, 3) := by decide +kernel
theorem dX9_hours_8 : decode cX9_hours 8 = .ok (.invokevirtual 214, 3) := by decide +kernel
theorem dX9_hours_11 : decode cX9_hours 11 = .ok (.aload_n 0, 1) := by decide +kernel
theorem dX9_hours_12 : decode cX9_hours 12 = .ok (.aload_n 0, 1) := by decide +kernel
theorem dX9_hours_13 : decode cX9_hours 13 = .ok (.getfield 10, 3) := by decide +kernel
theorem dX9_hours_16 : decode cX9_hours 16 = .ok (.iload_n 1, 1) := by decide +kernel
theorem dX9_hours_17 : decode cX9_hours 17 = .ok (.invokevirtual 253, 3) := by decide +kernel
theorem dX9_hours_20 : decode cX9_hours 20 = .ok (.invokevirtual 221, 3) := by decide +kernel
theorem dX9_hours_23 : decode cX9_hours 23 = .ok (.ireturn, 1) := by decide +kernel
set_option maxRecDepth 100000 in
set_option maxHeartbeats 4000000 in
theorem c_X9_hours (l : Launch) (G : GT) (n : Nat) (h : AH) (hl : l.stackTraces = false) (x : Nat) (y : Nat → Nat) (k : Nat) (D S : Nat → Nat → Nat) (sv : Nat → Bool) (N : Nat) (T : Nat → Nat) (hS : SysC x y k D S sv N T h) (hI : SI y k D S sv N T) (p1 : Int32) : CX l yX9_hours cX9_hours 2 (some .int) 8 4 24 G n h [.ref x, .int p1] (PoC x h (kA 1 1 1 (aHr y p1).1) ((aHr y p1).1) (aHr y p1).2 (aK (kA 1 1 1 (aHr y p1).1) k) (aD (kA 1 1 1 (aHr y p1).1) k D y) S sv N T) (PxC x h (kA 1 1 1 (aHr y p1).1) [iaE] (aHr y p1).2 (aK (kA 1 1 1 (aHr y p1).1) k) (aD (kA 1 1 1 (aHr y p1).1) k D y) S sv N T) := by
  have NE := NO_eq
  obtain ⟨w0, w1, ⟨z2, w2⟩, ⟨fi, w3⟩, ⟨pf, pg, w4⟩, ⟨tp, tlt, tf, tg, w5⟩, ⟨f6, w6, v6⟩, w7, w8, ⟨g9, w9, v9⟩⟩ := id hS
  obtain ⟨hIy, hk14, hID, hIS, hN, hT⟩ := id hI
  obtain ⟨⟨i0, i1, i2, i3, i4⟩, iR, iU, iM, iS⟩ := id hIy
  obtain ⟨yob, ⟨fR, hfR, hR⟩, ⟨fU, hfU, hU⟩, ⟨fS, hfS, hSS⟩, ⟨fM, hfM, hM⟩, -, -, -⟩ := id w1
  refine CX_of mX9_hours.1 (Nat.le_of_ble_eq_true rfl) ?_
  intro p₀ e₀ s₀ m₀ as₀ bl₀ me₀ c₀ C hE
  refine V_Le (L' := [(0, .ref x), (1, .int p1)]) rfl ?_
  refine V_aload_n 1 C dX9_hours_0 rfl rfl ?_
  refine V_get (k := 2) 4 C dX9_hours_1 rfl fcX9 tw230 (by decide) rfl w0 rfl ?_
  refine V_aload_n 5 C dX9_hours_4 rfl rfl ?_
  refine V_get (k := 0) 8 C dX9_hours_5 rfl fcX9 tw228 (by decide) rfl w0 rfl ?_
  refine V_callV 11 C dX9_hours_8 rfl mX3_prepare tw634 fcX3 w3.2.1 (c_X3_prepare l G _ _ (x + 65) fi k D w3 (x + 1) y w1 hIy (by omega)) rfl rfl (by decide) ⟨by omega, by omega⟩ (Nat.le_of_ble_eq_true rfl) ?_
  rintro _ _ h1 ⟨rfl, rfl, hPp, hFp⟩
  have x0 : h1 x = some (obC x) := (hFp _ (by omega)).trans w0
  have x1 : cty (x + 1) y h1 := w1.fr (fun a _ _ => hFp a (by omega))
  have hSp : SysC x y k D S sv N T h1 := hS.past hPp.1 hFp
  refine V_aload_n 12 C dX9_hours_11 rfl rfl ?_
  refine V_aload_n 13 C dX9_hours_12 rfl rfl ?_
  refine V_get (k := 0) 16 C dX9_hours_13 rfl fcX9 tw228 (by decide) rfl x0 rfl ?_
  refine V_iload_n 17 C dX9_hours_16 rfl rfl ?_
  refine V_callV 20 C dX9_hours_17 rfl mX1_passHours tw731 fcX1 x1.1 (c_X1_passHours l G _ _ (x + 1) y x1 hIy p1) rfl rfl (by decide) ⟨by omega, by omega⟩ (Nat.le_of_ble_eq_true rfl) ?_
  rintro _ _ h2 ⟨rfl, rfl, hC2, hF2⟩
  have y0 : h2 x = some (obC x) := (hF2 _ (by omega)).trans x0
  have hP2 : pstP (x + 65) fi k D y h2 := hPp.fr (fun a _ _ => hF2 a (by omega))
  have hS2 : SysC x (aHr y p1).2 k D S sv N T h2 := hSp.now hC2 hF2
  have hX2 : FX x h h2 := fun a ha => (hF2 a (by omega)).trans (hFp a (by omega))
  refine V_callVX 23 C hE dX9_hours_20 rfl mX9_settled tw655 fcX9 y0 (c_X9_settled l G _ _ hl x y0 fi k D y hP2 _) rfl rfl (by decide) ⟨by omega, by omega⟩ (Nat.le_of_ble_eq_true rfl) (fun _ _ e => by obtain ⟨e1, rfl⟩ := e; exact PxA (⟨fun e => absurd e (aHr_c hIy _).1, fun _ => ⟨by decide, rfl⟩, fun e => absurd e (aHr_c hIy _).2⟩) e1 hS2 hX2) ?_
  rintro _ _ h5 ⟨rfl, hn5, rfl, hP5, hF5⟩
  have hS5 : SysC x (aHr y p1).2 (psC k) (psD k D y) S sv N T h5 := hS2.past hP5 (fun a ha => hF5 a (by omega))
  have hX5 : FX x h h5 := fun a ha => (hF5 a (by omega)).trans (hX2 a ha)
  refine V_x (V_ireturn C dX9_hours_23 rfl rfl (by omega) (by omega) ?_)
  exact (PoA hn5 hS5 hX5)

theorem dX9_undo_0 : decode cX9_undo 0 = .ok (.aload_n 0, 1) := by decide +kernel
theorem dX9_undo_1 : decode cX9_undo 1 = .ok (.getfield 22, 3) := by decide +kernel
theorem dX9_undo_4 : decode cX9_undo 4 = .ok (.getfield 256, 3) := by decide +kernel
theorem dX9_undo_7 : decode cX9_undo 7 = .ok (.ifCond .ne 14, 3) := by decide +kernel
theorem dX9_undo_10 : decode cX9_undo 10 = .ok (.new 56, 3) := by decide +kernel
theorem dX9_undo_13 : decode cX9_undo 13 = .ok (.dup, 1) := by decide +kernel
theorem dX9_undo_14 : decode cX9_undo 14 = .ok (.ldc_w 259, 3) := by decide +kernel
theorem dX9_undo_17 : decode cX9_undo 17 = .ok (.invokespecial 60, 3) := by decide +kernel
theorem dX9_undo_20 : decode cX9_undo 20 = .ok (.athrow, 1) := by decide +kernel
theorem dX9_undo_21 : decode cX9_undo 21 = .ok (.aload_n 0, 1) := by decide +kernel
theorem dX9_undo_22 : decode cX9_undo 22 = .ok (.getfield 22, 3) := by decide +kernel
theorem dX9_undo_25 : decode cX9_undo 25 = .ok (.aload_n 0, 1) := by decide +kernel
theorem dX9_undo_26 : decode cX9_undo 26 = .ok (.getfield 10, 3) := by decide +kernel
theorem dX9_undo_29 : decode cX9_undo 29 = .ok (.invokevirtual 261, 3) := by decide +kernel
theorem dX9_undo_32 : decode cX9_undo 32 = .ok (.ireturn, 1) := by decide +kernel
set_option maxRecDepth 100000 in
set_option maxHeartbeats 4000000 in
theorem c_X9_undo (l : Launch) (G : GT) (n : Nat) (h : AH) (hl : l.stackTraces = false) (x : Nat) (y : Nat → Nat) (k : Nat) (D S : Nat → Nat → Nat) (sv : Nat → Bool) (N : Nat) (T : Nat → Nat) (hS : SysC x y k D S sv N T h) (hI : SI y k D S sv N T) : CX l yX9_undo cX9_undo 1 (some .int) 7 4 24 G n h [.ref x] (PoC x h (if k = 0 then 1 else 0) (nI (k - 1)) (if k = 0 then y else D (k - 1)) (k - 1) D S sv N T) (PxC x h (if k = 0 then 1 else 0) [isE] (if k = 0 then y else D (k - 1)) (k - 1) D S sv N T) := by
  have NE := NO_eq
  obtain ⟨w0, w1, ⟨z2, w2⟩, ⟨fi, w3⟩, ⟨pf, pg, w4⟩, ⟨tp, tlt, tf, tg, w5⟩, ⟨f6, w6, v6⟩, w7, w8, ⟨g9, w9, v9⟩⟩ := id hS
  obtain ⟨hIy, hk14, hID, hIS, hN, hT⟩ := id hI
  obtain ⟨⟨i0, i1, i2, i3, i4⟩, iR, iU, iM, iS⟩ := id hIy
  obtain ⟨yob, ⟨fR, hfR, hR⟩, ⟨fU, hfU, hU⟩, ⟨fS, hfS, hSS⟩, ⟨fM, hfM, hM⟩, -, -, -⟩ := id w1
  refine CX_of mX9_undo.1 (Nat.le_of_ble_eq_true rfl) ?_
  intro p₀ e₀ s₀ m₀ as₀ bl₀ me₀ c₀ C hE
  refine V_Le (L' := [(0, .ref x)]) rfl ?_
  refine V_aload_n 1 C dX9_undo_0 rfl rfl ?_
  refine V_get (k := 2) 4 C dX9_undo_1 rfl fcX9 tw230 (by decide) rfl w0 rfl ?_
  refine V_get (k := 2) 7 C dX9_undo_4 rfl fcX3 tw183 (by decide) rfl w3.2.1 rfl ?_
  refine V_if_neN 21 10 C dX9_undo_7 (by decide) rfl (by omega) (fun c7 => ?_) (fun c7 => ?_)
  · refine V_aload_n 22 C dX9_undo_21 rfl rfl ?_
    refine V_get (k := 2) 25 C dX9_undo_22 rfl fcX9 tw230 (by decide) rfl w0 rfl ?_
    refine V_aload_n 26 C dX9_undo_25 rfl rfl ?_
    refine V_get (k := 0) 29 C dX9_undo_26 rfl fcX9 tw228 (by decide) rfl w0 rfl ?_
    refine V_callV 32 C dX9_undo_29 rfl mX3_takeBack tw740 fcX3 w3.2.1 (c_X3_takeBack l G _ _ (x + 65) fi k D w3 (x + 1) y w1 (hID (k - 1) (by omega)) (by omega) (by omega)) rfl rfl (by decide) ⟨by omega, by omega⟩ (Nat.le_of_ble_eq_true rfl) ?_
    rintro _ _ h2 ⟨rfl, rfl, hP2, hC2, hF2⟩
    refine V_x (V_ireturn C dX9_undo_32 rfl rfl (by omega) (by omega) ?_)
    exact (PoC_mk (if_neg c7) rfl (by rw [if_neg c7]; exact hS.pnow hC2 hP2 (fun a ha => hF2 a (by omega))) (fun a ha => hF2 a (by omega)))
  · exact V_throwW C hl hE thIS (show (259, "nothing is remembered") ∈ strL from by decide +kernel) dX9_undo_10 dX9_undo_13 dX9_undo_14 dX9_undo_17 dX9_undo_20 (by decide) ⟨by omega, by omega⟩ (Nat.le_of_ble_eq_true rfl) (PxC_mk 1 (if_pos c7) (by decide) rfl (by rw [if_pos c7, show k - 1 = k from by omega]; exact hS) FX.rf)

theorem dX9_append_0 : decode cX9_append 0 = .ok (.iload_n 1, 1) := by decide +kernel
theorem dX9_append_1 : decode cX9_append 1 = .ok (.iconst 0, 1) := by decide +kernel
theorem dX9_append_2 : decode cX9_append 2 = .ok (.sipush 255, 3) := by decide +kernel
theorem dX9_append_5 : decode cX9_append 5 = .ok (.invokestatic 48, 3) := by decide +kernel
theorem dX9_append_8 : decode cX9_append 8 = .ok (.aload_n 0, 1) := by decide +kernel
theorem dX9_append_9 : decode cX9_append 9 = .ok (.getfield 36, 3) := by decide +kernel
theorem dX9_append_12 : decode cX9_append 12 = .ok (.invokevirtual 52, 3) := by decide +kernel
theorem dX9_append_15 : decode cX9_append 15 = .ok (.ifCond .eq 13, 3) := by decide +kernel
theorem dX9_append_18 : decode cX9_append 18 = .ok (.new 56, 3) := by decide +kernel
theorem dX9_append_21 : decode cX9_append 21 = .ok (.dup, 1) := by decide +kernel
theorem dX9_append_22 : decode cX9_append 22 = .ok (.ldc 58, 2) := by decide +kernel
theorem dX9_append_24 : decode cX9_append 24 = .ok (.invokespecial 60, 3) := by decide +kernel
theorem dX9_append_27 : decode cX9_append 27 = .ok (.athrow, 1) := by decide +kernel
theorem dX9_append_28 : decode cX9_append 28 = .ok (.aload_n 0, 1) := by decide +kernel
theorem dX9_append_29 : decode cX9_append 29 = .ok (.getfield 36, 3) := by decide +kernel
theorem dX9_append_32 : decode cX9_append 32 = .ok (.iload_n 1, 1) := by decide +kernel
theorem dX9_append_33 : decode cX9_append 33 = .ok (.i2c, 1) := by decide +kernel
theorem dX9_append_34 : decode cX9_append 34 = .ok (.invokevirtual 63, 3) := by decide +kernel
theorem dX9_append_37 : decode cX9_append 37 = .ok (.ireturn, 1) := by decide +kernel
set_option maxRecDepth 100000 in
set_option maxHeartbeats 4000000 in
theorem c_X9_append (l : Launch) (G : GT) (n : Nat) (h : AH) (hl : l.stackTraces = false) (x : Nat) (y : Nat → Nat) (k : Nat) (D S : Nat → Nat → Nat) (sv : Nat → Bool) (N : Nat) (T : Nat → Nat) (hS : SysC x y k D S sv N T h) (hI : SI y k D S sv N T) (p1 : Int32) : CX l yX9_append cX9_append 2 (some .int) 7 4 24 G n h [.ref x, .int p1] (PoC x h (if ix p1 256 then (if N < 120 then 0 else 2) else 1) (nI (N + 1)) y k D S sv (aN (if ix p1 256 then (if N < 120 then 0 else 2) else 1) N) (aTx (if ix p1 256 then (if N < 120 then 0 else 2) else 1) N T (z p1))) (PxC x h (if ix p1 256 then (if N < 120 then 0 else 2) else 1) [iaE, isE] y k D S sv (aN (if ix p1 256 then (if N < 120 then 0 else 2) else 1) N) (aTx (if ix p1 256 then (if N < 120 then 0 else 2) else 1) N T (z p1))) := by
  have NE := NO_eq
  obtain ⟨w0, w1, ⟨z2, w2⟩, ⟨fi, w3⟩, ⟨pf, pg, w4⟩, ⟨tp, tlt, tf, tg, w5⟩, ⟨f6, w6, v6⟩, w7, w8, ⟨g9, w9, v9⟩⟩ := id hS
  obtain ⟨hIy, hk14, hID, hIS, hN, hT⟩ := id hI
  obtain ⟨⟨i0, i1, i2, i3, i4⟩, iR, iU, iM, iS⟩ := id hIy
  obtain ⟨yob, ⟨fR, hfR, hR⟩, ⟨fU, hfU, hU⟩, ⟨fS, hfS, hSS⟩, ⟨fM, hfM, hM⟩, -, -, -⟩ := id w1
  refine CX_of mX9_append.1 (Nat.le_of_ble_eq_true rfl) ?_
  intro p₀ e₀ s₀ m₀ as₀ bl₀ me₀ c₀ C hE
  refine V_Le (L' := [(0, .ref x), (1, .int p1)]) rfl ?_
  refine V_iload_n 1 C dX9_append_0 rfl rfl ?_
  refine V_iconst 2 C dX9_append_1 rfl ic0 ?_
  refine V_sipush 5 C dX9_append_2 rfl sip255 ?_
  refine V_callSX 8 C hE dX9_append_5 rfl mX9_requireRange tw262 (c_X9_requireRange l G _ _ hl p1 0 255 (by omega) (by omega)) rfl rfl (by decide) ⟨by omega, by omega⟩ (Nat.le_of_ble_eq_true rfl) (fun _ _ e => by obtain ⟨rfl, e2, rfl⟩ := e; rw [show (if ix p1 256 then (if N < 120 then 0 else 2) else 1) = 1 from if_neg (fun q => e2 (by have := q.1; have := q.2; omega))]; exact PxC_mk 1 rfl (by decide) rfl hS FX.rf) ?_
  rintro _ _ _ ⟨rfl, hr5, rfl, rfl⟩
  have hw : ix p1 256 := ⟨by omega, by omega⟩
  obtain ⟨j1, hj1, rfl⟩ := ix_of hw (by omega)
  refine V_aload_n 9 C dX9_append_8 rfl rfl ?_
  refine V_get (k := 4) 12 C dX9_append_9 rfl fcX9 tw232 (by decide) rfl w0 rfl ?_
  refine V_callV 15 C dX9_append_12 rfl mX0_isFull tw336 fcX0 w5.2.1 (c_X0_isFull l G _ _ (x + 550) N T tp tlt tf tg w5) rfl rfl (by decide) ⟨by omega, by omega⟩ (Nat.le_of_ble_eq_true rfl) ?_
  rintro _ _ _ ⟨rfl, rfl, rfl⟩
  refine V_if_eqB 28 18 C dX9_append_15 (by decide) rfl  (fun c15 => ?_) (fun c15 => ?_)
  · have h120 : N < 120 := by omega
    refine V_aload_n 29 C dX9_append_28 rfl rfl ?_
    refine V_get (k := 4) 32 C dX9_append_29 rfl fcX9 tw232 (by decide) rfl w0 rfl ?_
    refine V_iload_n 33 C dX9_append_32 rfl rfl ?_
    refine V_i2c 34 C dX9_append_33 rfl  ?_
    rw [i2c_n (by omega)]
    refine V_callV 37 C dX9_append_34 rfl mX0_add tw356 fcX0 w5.2.1 (c_X0_add l G _ _ (x + 550) N T tp tlt tf tg w5 j1 (by omega) h120) rfl rfl (by decide) ⟨by omega, by omega⟩ (Nat.le_of_ble_eq_true rfl) ?_
    rintro _ _ _ ⟨rfl, rfl, rfl⟩
    have ek : (if ix (nI j1) 256 then (if N < 120 then 0 else 2) else 1) = 0 := by rw [if_pos hw, if_pos h120]
    refine V_x (V_ireturn C dX9_append_37 rfl rfl (by omega) (by omega) ?_)
    exact (by rw [ek]; exact PoC_mk rfl rfl (hS.txt (by rw [zn (by omega)]; exact tx_add w5 (by omega) h120) (fun a ha => by rw [up_n _ (by omega), up_n _ (by omega)])) (fun a ha => by rw [up_n _ (by omega), up_n _ (by omega)]))
  · exact V_throwS C hl hE thIS (show (58, "the text is full") ∈ strL from by decide +kernel) dX9_append_18 dX9_append_21 dX9_append_22 dX9_append_24 dX9_append_27 (by decide) ⟨by omega, by omega⟩ (Nat.le_of_ble_eq_true rfl) (by rw [show (if ix (nI j1) 256 then (if N < 120 then 0 else 2) else 1) = 2 from by rw [if_pos hw, if_neg (by omega)]]; exact PxC_mk 2 rfl (by decide) rfl hS FX.rf)

theorem dX9_save_0 : decode cX9_save 0 = .ok (.iload_n 1, 1) := by decide +kernel
theorem dX9_save_1 : decode cX9_save 1 = .ok (.ifCond .lt 12, 3) := by decide +kernel
theorem dX9_save_4 : decode cX9_save 4 = .ok (.iload_n 1, 1) := by decide +kernel
theorem dX9_save_5 : decode cX9_save 5 = .ok (.iconst 2, 1) := by decide +kernel
theorem dX9_save_6 : decode cX9_save 6 = .ok (.if_icmp .ge 7, 3) := by decide +kernel
theorem dX9_save_9 : decode cX9_save 9 = .ok (.iconst 1, 1) := by decide +kernel
theorem dX9_save_10 : decode cX9_save 10 = .ok (.goto 4, 3) := by decide +kernel
theorem dX9_save_13 : decode cX9_save 13 = .ok (.iconst 0, 1) := by decide +kernel
theorem dX9_save_14 : decode cX9_save 14 = .ok (.invokestatic 126, 3) := by decide +kernel
theorem dX9_save_17 : decode cX9_save 17 = .ok (.aload_n 0, 1) := by decide +kernel
theorem dX9_save_18 : decode cX9_save 18 = .ok (.getfield 40, 3) := by decide +kernel
theorem dX9_save_21 : decode cX9_save 21 = .ok (.iload_n 1, 1) := by decide +kernel
theorem dX9_save_22 : decode cX9_save 22 = .ok (.aaload, 1) := by decide +kernel
theorem dX9_save_23 : decode cX9_save 23 = .ok (.aload_n 0, 1) := by decide +kernel
theorem dX9_save_24 : decode cX9_save 24 = .ok (.getfield 10, 3) := by decide +kernel
theorem dX9_save_27 : decode cX9_save 27 = .ok (.invokevirtual 292, 3) := by decide +kernel
theorem dX9_save_30 : decode cX9_save 30 = .ok (.aload_n 0, 1) := by decide +kernel
theorem dX9_save_31 : decode cX9_save 31 = .ok (.getfield 44, 3) := by decide +kernel
theorem dX9_save_34 : decode cX9_save 34 = .ok (.iload_n 1, 1) := by decide +kernel
theorem dX9_save_35 : decode cX9_save 35 = .ok (.iconst 1, 1) := by decide +kernel
theorem dX9_save_36 : decode cX9_save 36 = .ok (.bastore, 1) := by decide +kernel
theorem dX9_save_37 : decode cX9_save 37 = .ok (.aload_n 0, 1) := by decide +kernel
theorem dX9_save_38 : decode cX9_save 38 = .ok (.getfield 10, 3) := by decide +kernel
theorem dX9_save_41 : decode cX9_save 41 = .ok (.getfield 102, 3) := by decide +kernel
theorem dX9_save_44 : decode cX9_save 44 = .ok (.ireturn, 1) := by decide +kernel
set_option maxRecDepth 100000 in
set_option maxHeartbeats 4000000 in
theorem c_X9_save (l : Launch) (G : GT) (n : Nat) (h : AH) (hl : l.stackTraces = false) (x : Nat) (y : Nat → Nat) (k : Nat) (D S : Nat → Nat → Nat) (sv : Nat → Bool) (N : Nat) (T : Nat → Nat) (hS : SysC x y k D S sv N T h) (hI : SI y k D S sv N T) (p1 : Int32) : CX l yX9_save cX9_save 2 (some .int) 7 4 24 G n h [.ref x, .int p1] (PoC x h (if ix p1 2 then 0 else 1) (nI (y 5)) y k D (sA (if ix p1 2 then 0 else 1) (z p1) y S) (sB (if ix p1 2 then 0 else 1) (z p1) sv) N T) (PxC x h (if ix p1 2 then 0 else 1) [ioE] y k D (sA (if ix p1 2 then 0 else 1) (z p1) y S) (sB (if ix p1 2 then 0 else 1) (z p1) sv) N T) := by
  have NE := NO_eq
  obtain ⟨w0, w1, ⟨z2, w2⟩, ⟨fi, w3⟩, ⟨pf, pg, w4⟩, ⟨tp, tlt, tf, tg, w5⟩, ⟨f6, w6, v6⟩, w7, w8, ⟨g9, w9, v9⟩⟩ := id hS
  obtain ⟨hIy, hk14, hID, hIS, hN, hT⟩ := id hI
  obtain ⟨⟨i0, i1, i2, i3, i4⟩, iR, iU, iM, iS⟩ := id hIy
  obtain ⟨yob, ⟨fR, hfR, hR⟩, ⟨fU, hfU, hU⟩, ⟨fS, hfS, hSS⟩, ⟨fM, hfM, hM⟩, -, -, -⟩ := id w1
  refine CX_of mX9_save.1 (Nat.le_of_ble_eq_true rfl) ?_
  intro p₀ e₀ s₀ m₀ as₀ bl₀ me₀ c₀ C hE
  refine V_Le (L' := [(0, .ref x), (1, .int p1)]) rfl ?_
  refine V_iload_n 1 C dX9_save_0 rfl rfl ?_
  have J14 : ∀ (b9 : Nat) (hb9 : b9 = bp (ix p1 2)), V p₀ l e₀ (rmD 7 4 24) s₀ m₀ as₀ bl₀ me₀ c₀ (vx_MQ bl₀ (Po G (PoC x h (if ix p1 2 then 0 else 1) (nI (y 5)) y k D (sA (if ix p1 2 then 0 else 1) (z p1) y S) (sB (if ix p1 2 then 0 else 1) (z p1) sv) N T)) (PX G (PxC x h (if ix p1 2 then 0 else 1) [ioE] y k D (sA (if ix p1 2 then 0 else 1) (z p1) y S) (sB (if ix p1 2 then 0 else 1) (z p1) sv) N T)) as₀ s₀ 4 24 (rg G)) G 2 0 0 n h 14 [(0, .ref x), (1, .int p1)] [.int (nI b9)] := by
    intro b9 hb9
    refine V_callSX 17 C hE dX9_save_14 rfl mX9_requireThere tw573 (c_X9_requireThere l G _ _ hl b9 (by rw [hb9]; exact bp_le)) rfl rfl (by decide) ⟨by omega, by omega⟩ (Nat.le_of_ble_eq_true rfl) (fun _ _ e => by obtain ⟨rfl, e2, rfl⟩ := e; rw [show (if ix p1 2 then 0 else 1) = 1 from if_neg (bp_0.mp (by rw [← hb9]; exact e2))]; exact PxC_mk 1 rfl (by decide) rfl hS FX.rf) ?_
    rintro _ _ _ ⟨rfl, hb14, rfl, rfl⟩
    have ht : ix p1 2 := bp_1.mp (by rw [← hb9]; omega)
    obtain ⟨j1, hj1, rfl⟩ := ix_of ht (by omega)
    obtain ⟨zs, hzs⟩ := w7 j1 hj1
    have z1 := zn (show j1 < 2 ^ 31 by omega)
    have ek : (if ix (nI j1) 2 then 0 else 1) = 0 := if_pos ht
    refine V_aload_n 18 C dX9_save_17 rfl rfl ?_
    refine V_get (k := 5) 21 C dX9_save_18 rfl fcX9 tw233 (by decide) rfl w0 rfl ?_
    refine V_iload_n 22 C dX9_save_21 rfl rfl ?_
    refine V_aald (j := j1) 23 C dX9_save_22 rfl w6 rfl rfl (by omega) (by omega) (v6 _ hj1) ?_
    refine V_aload_n 24 C dX9_save_23 rfl rfl ?_
    refine V_get (k := 0) 27 C dX9_save_24 rfl fcX9 tw228 (by decide) rfl w0 rfl ?_
    refine V_callV 30 C dX9_save_27 rfl mX1_copyFrom tw845 fcX1 hzs.1 (c_X1_copyFrom l G _ _ (x + 554 + 32 * j1) (x + 1) zs y hzs w1 hIy (by omega)) rfl rfl (by decide) ⟨by omega, by omega⟩ (Nat.le_of_ble_eq_true rfl) ?_
    rintro _ _ h1 ⟨rfl, rfl, hC1, hF1⟩
    have x0 : h1 x = some (obC x) := (hF1 _ (by omega)).trans w0
    have x9 := (hF1 (x + 618) (by omega)).trans w9
    refine V_aload_n 31 C dX9_save_30 rfl rfl ?_
    refine V_get (k := 6) 34 C dX9_save_31 rfl fcX9 tw234 (by decide) rfl x0 rfl ?_
    refine V_iload_n 35 C dX9_save_34 rfl rfl ?_
    refine V_iconst 36 C dX9_save_35 rfl ic1 ?_
    refine V_zast (j := j1) 37 C dX9_save_36 rfl x9 rfl (by omega) (by omega) ?_
    rw [bar1]
    have hS3 := hS.sav (h' := up h1 (x + 618) (.inl (1, 2, .inl (upd g9 j1 (nI 1))))) (j := j1) (y0 := y) hj1 (hC1.fr (fun a _ _ => up_n _ (by omega))) (up_s _ _ _) (fun i hi => by
      by_cases e : i = j1
      · rw [e, pk_us, if_pos rfl]; rfl
      · rw [pk_un e, if_neg e]; exact v9 i hi) (fun a ha => (up_n _ (by omega)).trans (hF1 a (by omega)))
    refine V_aload_n 38 C dX9_save_37 rfl rfl ?_
    refine V_get (k := 0) 41 C dX9_save_38 rfl fcX9 tw228 (by decide) rfl hS3.1 rfl ?_
    refine V_get (k := 5) 44 C dX9_save_41 rfl fcX1 tw134 (by decide) rfl hS3.2.1.1 rfl ?_
    refine V_x (V_ireturn C dX9_save_44 rfl rfl (by omega) (by omega) ?_)
    exact (by rw [ek, z1]; exact PoC_mk rfl rfl hS3 (fun a ha => (up_n _ (by omega)).trans (hF1 a (by omega))))
  refine V_if_lt 13 4 C dX9_save_1 (by decide) rfl  (fun c1 => ?_) (fun c1 => ?_)
  · rw [Int32.lt_iff_toInt_lt, Int32.toInt_zero] at c1
    have hno : ¬ ix p1 2 := fun e => by have := e.1; omega
    refine V_iconst 14 C dX9_save_13 rfl ic0 ?_
    refine V_L [0, 1] rfl ?_
    exact J14 0 (bp_f hno).symm
  · rw [Int32.lt_iff_toInt_lt, Int32.toInt_zero] at c1
    refine V_iload_n 5 C dX9_save_4 rfl rfl ?_
    refine V_iconst 6 C dX9_save_5 rfl ic2 ?_
    refine V_icmp_ge 13 9 C dX9_save_6 (by decide) rfl  (fun c6 => ?_) (fun c6 => ?_)
    · rw [Int32.le_iff_toInt_le, nI_toInt (by omega)] at c6
      have hno : ¬ ix p1 2 := fun e => by have := e.2; omega
      refine V_iconst 14 C dX9_save_13 rfl ic0 ?_
      refine V_L [0, 1] rfl ?_
      exact J14 0 (bp_f hno).symm
    · rw [Int32.le_iff_toInt_le, nI_toInt (by omega)] at c6
      refine V_iconst 10 C dX9_save_9 rfl ic1 ?_
      refine V_goto 14 C dX9_save_10 (by decide) ?_
      refine V_L [0, 1] rfl ?_
      exact J14 1 (bp_t ⟨by omega, by omega⟩).symm

theorem dX9_restore_0 : decode cX9_restore 0 = .ok (.iload_n 1, 1) := by decide +kernel
theorem dX9_restore_1 : decode cX9_restore 1 = .ok (.ifCond .lt 12, 3) := by decide +kernel
theorem dX9_restore_4 : decode cX9_restore 4 = .ok (.iload_n 1, 1) := by decide +kernel
theorem dX9_restore_5 : decode cX9_restore 5 = .ok (.iconst 2, 1) := by decide +kernel
theorem dX9_restore_6 : decode cX9_restore 6 = .ok (.if_icmp .ge 7, 3) := by decide +kernel
theorem dX9_restore_9 : decode cX9_restore 9 = .ok (.iconst 1, 1) := by decide +kernel
theorem dX9_restore_10 : decode cX9_restore 10 = .ok (.goto 4, 3) := by decide +kernel
theorem dX9_restore_13 : decode cX9_restore 13 = .ok (.iconst 0, 1) := by decide +kernel
theorem dX9_restore_14 : decode cX9_restore 14 = .ok (.invokestatic 126, 3) := by decide +kernel
theorem dX9_restore_17 : decode cX9_restore 17 = .ok (.aload_n 0, 1) := by decide +kernel
theorem dX9_restore_18 : decode cX9_restore 18 = .ok (.getfield 44, 3) := by decide +kernel
theorem dX9_restore_21 : decode cX9_restore 21 = .ok (.iload_n 1, 1) := by decide +kernel
theorem dX9_restore_22 : decode cX9_restore 22 = .ok (.baload, 1) := by decide +kernel
theorem dX9_restore_23 : decode cX9_restore 23 = .ok (.ifCond .ne 14, 3) := by decide +kernel
theorem dX9_restore_26 : decode cX9_restore 26 = .ok (.new 56, 3) := by decide +kernel
theorem dX9_restore_29 : decode cX9_restore 29 = .ok (.dup, 1) := by decide +kernel
theorem dX9_restore_30 : decode cX9_restore 30 = .ok (.ldc_w 311, 3) := by decide +kernel
theorem dX9_restore_33 : decode cX9_restore 33 = .ok (.invokespecial 60, 3) := by decide +kernel
theorem dX9_restore_36 : decode cX9_restore 36 = .ok (.athrow, 1) := by decide +kernel
theorem dX9_restore_37 : decode cX9_restore 37 = .ok (.aload_n 0, 1) := by decide +kernel
theorem dX9_restore_38 : decode cX9_restore 38 = .ok (.getfield 10, 3) := by decide +kernel
theorem dX9_restore_41 : decode cX9_restore 41 = .ok (.aload_n 0, 1) := by decide +kernel
theorem dX9_restore_42 : decode cX9_restore 42 = .ok (.getfield 40, 3) := by decide +kernel
theorem dX9_restore_45 : decode cX9_restore 45 = .ok (.iload_n 1, 1) := by decide +kernel
theorem dX9_restore_46 : decode cX9_restore 46 = .ok (.aaload, 1) := by decide +kernel
theorem dX9_restore_47 : decode cX9_restore 47 = .ok (.invokevirtual 292, 3) := by decide +kernel
theorem dX9_restore_50 : decode cX9_restore 50 = .ok (.aload_n 0, 1) := by decide +kernel
theorem dX9_restore_51 : decode cX9_restore 51 = .ok (.getfield 22, 3) := by decide +kernel
theorem dX9_restore_54 : decode cX9_restore 54 = .ok (.invokevirtual 76, 3) := by decide +kernel
theorem dX9_restore_57 : decode cX9_restore 57 = .ok (.aload_n 0, 1) := by decide +kernel
theorem dX9_restore_58 : decode cX9_restore 58 = .ok (.getfield 10, 3) := by decide +kernel
theorem dX9_restore_61 : decode cX9_restore 61 = .ok (.getfield 102, 3) := by decide +kernel
theorem dX9_restore_64 : decode cX9_restore 64 = .ok (.ireturn, 1) := by decide +kernel
set_option maxRecDepth 100000 in
set_option maxHeartbeats 4000000 in
theorem c_X9_restore (l : Launch) (G : GT) (n : Nat) (h : AH) (hl : l.stackTraces = false) (x : Nat) (y : Nat → Nat) (k : Nat) (D S : Nat → Nat → Nat) (sv : Nat → Bool) (N : Nat) (T : Nat → Nat) (hS : SysC x y k D S sv N T h) (hI : SI y k D S sv N T) (p1 : Int32) : CX l yX9_restore cX9_restore 2 (some .int) 7 4 24 G n h [.ref x, .int p1] (PoC x h (if ix p1 2 then (if sv (z p1) = true then 0 else 2) else 1) (nI (S (z p1) 5)) (if (if ix p1 2 then (if sv (z p1) = true then 0 else 2) else 1) = 0 then S (z p1) else y) (if (if ix p1 2 then (if sv (z p1) = true then 0 else 2) else 1) = 0 then 0 else k) D S sv N T) (PxC x h (if ix p1 2 then (if sv (z p1) = true then 0 else 2) else 1) [ioE, isE] (if (if ix p1 2 then (if sv (z p1) = true then 0 else 2) else 1) = 0 then S (z p1) else y) (if (if ix p1 2 then (if sv (z p1) = true then 0 else 2) else 1) = 0 then 0 else k) D S sv N T) := by
  have NE := NO_eq
  obtain ⟨w0, w1, ⟨z2, w2⟩, ⟨fi, w3⟩, ⟨pf, pg, w4⟩, ⟨tp, tlt, tf, tg, w5⟩, ⟨f6, w6, v6⟩, w7, w8, ⟨g9, w9, v9⟩⟩ := id hS
  obtain ⟨hIy, hk14, hID, hIS, hN, hT⟩ := id hI
  obtain ⟨⟨i0, i1, i2, i3, i4⟩, iR, iU, iM, iS⟩ := id hIy
  obtain ⟨yob, ⟨fR, hfR, hR⟩, ⟨fU, hfU, hU⟩, ⟨fS, hfS, hSS⟩, ⟨fM, hfM, hM⟩, -, -, -⟩ := id w1
  refine CX_of mX9_restore.1 (Nat.le_of_ble_eq_true rfl) ?_
  intro p₀ e₀ s₀ m₀ as₀ bl₀ me₀ c₀ C hE
  refine V_Le (L' := [(0, .ref x), (1, .int p1)]) rfl ?_
  refine V_iload_n 1 C dX9_restore_0 rfl rfl ?_
  have J14 : ∀ (b9 : Nat) (hb9 : b9 = bp (ix p1 2)), V p₀ l e₀ (rmD 7 4 24) s₀ m₀ as₀ bl₀ me₀ c₀ (vx_MQ bl₀ (Po G (PoC x h (if ix p1 2 then (if sv (z p1) = true then 0 else 2) else 1) (nI (S (z p1) 5)) (if (if ix p1 2 then (if sv (z p1) = true then 0 else 2) else 1) = 0 then S (z p1) else y) (if (if ix p1 2 then (if sv (z p1) = true then 0 else 2) else 1) = 0 then 0 else k) D S sv N T)) (PX G (PxC x h (if ix p1 2 then (if sv (z p1) = true then 0 else 2) else 1) [ioE, isE] (if (if ix p1 2 then (if sv (z p1) = true then 0 else 2) else 1) = 0 then S (z p1) else y) (if (if ix p1 2 then (if sv (z p1) = true then 0 else 2) else 1) = 0 then 0 else k) D S sv N T)) as₀ s₀ 4 24 (rg G)) G 2 0 0 n h 14 [(0, .ref x), (1, .int p1)] [.int (nI b9)] := by
    intro b9 hb9
    refine V_callSX 17 C hE dX9_restore_14 rfl mX9_requireThere tw573 (c_X9_requireThere l G _ _ hl b9 (by rw [hb9]; exact bp_le)) rfl rfl (by decide) ⟨by omega, by omega⟩ (Nat.le_of_ble_eq_true rfl) (fun _ _ e => by obtain ⟨rfl, e2, rfl⟩ := e; rw [show (if ix p1 2 then (if sv (z p1) = true then 0 else 2) else 1) = 1 from if_neg (bp_0.mp (by rw [← hb9]; exact e2))]; exact PxC_mk 1 rfl (by decide) rfl hS FX.rf) ?_
    rintro _ _ _ ⟨rfl, hb14, rfl, rfl⟩
    have ht : ix p1 2 := bp_1.mp (by rw [← hb9]; omega)
    obtain ⟨j1, hj1, rfl⟩ := ix_of ht (by omega)
    have z1 := zn (show j1 < 2 ^ 31 by omega)
    have hb1 := Bool.toNat_le (sv j1)
    refine V_aload_n 18 C dX9_restore_17 rfl rfl ?_
    refine V_get (k := 6) 21 C dX9_restore_18 rfl fcX9 tw234 (by decide) rfl w0 rfl ?_
    refine V_iload_n 22 C dX9_restore_21 rfl rfl ?_
    refine V_zald (j := j1) 23 C dX9_restore_22 rfl w9 rfl (by omega) (by omega) ?_
    rw [v9 j1 hj1]
    refine V_if_neN 37 26 C dX9_restore_23 (by decide) rfl (by omega) (fun c23 => ?_) (fun c23 => ?_)
    · have hsv : sv j1 = true := by cases e : sv j1 with | true => rfl | false => rw [e] at c23; exact absurd rfl c23
      have ek : (if ix (nI j1) 2 then (if sv (z (nI j1)) = true then 0 else 2) else 1) = 0 := by rw [if_pos ht, z1, if_pos hsv]
      refine V_aload_n 38 C dX9_restore_37 rfl rfl ?_
      refine V_get (k := 0) 41 C dX9_restore_38 rfl fcX9 tw228 (by decide) rfl w0 rfl ?_
      refine V_aload_n 42 C dX9_restore_41 rfl rfl ?_
      refine V_get (k := 5) 45 C dX9_restore_42 rfl fcX9 tw233 (by decide) rfl w0 rfl ?_
      refine V_iload_n 46 C dX9_restore_45 rfl rfl ?_
      refine V_aald (j := j1) 47 C dX9_restore_46 rfl w6 rfl rfl (by omega) (by omega) (v6 _ hj1) ?_
      refine V_callV 50 C dX9_restore_47 rfl mX1_copyFrom tw845 fcX1 w1.1 (c_X1_copyFrom l G _ _ (x + 1) (x + 554 + 32 * j1) y (S j1) w1 (w8 j1 hj1 hsv) (hIS j1 hj1 hsv) (by omega)) rfl rfl (by decide) ⟨by omega, by omega⟩ (Nat.le_of_ble_eq_true rfl) ?_
      rintro _ _ h1 ⟨rfl, rfl, hC1, hF1⟩
      have hS1 := hS.now hC1 hF1
      have x0 := hS1.1
      obtain ⟨fi1, x3⟩ := hS1.2.2.2.1
      refine V_aload_n 51 C dX9_restore_50 rfl rfl ?_
      refine V_get (k := 2) 54 C dX9_restore_51 rfl fcX9 tw230 (by decide) rfl x0 rfl ?_
      refine V_callV 57 C dX9_restore_54 rfl mX3_forget tw396 fcX3 x3.2.1 (c_X3_forget l G _ _ (x + 65) fi1 k D x3) rfl rfl (by decide) ⟨by omega, by omega⟩ (Nat.le_of_ble_eq_true rfl) ?_
      rintro _ _ h2 ⟨rfl, rfl, eh2⟩
      have hP2 : pst (x + 65) fi1 0 D h2 := by rw [eh2]; exact x3.ob ⟨x3.1.1, by omega⟩ (fun i hi => absurd hi (by omega))
      have hF2 : FP (x + 65) h1 h2 := fun a ha => by rw [eh2]; exact up_n _ (by omega)
      have hS2 := hS1.past hP2 hF2
      refine V_aload_n 58 C dX9_restore_57 rfl rfl ?_
      refine V_get (k := 0) 61 C dX9_restore_58 rfl fcX9 tw228 (by decide) rfl hS2.1 rfl ?_
      refine V_get (k := 5) 64 C dX9_restore_61 rfl fcX1 tw134 (by decide) rfl hS2.2.1.1 rfl ?_
      refine V_x (V_ireturn C dX9_restore_64 rfl rfl (by omega) (by omega) ?_)
      exact (by rw [ek, z1]; exact PoC_mk rfl rfl hS2 (fun a ha => (hF2 a (by omega)).trans (hF1 a (by omega))))
    · have hsv : ¬ sv j1 = true := fun e => by rw [e] at c23; exact absurd c23 (by decide)
      have ek : (if ix (nI j1) 2 then (if sv (z (nI j1)) = true then 0 else 2) else 1) = 2 := by rw [if_pos ht, z1, if_neg hsv]
      exact V_throwW C hl hE thIS (show (311, "nothing is saved in this slot") ∈ strL from by decide +kernel) dX9_restore_26 dX9_restore_29 dX9_restore_30 dX9_restore_33 dX9_restore_36 (by decide) ⟨by omega, by omega⟩ (Nat.le_of_ble_eq_true rfl) (by rw [ek]; exact PxC_mk 2 rfl (by decide) rfl hS FX.rf)
  refine V_if_lt 13 4 C dX9_restore_1 (by decide) rfl  (fun c1 => ?_) (fun c1 => ?_)
  · rw [Int32.lt_iff_toInt_lt, Int32.toInt_zero] at c1
    have hno : ¬ ix p1 2 := fun e => by have := e.1; omega
    refine V_iconst 14 C dX9_restore_13 rfl ic0 ?_
    refine V_L [0, 1] rfl ?_
    exact J14 0 (bp_f hno).symm
  · rw [Int32.lt_iff_toInt_lt, Int32.toInt_zero] at c1
    refine V_iload_n 5 C dX9_restore_4 rfl rfl ?_
    refine V_iconst 6 C dX9_restore_5 rfl ic2 ?_
    refine V_icmp_ge 13 9 C dX9_restore_6 (by decide) rfl  (fun c6 => ?_) (fun c6 => ?_)
    · rw [Int32.le_iff_toInt_le, nI_toInt (by omega)] at c6
      have hno : ¬ ix p1 2 := fun e => by have := e.2; omega
      refine V_iconst 14 C dX9_restore_13 rfl ic0 ?_
      refine V_L [0, 1] rfl ?_
      exact J14 0 (bp_f hno).symm
    · rw [Int32.le_iff_toInt_le, nI_toInt (by omega)] at c6
      refine V_iconst 10 C dX9_restore_9 rfl ic1 ?_
      refine V_goto 14 C dX9_restore_10 (by decide) ?_
      refine V_L [0, 1] rfl ?_
      exact J14 1 (bp_t ⟨by omega, by omega⟩).symm


