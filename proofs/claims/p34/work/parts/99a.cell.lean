theorem dL_cell_0 : decode cL_cell 0 = .ok (.iload_n 1, 1) := by decide +kernel
theorem dL_cell_1 : decode cL_cell 1 = .ok (.aload_n 0, 1) := by decide +kernel
theorem dL_cell_2 : decode cL_cell 2 = .ok (.arraylength, 1) := by decide +kernel
theorem dL_cell_3 : decode cL_cell 3 = .ok (.if_icmp .ge 9, 3) := by decide +kernel
theorem dL_cell_6 : decode cL_cell 6 = .ok (.aload_n 0, 1) := by decide +kernel
theorem dL_cell_7 : decode cL_cell 7 = .ok (.iload_n 1, 1) := by decide +kernel
theorem dL_cell_8 : decode cL_cell 8 = .ok (.iaload, 1) := by decide +kernel
theorem dL_cell_9 : decode cL_cell 9 = .ok (.goto 13, 3) := by decide +kernel
theorem dL_cell_12 : decode cL_cell 12 = .ok (.ldc 196, 2) := by decide +kernel
theorem dL_cell_14 : decode cL_cell 14 = .ok (.iload_n 1, 1) := by decide +kernel
theorem dL_cell_15 : decode cL_cell 15 = .ok (.iconst 3, 1) := by decide +kernel
theorem dL_cell_16 : decode cL_cell 16 = .ok (.iadd, 1) := by decide +kernel
theorem dL_cell_17 : decode cL_cell 17 = .ok (.imul, 1) := by decide +kernel
theorem dL_cell_18 : decode cL_cell 18 = .ok (.sipush 11831, 3) := by decide +kernel
theorem dL_cell_21 : decode cL_cell 21 = .ok (.iadd, 1) := by decide +kernel
theorem dL_cell_22 : decode cL_cell 22 = .ok (.ldc 197, 2) := by decide +kernel
theorem dL_cell_24 : decode cL_cell 24 = .ok (.iand, 1) := by decide +kernel
theorem dL_cell_25 : decode cL_cell 25 = .ok (.ireturn, 1) := by decide +kernel
/-! THE SCRIPT'S CELLS -/
def WdX (G : GT) (n : Nat) (h : AH) (b LL : Nat) (xs : Nat → Int32) (U : State) : Prop := Wd G n h U ∧ va_X b LL xs U U.heap ∧ b < U.heap.size ∧ ¬ rg G b
theorem WdX.blind {G : GT} {n : Nat} {h : AH} {b LL : Nat} {xs : Nat → Int32} {av : List Value} : FrameBlind (va_Pc av (WdX G n h b LL xs)) := by
  intro a U g mk hp
  obtain ⟨e, hW, hX, hb, hr⟩ := hp
  have hw : U.WarmedH (U.calling g mk a).vm := State.WarmedH.refl U
  exact ⟨e, (Wd.blind (av := av) a U g mk ⟨e, hW⟩).2, va_X.moved hw.alike hX, hb, hr⟩
def CtX (l : Launch) (G : GT) (n : Nat) (h : AH) (b LL : Nat) (xs : Nat → Int32) (k : Int32) (post : Option Value → Nat → AH → Prop) : Prop := Met l yL_cell (Cond.code yL_cell cL_cell 2 (some .int) :: TB) (rmD 1 0 0) (va_Pc [.ref b, .int k] (WdX G n h b LL xs)) (Po G post) 0 0 (rg G)
theorem and_pos (x : Int32) : ∃ k, k < 2 ^ 31 ∧ x &&& 2147483647 = nI k := by
  have e : x = nI x.toBitVec.toNat := by
    apply Int32.toBitVec_inj.1
    show x.toBitVec = BitVec.ofNat 32 x.toBitVec.toNat
    simp
  refine ⟨x.toBitVec.toNat % 2 ^ 31, Nat.mod_lt _ (by omega), ?_⟩
  have a2 : ∀ a b : Nat, nI a &&& nI b = nI (a &&& b) := fun a b => by
    apply Int32.toBitVec_inj.1
    show BitVec.ofNat 32 a &&& BitVec.ofNat 32 b = BitVec.ofNat 32 (a &&& b)
    apply BitVec.eq_of_getLsbD_eq
    intro i hi
    simp [hi]
  have a3 := a2 x.toBitVec.toNat 2147483647
  rw [← e, show (2147483647 : Nat) = 2 ^ 31 - 1 from rfl, Nat.and_two_pow_sub_one_eq_mod] at a3
  exact a3
set_option maxRecDepth 100000 in
set_option maxHeartbeats 4000000 in
theorem c_L_cell (l : Launch) (G : GT) (n : Nat) (h : AH) (b LL : Nat) (xs : Nat → Int32) (hLL : LL ≤ 260) (k : Nat) (hk : k < 2 ^ 31) : CtX l G n h b LL xs (nI k) (fun v n' h' => (∃ j, j < 2 ^ 31 ∧ v = some (.int (nI j))) ∧ n' = n ∧ h' = h) := by
  refine Met.ofW (cc := cL_cell) (maxL := 2) (ret := some .int) mL_cell.1.2.2.2.2.2 rfl ?_
  intro p e s m args below meth c s₁ B hml hv
  obtain ⟨rfl, ⟨hz, hR, hK, hZ, hb⟩, hX, hbl, hbr⟩ := hv
  have hts := atoms_spec (ws := Cond.code yL_cell cL_cell 2 (some .int) :: TB) B.pre
  have hl := lv_entry [.ref b, .int (nI k)] (n := 2) (Nat.le_of_ble_eq_true rfl)
  rw [lg_entry_eq]
  have C : Cx p s m [Value.ref b, .int (nI k)].toArray meth c cL_cell 2 yL_cell.cls (some .int) G := ⟨B.exec, B.bytes, hml, findClass_of_methodNamed B.named, fun w hw => hts w (List.mem_cons_of_mem _ hw), hK, B.returns, B.notSynchronized, hZ, hb⟩
  have HV : V p l e (rmD 1 0 0) s m [Value.ref b, .int (nI k)].toArray below meth c (MQ below (Po G (fun v n' h' => (∃ j, j < 2 ^ 31 ∧ v = some (.int (nI j))) ∧ n' = n ∧ h' = h)) [Value.ref b, .int (nI k)].toArray s 0 0 (rg G)) G 2 0 0 n h 0 [(0, .ref b), (1, .int (nI k))] [] := by
    refine V_iload_n 1 C dL_cell_0 rfl rfl ?_
    refine V_aload_n 2 C dL_cell_1 rfl rfl ?_
    refine V_slen 3 C hX ⟨hbl, hbr⟩ dL_cell_2 rfl ?_
    refine V_icmp_geN 12 6 C dL_cell_3 (by decide) rfl (by omega) (by omega) (fun c3 => ?_) (fun c3 => ?_)
    · refine V_ldc 14 C dL_cell_12 rfl tw857 ?_
      refine V_iload_n 15 C dL_cell_14 rfl rfl ?_
      refine V_iconst 16 C dL_cell_15 rfl ic3 ?_
      refine V_iadd 17 C dL_cell_16 rfl ?_
      refine V_imul 18 C dL_cell_17 rfl ?_
      refine V_sipush 21 C dL_cell_18 rfl sip11831 ?_
      refine V_iadd 22 C dL_cell_21 rfl ?_
      refine V_ldc 24 C dL_cell_22 rfl tw858 ?_
      refine V_iand 25 C dL_cell_24 rfl ?_
      refine V_ireturn C dL_cell_25 rfl rfl (by omega) (by omega) ?_
      obtain ⟨j, hj, ej⟩ := and_pos (15519869 * (nI k + nI 3) + nI 11831)
      exact ⟨⟨j, hj, by rw [← ej]⟩, rfl, rfl⟩
    · refine V_aload_n 7 C dL_cell_6 rfl rfl ?_
      refine V_iload_n 8 C dL_cell_7 rfl rfl ?_
      refine V_sld (j := k) 9 C hX ⟨hbl, hbr⟩ dL_cell_8 rfl rfl c3 (by omega) ?_
      refine V_goto 22 C dL_cell_9 (by decide) ?_
      refine V_ldc 24 C dL_cell_22 rfl tw858 ?_
      refine V_iand 25 C dL_cell_24 rfl ?_
      refine V_ireturn C dL_cell_25 rfl rfl (by omega) (by omega) ?_
      obtain ⟨j, hj, ej⟩ := and_pos (xs k)
      exact ⟨⟨j, hj, by rw [← ej]⟩, rfl, rfl⟩
  exact HV s.heap [] _ hz hR va_S.rf hl
section VCROWS
variable {p : Program} {l : Launch} {e : Env} {R : Room} {s : State} {m : MethodId} {args : Array Value} {below : List Frame} {meth : Method} {c : Code} {Q : State → Prop} {G : GT} {nL cells slots n : Nat} {h : AH} {pc : Nat} {L L' : List (Nat × Value)} {st st' : List Value} {cc : ByteArray} {own : String} {ret : Option FieldType}
theorem V_cell (pc' : Nat) (C : Cx p s m args meth c cc nL own ret G) {b LL ix k : Nat} {xs : Nat → Int32} (hX : va_X b LL xs s s.heap) (hb : b < s.heap.size ∧ ¬ rg G b) (hLL : LL ≤ 260) (d : decode cc pc = .ok (.invokestatic ix, 3)) (hp : pc + 3 = pc') (hl : Cond.methodLink own ix yL_cell ∈ TB) (hk : k < 2 ^ 31) (hd : 1 + 1 ≤ R.frames ∧ 8 + (2 + 11) + 36 * 1 ≤ R.locals) (hm : cells + 0 ≤ R.cells ∧ slots + 0 ≤ R.slots) (hro : (st.map fun v => v.category).sum ≤ 8)
    (kk : ∀ j, j < 2 ^ 31 → V p l e R s m args below meth c Q G nL cells slots n h pc' L (.int (nI j) :: st)) : V p l e R s m args below meth c Q G nL cells slots n h pc L (.int (nI k) :: .ref b :: st) := fun H locs ls h1 h2 h3 h4 => by
  subst hp
  have hts := C.2.2.2.2.1
  have hqX : va_X b LL xs s H := hX.kept (h3.2.1 b hb.1 hb.2)
  have hPS : PreS s H (va_Pc [.ref b, .int (nI k)] (WdX G n h b LL xs)) [.ref b, .int (nI k)] := by
    refine ⟨WdX.blind, fun U hU hW => ?_⟩
    have z := (wd_pre (As := [.ref b, .int (nI k)]) C h1 h2 h3).2 U hU hW
    exact ⟨z.1, z.2, by rw [hU]; exact va_X.moved hW.alike hqX, by rw [hU]; exact Nat.lt_of_lt_of_le hb.1 h3.1, hb.2⟩
  refine V_run (n2 := n) (h2' := h) (va_runS ⟨C.1, C.2.1, C.2.2.1, C.2.2.2.1, hts⟩ (c_L_cell l G n h b LL xs hLL k hk) ⟨cb_ofZ hts mL_cell.z hl hd, hts _ mL_cell.2⟩ hPS rfl rfl h4.1 rfl (lv_room hro) d hm) h3 h4 ?_
  rintro _ _ _ ⟨⟨j, hj, rfl⟩, rfl, rfl⟩
  exact kk j hj
/-- a call over two that may change what is remembered -/
theorem V_q4 (pc' c' s' : Nat) (C : Cx p s m args meth c cc nL own ret G) {ix mL na d' mc' ms' x q B : Nat} {y : MethodName} {b : ByteArray} {rt : Option FieldType} {As stk : List Value} {v : Int32} {y1 : Nat → Nat} (d : decode cc pc = .ok (.invokestatic ix, 3)) (hp : pc + 3 = pc') (M : MZ y b mL rt na) (hl : Cond.methodLink own ix y ∈ TB) (K : Ct l y b mL rt d' mc' ms' G n h As (PoTE x q v y1 B)) (hn : As.length = na) (hst : stk = As.reverse ++ st) (hd : d' + 1 ≤ R.frames ∧ 8 + (mL + 11) + 36 * d' ≤ R.locals) (hc : cells + mc' ≤ c' ∧ slots + ms' ≤ s') (hm : c' ≤ R.cells ∧ s' ≤ R.slots) (hro : (st.map fun v => v.category).sum ≤ 8)
    (kk : ∀ (n' : Nat) (h' : AH) (σ2 : St), JS (B + 180) σ2 → SC x σ2 h' → SC q σ2 h' → V p l e R s m args below meth c Q G nL c' s' n' h' pc' L (.int v :: st)) : V p l e R s m args below meth c Q G nL cells slots n h pc L stk :=
  V_callSR pc' C d hp M hl K hn hst hd ⟨Nat.le_trans hc.1 hm.1, Nat.le_trans hc.2 hm.2⟩ hro (by
    rintro _ n' h' ⟨rfl, σ2, -, g0, g1, g2⟩
    exact V_wid c' s' hc.1 hc.2 (kk n' h' σ2 g0 g1 g2))
end VCROWS
/-! the country that the law begins with -/
def S0 (σ : St) : Prop := EV 0 σ.1 ∧ σ.1 5 = 0 ∧ σ.2.1 ≤ 14 ∧ (∀ i, i < σ.2.1 → Iv (σ.2.2.1 i)) ∧ (∀ i, i < σ.2.1 → σ.2.2.1 i 5 = 0) ∧ ∀ i, σ.2.2.2.2 i = false
theorem S0.si {σ : St} (h : S0 σ) : SIs σ := ⟨h.1.1, h.2.2.1, h.2.2.2.1, fun i hi g => (by rw [h.2.2.2.2.2 i] at g; cases g), Nat.zero_le _, fun i hi => absurd hi (Nat.not_lt_zero i)⟩
theorem S0_psh {σ : St} {y' : Nat → Nat} (h : S0 σ) (hE : EV 0 y') : S0 (psh σ y') := by
  obtain ⟨h1, h2, h3, h4, h5, h6⟩ := h
  obtain ⟨y, k, D, S, sv⟩ := σ
  have h3 : k ≤ 14 := h3
  have h2 : y 5 = 0 := h2
  have hy5 : y' 5 = 0 := Nat.le_zero.mp hE.2.2.2.2.1
  refine ⟨hE, hy5, (psC_k h3).1, ?_, ?_, h6⟩
  · show ∀ i, i < psC k → Iv (psD k D y i)
    intro i hi
    unfold psC at hi
    unfold psD
    by_cases e14 : k = 14
    · rw [if_pos e14] at hi ⊢
      by_cases e13 : i = 13
      · rw [if_pos e13]; exact h1.1
      · rw [if_neg e13]; exact h4 (i + 1) (show i + 1 < k by omega)
    · rw [if_neg e14] at hi ⊢
      by_cases ek : i = k
      · rw [if_pos ek]; exact h1.1
      · rw [if_neg ek]; exact h4 i (show i < k by omega)
  · show ∀ i, i < psC k → psD k D y i 5 = 0
    intro i hi
    unfold psC at hi
    unfold psD
    by_cases e14 : k = 14
    · rw [if_pos e14] at hi ⊢
      by_cases e13 : i = 13
      · rw [if_pos e13]; exact h2
      · rw [if_neg e13]; exact h5 (i + 1) (show i + 1 < k by omega)
    · rw [if_neg e14] at hi ⊢
      by_cases ek : i = k
      · rw [if_pos ek]; exact h2
      · rw [if_neg ek]; exact h5 i (show i < k by omega)
theorem S0.js {σ : St} (h : S0 σ) (h3 : 3 ≤ σ.1 0 ∧ 1 ≤ σ.1 2 ∧ 1 ≤ σ.1 4) : JS 0 σ := by
  refine ⟨⟨h.1, h3⟩, h.2.2.1, h.2.2.2.1, fun i hi g => ?_, fun i hi g => (by rw [h.2.2.2.2.2 i] at g; cases g)⟩
  exfalso
  unfold nxt at g
  by_cases e : i + 1 = σ.2.1
  · rw [if_pos e, h.2.1] at g; omega
  · rw [if_neg e, h.2.2.2.2.1 (i + 1) (by omega)] at g; omega
abbrev σ0 : St := (fun _ => 0, 0, fun _ _ => 0, fun _ _ => 0, fun _ => false)
theorem S0_0 : S0 σ0 := ⟨⟨Iv_0 (fun _ _ => rfl), ⟨Nat.le_refl _, fun m hm => absurd hm (Nat.not_lt_zero m)⟩, fun r hr => absurd hr (Nat.not_lt_zero r), fun r hr => absurd hr (Nat.not_lt_zero r), Nat.le_refl _, Nat.le_refl _⟩, rfl, Nat.zero_le _, fun i hi => absurd hi (Nat.not_lt_zero i), fun i hi => absurd hi (Nat.not_lt_zero i), fun _ => rfl⟩
theorem st_tw {σ : St} (h : σ.1 0 < 6) : rv (kA 1 1 1 (aTw σ.1).1) ((aTw σ.1).1) [eS] = nI (σ.1 0) ∧ ((aTw σ.1).2, (aK (kA 1 1 1 (aTw σ.1).1) σ.2.1), (aD (kA 1 1 1 (aTw σ.1).1) σ.2.1 σ.2.2.1 σ.1), σ.2.2.2.1, σ.2.2.2.2) = psh σ (twOn σ.1) := by
  have e : aTw σ.1 = (nI (σ.1 0), twOn σ.1) := if_pos h
  have k : kA 1 1 1 (nI (σ.1 0)) = 0 := kA_0 (nIc (by omega))
  rw [e]
  show rv (kA 1 1 1 (nI (σ.1 0))) (nI (σ.1 0)) [eS] = nI (σ.1 0) ∧ (twOn σ.1, (aK (kA 1 1 1 (nI (σ.1 0))) σ.2.1), (aD (kA 1 1 1 (nI (σ.1 0))) σ.2.1 σ.2.2.1 σ.1), σ.2.2.2.1, σ.2.2.2.2) = psh σ (twOn σ.1)
  rw [k]
  exact ⟨rfl, rfl⟩
theorem st_rd {σ : St} {c : Nat} (h : 3 ≤ σ.1 0 ∧ σ.1 0 ≤ 6) (hc : 1 ≤ c ∧ c ≤ 20) (h1 : σ.1 1 < 10) : rv (kA 1 2 3 (aRd σ.1 (nI 0) (nI 1) (nI c)).1) ((aRd σ.1 (nI 0) (nI 1) (nI c)).1) [eI, eA, eS] = nI (σ.1 1) ∧ ((aRd σ.1 (nI 0) (nI 1) (nI c)).2, (aK (kA 1 2 3 (aRd σ.1 (nI 0) (nI 1) (nI c)).1) σ.2.1), (aD (kA 1 2 3 (aRd σ.1 (nI 0) (nI 1) (nI c)).1) σ.2.1 σ.2.2.1 σ.1), σ.2.2.2.1, σ.2.2.2.2) = psh σ (rdOn σ.1 0 1 c) := by
  have e : aRd σ.1 (nI 0) (nI 1) (nI c) = (nI (σ.1 1), rdOn σ.1 0 1 c) := by
    unfold aRd
    rw [if_pos ⟨ix0 (by omega), ixn (by omega) (by omega)⟩, if_neg (by rintro (g | g); exact absurd g (by decide); exact g (by rw [nI_toInt (by omega)]; omega)), if_pos h1, zn (by omega), zn (by omega), zn (by omega)]
  have k : kA 1 2 3 (nI (σ.1 1)) = 0 := kA_0 (nIc (by omega))
  rw [e]
  show rv (kA 1 2 3 (nI (σ.1 1))) (nI (σ.1 1)) [eI, eA, eS] = nI (σ.1 1) ∧ (rdOn σ.1 0 1 c, (aK (kA 1 2 3 (nI (σ.1 1))) σ.2.1), (aD (kA 1 2 3 (nI (σ.1 1))) σ.2.1 σ.2.2.1 σ.1), σ.2.2.2.1, σ.2.2.2.2) = psh σ (rdOn σ.1 0 1 c)
  rw [k]
  exact ⟨rfl, rfl⟩
theorem st_ru {σ : St} (h : 3 ≤ σ.1 0 ∧ σ.1 0 ≤ 6) (h2 : σ.1 2 < 5) : rv (kA 1 1 2 (aRu σ.1 (nI 0)).1) ((aRu σ.1 (nI 0)).1) [eI, eS] = nI (σ.1 2) ∧ ((aRu σ.1 (nI 0)).2, (aK (kA 1 1 2 (aRu σ.1 (nI 0)).1) σ.2.1), (aD (kA 1 1 2 (aRu σ.1 (nI 0)).1) σ.2.1 σ.2.2.1 σ.1), σ.2.2.2.1, σ.2.2.2.2) = psh σ (ruOn σ.1 0) := by
  have e : aRu σ.1 (nI 0) = (nI (σ.1 2), ruOn σ.1 0) := by
    unfold aRu
    rw [if_pos (ix0 (by omega)), if_pos h2, zn (by omega)]
  have k : kA 1 1 2 (nI (σ.1 2)) = 0 := kA_0 (nIc (by omega))
  rw [e]
  show rv (kA 1 1 2 (nI (σ.1 2))) (nI (σ.1 2)) [eI, eS] = nI (σ.1 2) ∧ (ruOn σ.1 0, (aK (kA 1 1 2 (nI (σ.1 2))) σ.2.1), (aD (kA 1 1 2 (nI (σ.1 2))) σ.2.1 σ.2.2.1 σ.1), σ.2.2.2.1, σ.2.2.2.2) = psh σ (ruOn σ.1 0)
  rw [k]
  exact ⟨rfl, rfl⟩
theorem st_wr {σ : St} {d f : Nat} (h : 3 ≤ σ.1 0 ∧ σ.1 0 ≤ 6) (hd : d < 1000000) (hf : f < 10) (h34 : σ.1 3 < 6 ∧ σ.1 4 < 12) : rv (kA 1 2 3 (aWr σ.1 (nI 0) (nI d) (nI f)).1) ((aWr σ.1 (nI 0) (nI d) (nI f)).1) [eI, eA, eS] = nI (σ.1 3) ∧ ((aWr σ.1 (nI 0) (nI d) (nI f)).2, (aK (kA 1 2 3 (aWr σ.1 (nI 0) (nI d) (nI f)).1) σ.2.1), (aD (kA 1 2 3 (aWr σ.1 (nI 0) (nI d) (nI f)).1) σ.2.1 σ.2.2.1 σ.1), σ.2.2.2.1, σ.2.2.2.2) = psh σ (wrOn σ.1 0 d f) := by
  have e : aWr σ.1 (nI 0) (nI d) (nI f) = (nI (σ.1 3), wrOn σ.1 0 d f) := by
    unfold aWr
    rw [if_pos (ix0 (by omega)), if_pos ⟨ixn (by omega) hd, ixn (by omega) hf⟩, if_pos h34, zn (by omega), zn (by omega), zn (by omega)]
  have k : kA 1 2 3 (nI (σ.1 3)) = 0 := kA_0 (nIc (by omega))
  rw [e]
  show rv (kA 1 2 3 (nI (σ.1 3))) (nI (σ.1 3)) [eI, eA, eS] = nI (σ.1 3) ∧ (wrOn σ.1 0 d f, (aK (kA 1 2 3 (nI (σ.1 3))) σ.2.1), (aD (kA 1 2 3 (nI (σ.1 3))) σ.2.1 σ.2.2.1 σ.1), σ.2.2.2.1, σ.2.2.2.2) = psh σ (wrOn σ.1 0 d f)
  rw [k]
  exact ⟨rfl, rfl⟩
