/-! THE LAW'S SWITCH AND ITS LOOP -/
theorem and31 (x : Int32) : ∃ k, k < 32 ∧ x &&& nI 31 = nI k := by
  have e : x = nI x.toBitVec.toNat := by
    apply Int32.toBitVec_inj.1
    show x.toBitVec = BitVec.ofNat 32 x.toBitVec.toNat
    simp
  refine ⟨x.toBitVec.toNat % 32, Nat.mod_lt _ (by omega), ?_⟩
  have a2 : ∀ a b : Nat, nI a &&& nI b = nI (a &&& b) := fun a b => by
    apply Int32.toBitVec_inj.1
    show BitVec.ofNat 32 a &&& BitVec.ofNat 32 b = BitVec.ofNat 32 (a &&& b)
    apply BitVec.eq_of_getLsbD_eq
    intro i hi
    simp [hi]
  have a3 := a2 x.toBitVec.toNat 31
  rw [← e, show (31 : Nat) = 2 ^ 5 - 1 from rfl, Nat.and_two_pow_sub_one_eq_mod] at a3
  exact a3
theorem lt5 : ∀ LL, LL < 5 → nI LL - nI 5 < nI 0 := by decide +kernel
theorem ii5 (i : Nat) : nI i + Int32.ofInt 5 = nI (i + 5) := by rw [ic5]; exact nI_add i 5
set_option maxRecDepth 100000 in
set_option maxHeartbeats 4000000 in
theorem law_case {p : Program} {l : Launch} {e : Env} {s : State} {m : MethodId} {args : Array Value} {below : List Frame} {meth : Method} {c : Code} {Q : State → Prop} {G : GT} {rt : Option FieldType} (hl : l.stackTraces = false) (C : Cx p s m args meth c cL_law 7 RL rt G) {b LL : Nat} {xs : Nat → Int32} (hX : va_X b LL xs s s.heap) (hb : b < s.heap.size ∧ ¬ rg G b) (hLL : LL ≤ 2560) {x n cells slots i : Nat} {h : AH} (hi : i + 5 ≤ LL) (hc : cells + 4 ≤ 601024) (hs : slots + 24 ≤ 7293034) (hL0 : LI x h) (KL : ∀ (n1 : Nat) (h1 : AH) (cells1 slots1 : Nat), LI x h1 → cells1 ≤ cells + 4 → slots1 ≤ slots + 24 → V p l e room_1 s m args below meth c Q G 7 cells1 slots1 n1 h1 2094 (LCL b x i) []) : V p l e room_1 s m args below meth c Q G 7 cells slots n h 32 (LCL b x i) [] := by
  refine V_aload_n 33 C dL_law_32 rfl rfl ?_
  refine V_iload 35 C dL_law_33 rfl rfl ?_
  refine V_sld (j := i) 36 C hX hb dL_law_35 rfl rfl (by omega) (by omega) ?_
  refine V_bipush 38 C dL_law_36 rfl bip31 ?_
  refine V_iand 39 C dL_law_38 rfl ?_
  obtain ⟨k, hk, ek⟩ := and31 (xs i)
  refine V_st (st' := [.int (nI k)]) (by rw [ek]) ?_
  have hk31 : k < 2 ^ 31 := by omega
  refine V_case 0 (fun hj => V_tsI 176 C dL_law_39 hj (by decide) (by decide) (by decide) rfl (by decide) (lc_append hl C hX hb hLL hi hc hs hL0 KL)) (fun g0 => ?_)
  refine V_case 1 (fun hj => V_tsI 232 C dL_law_39 hj (by decide) (by decide) (by decide) rfl (by decide) (lc_clearText hl C hX hb hLL hi hc hs hL0 KL)) (fun g1 => ?_)
  refine V_case 2 (fun hj => V_tsI 245 C dL_law_39 hj (by decide) (by decide) (by decide) rfl (by decide) (lc_errorPosition hl C hX hb hLL hi hc hs hL0 KL)) (fun g2 => ?_)
  refine V_case 3 (fun hj => V_tsI 258 C dL_law_39 hj (by decide) (by decide) (by decide) rfl (by decide) (lc_load hl C hX hb hLL hi hc hs hL0 KL)) (fun g3 => ?_)
  refine V_case 4 (fun hj => V_tsI 302 C dL_law_39 hj (by decide) (by decide) (by decide) rfl (by decide) (lc_about hl C hX hb hLL hi hc hs hL0 KL)) (fun g4 => ?_)
  refine V_case 5 (fun hj => V_tsI 358 C dL_law_39 hj (by decide) (by decide) (by decide) rfl (by decide) (lc_roadOf hl C hX hb hLL hi hc hs hL0 KL)) (fun g5 => ?_)
  refine V_case 6 (fun hj => V_tsI 426 C dL_law_39 hj (by decide) (by decide) (by decide) rfl (by decide) (lc_runnerOf hl C hX hb hLL hi hc hs hL0 KL)) (fun g6 => ?_)
  refine V_case 7 (fun hj => V_tsI 494 C dL_law_39 hj (by decide) (by decide) (by decide) rfl (by decide) (lc_sheetOf hl C hX hb hLL hi hc hs hL0 KL)) (fun g7 => ?_)
  refine V_case 8 (fun hj => V_tsI 562 C dL_law_39 hj (by decide) (by decide) (by decide) rfl (by decide) (lc_message hl C hX hb hLL hi hc hs hL0 KL)) (fun g8 => ?_)
  refine V_case 9 (fun hj => V_tsI 618 C dL_law_39 hj (by decide) (by decide) (by decide) rfl (by decide) (lc_town hl C hX hb hLL hi hc hs hL0 KL)) (fun g9 => ?_)
  refine V_case 10 (fun hj => V_tsI 662 C dL_law_39 hj (by decide) (by decide) (by decide) rfl (by decide) (lc_road hl C hX hb hLL hi hc hs hL0 KL)) (fun g10 => ?_)
  refine V_case 11 (fun hj => V_tsI 742 C dL_law_39 hj (by decide) (by decide) (by decide) rfl (by decide) (lc_runner hl C hX hb hLL hi hc hs hL0 KL)) (fun g11 => ?_)
  refine V_case 12 (fun hj => V_tsI 798 C dL_law_39 hj (by decide) (by decide) (by decide) rfl (by decide) (lc_write hl C hX hb hLL hi hc hs hL0 KL)) (fun g12 => ?_)
  refine V_case 13 (fun hj => V_tsI 878 C dL_law_39 hj (by decide) (by decide) (by decide) rfl (by decide) (lc_take hl C hX hb hLL hi hc hs hL0 KL)) (fun g13 => ?_)
  refine V_case 14 (fun hj => V_tsI 946 C dL_law_39 hj (by decide) (by decide) (by decide) rfl (by decide) (lc_lay hl C hX hb hLL hi hc hs hL0 KL)) (fun g14 => ?_)
  refine V_case 15 (fun hj => V_tsI 1002 C dL_law_39 hj (by decide) (by decide) (by decide) rfl (by decide) (lc_go hl C hX hb hLL hi hc hs hL0 KL)) (fun g15 => ?_)
  refine V_case 16 (fun hj => V_tsI 1070 C dL_law_39 hj (by decide) (by decide) (by decide) rfl (by decide) (lc_copy hl C hX hb hLL hi hc hs hL0 KL)) (fun g16 => ?_)
  refine V_case 17 (fun hj => V_tsI 1138 C dL_law_39 hj (by decide) (by decide) (by decide) rfl (by decide) (lc_proof hl C hX hb hLL hi hc hs hL0 KL)) (fun g17 => ?_)
  refine V_case 18 (fun hj => V_tsI 1230 C dL_law_39 hj (by decide) (by decide) (by decide) rfl (by decide) (lc_hours hl C hX hb hLL hi hc hs hL0 KL)) (fun g18 => ?_)
  refine V_case 19 (fun hj => V_tsI 1286 C dL_law_39 hj (by decide) (by decide) (by decide) rfl (by decide) (lc_undo hl C hX hb hLL hi hc hs hL0 KL)) (fun g19 => ?_)
  refine V_case 20 (fun hj => V_tsI 1330 C dL_law_39 hj (by decide) (by decide) (by decide) rfl (by decide) (lc_why hl C hX hb hLL hi hc hs hL0 KL)) (fun g20 => ?_)
  refine V_case 21 (fun hj => V_tsI 1386 C dL_law_39 hj (by decide) (by decide) (by decide) rfl (by decide) (lc_errorsIn hl C hX hb hLL hi hc hs hL0 KL)) (fun g21 => ?_)
  refine V_case 22 (fun hj => V_tsI 1454 C dL_law_39 hj (by decide) (by decide) (by decide) rfl (by decide) (lc_rightFor hl C hX hb hLL hi hc hs hL0 KL)) (fun g22 => ?_)
  refine V_case 23 (fun hj => V_tsI 1510 C dL_law_39 hj (by decide) (by decide) (by decide) rfl (by decide) (lc_route hl C hX hb hLL hi hc hs hL0 KL)) (fun g23 => ?_)
  refine V_case 24 (fun hj => V_tsI 1590 C dL_law_39 hj (by decide) (by decide) (by decide) rfl (by decide) (lc_roadTo hl C hX hb hLL hi hc hs hL0 KL)) (fun g24 => ?_)
  refine V_case 25 (fun hj => V_tsI 1658 C dL_law_39 hj (by decide) (by decide) (by decide) rfl (by decide) (lc_ifBrought hl C hX hb hLL hi hc hs hL0 KL)) (fun g25 => ?_)
  refine V_case 26 (fun hj => V_tsI 1726 C dL_law_39 hj (by decide) (by decide) (by decide) rfl (by decide) (lc_best hl C hX hb hLL hi hc hs hL0 KL)) (fun g26 => ?_)
  refine V_case 27 (fun hj => V_tsI 1782 C dL_law_39 hj (by decide) (by decide) (by decide) rfl (by decide) (lc_runScript hl C hX hb hLL hi hc hs hL0 KL)) (fun g27 => ?_)
  refine V_case 28 (fun hj => V_tsI 1882 C dL_law_39 hj (by decide) (by decide) (by decide) rfl (by decide) (lc_simulate hl C hX hb hLL hi hc hs hL0 KL)) (fun g28 => ?_)
  refine V_case 29 (fun hj => V_tsI 1982 C dL_law_39 hj (by decide) (by decide) (by decide) rfl (by decide) (lc_save hl C hX hb hLL hi hc hs hL0 KL)) (fun g29 => ?_)
  refine V_case 30 (fun hj => V_tsI 2038 C dL_law_39 hj (by decide) (by decide) (by decide) rfl (by decide) (lc_restore hl C hX hb hLL hi hc hs hL0 KL)) (fun g30 => ?_)
  exact V_tsD 2094 [0, 1, 2, 3, 4, 5, 6, 7, 8, 9, 10, 11, 12, 13, 14, 15, 16, 17, 18, 19, 20, 21, 22, 23, 24, 25, 26, 27, 28, 29, 30] C dL_law_39 (lo' := 0) rfl (by decide) hk31 ⟨g0, g1, g2, g3, g4, g5, g6, g7, g8, g9, g10, g11, g12, g13, g14, g15, g16, g17, g18, g19, g20, g21, g22, g23, g24, g25, g26, g27, g28, g29, g30, trivial⟩ (by decide +kernel) (by decide) (KL n h cells slots hL0 (by omega) (by omega))
set_option maxRecDepth 100000 in
set_option maxHeartbeats 4000000 in
theorem law_loop {p : Program} {l : Launch} {e : Env} {s : State} {m : MethodId} {args : Array Value} {below : List Frame} {meth : Method} {c : Code} {Q : State → Prop} {G : GT} {rt : Option FieldType} (hl : l.stackTraces = false) (C : Cx p s m args meth c cL_law 7 RL rt G) {b LL : Nat} {xs : Nat → Int32} (hX : va_X b LL xs s s.heap) (hb : b < s.heap.size ∧ ¬ rg G b) (hLL : LL ≤ 2560) {x : Nat} (KE : ∀ (n h cells slots L), cells ≤ 601024 → slots ≤ 7293034 → V p l e room_1 s m args below meth c Q G 7 cells slots n h 2100 L []) : ∀ (t j i : Nat), i = 5 * j → i ≤ LL → LL < i + 5 * t → ∀ (n : Nat) (h : AH) (cells slots : Nat), LI x h → cells ≤ 628 + 4 * j → slots ≤ 6000 + 24 * j → V p l e room_1 s m args below meth c Q G 7 cells slots n h 23 (LCL b x i) [] := by
  intro t
  induction t with
  | zero =>
    intro j i ei h1 h2
    exact absurd h2 (by omega)
  | succ t ih =>
    intro j i ei h1 h2 n h cells slots hL0 hc hs
    refine V_iload 25 C dL_law_23 rfl rfl ?_
    refine V_aload_n 26 C dL_law_25 rfl rfl ?_
    refine V_slen 27 C hX hb dL_law_26 rfl ?_
    refine V_iconst 28 C dL_law_27 rfl ic5 ?_
    by_cases h5 : 5 ≤ LL
    · refine V_isubN 29 C dL_law_28 rfl h5 ?_
      refine V_icmp_gtN 2100 32 C dL_law_29 (by decide) rfl (by omega) (by omega) (fun g => ?_) (fun g => ?_)
      · exact KE _ _ _ _ _ (by omega) (by omega)
      · refine law_case hl C hX hb hLL (by omega) (by omega) (by omega) hL0 (fun n1 h1 cells1 slots1 hL1 q1 q2 => ?_)
        refine V_iinc (L' := LCL b x (i + 5)) 2097 C dL_law_2094 rfl (by decide) rfl (ii5 i) rfl ?_
        refine V_goto 23 C dL_law_2097 (by decide) ?_
        exact ih (j + 1) (i + 5) (by omega) (by omega) (by omega) n1 h1 cells1 slots1 hL1 (by omega) (by omega)
    · have e0 : i = 0 := by omega
      subst e0
      refine V_isub 29 C dL_law_28 rfl ?_
      refine V_icmp_gt 2100 32 C dL_law_29 (by decide) rfl (fun g => ?_) (fun g => ?_)
      · exact KE _ _ _ _ _ (by omega) (by omega)
      · exact absurd (lt5 LL (by omega)) g
