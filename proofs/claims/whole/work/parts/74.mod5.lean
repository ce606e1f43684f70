/-! THE REFERENCE'S FACE: scripts, simulations -/
theorem ys6_self (y : Nat → Nat) : ys y 6 (y 6) = y := funext fun j => by
  by_cases e : j = 6
  · rw [e, ys_s]
  · rw [ys_n _ e]
theorem tn6_A (w q : Nat) (y : Nat → Nat) (v : Nat) : (tnA w q (ys y 6 v)).2 = ys (tn2 w q y) 6 v := by rw [tnA6]; rfl
theorem tnW6t {w q : Nat} (hw : 11 ≤ w ∧ w ≤ 13) (y : Nat → Nat) (u : Nat) : ∃ v, tnW w q (ys y 6 u) = ys (tn2 w q y) 6 v := tnW6 hw y u
theorem tn6_H {w : Nat} (hw : 13 < w) (q : Nat) (y : Nat → Nat) (v : Nat) : hrs (ys y 6 v) (1 + q % 20) = ys (tn2 w q y) 6 v := by
  have e : tn2 w q y = hrs y (1 + q % 20) := by
    unfold tn2
    rw [tn_9 hw]
    unfold aHr
    rw [if_pos (by rw [nI_toInt (by omega)]; omega)]
    show hrs y (z (nI (1 + q % 20))) = _
    rw [zn (by omega)]
  rw [hrs6, e]
theorem p5_b {j : Nat} (h : j ≤ 3) : 100000 ^ j ≤ 1000000000000000 := by
  rcases (show j = 0 ∨ j = 1 ∨ j = 2 ∨ j = 3 from by omega) with e | e | e | e <;> rw [e] <;> exact Nat.le_of_ble_eq_true rfl
theorem p5_p (j : Nat) : 0 < 100000 ^ j := Nat.pow_pos (by omega)
theorem p5_d {j i : Nat} (h : i < j) : 100000 ^ (j - i) / 100000 = 100000 ^ (j - 1 - i) := by
  rw [show j - i = (j - 1 - i) + 1 from by omega, Nat.pow_succ]
  exact Nat.mul_div_cancel _ (by omega)
theorem p5_n {j : Nat} (h : j ≤ 3) : ¬ lN (100000 ^ j) = 0 := fun e => by
  have h1 := p5_b h
  have h2 := p5_p j
  have h3 := (pk_lEQ (a := 100000 ^ j) (b := 0) (Nat.lt_of_le_of_lt h1 (by omega)) (by omega)).mp e
  omega
theorem dX10_simulate_0 : decode cX10_simulate 0 = .ok (.aload_n 0, 1) := by decide +kernel
theorem dX10_simulate_1 : decode cX10_simulate 1 = .ok (.iload_n 3, 1) := by decide +kernel
theorem dX10_simulate_2 : decode cX10_simulate 2 = .ok (.i2l, 1) := by decide +kernel
theorem dX10_simulate_3 : decode cX10_simulate 3 = .ok (.lconst 1, 1) := by decide +kernel
theorem dX10_simulate_4 : decode cX10_simulate 4 = .ok (.ldc2_w 263, 3) := by decide +kernel
theorem dX10_simulate_7 : decode cX10_simulate 7 = .ok (.invokestatic 40, 3) := by decide +kernel
theorem dX10_simulate_10 : decode cX10_simulate 10 = .ok (.ifCond .eq 7, 3) := by decide +kernel
theorem dX10_simulate_13 : decode cX10_simulate 13 = .ok (.iconst 0, 1) := by decide +kernel
theorem dX10_simulate_14 : decode cX10_simulate 14 = .ok (.goto 4, 3) := by decide +kernel
theorem dX10_simulate_17 : decode cX10_simulate 17 = .ok (.iconst 1, 1) := by decide +kernel
theorem dX10_simulate_18 : decode cX10_simulate 18 = .ok (.invokevirtual 124, 3) := by decide +kernel
theorem dX10_simulate_21 : decode cX10_simulate 21 = .ok (.ifCond .eq 5, 3) := by decide +kernel
theorem dX10_simulate_24 : decode cX10_simulate 24 = .ok (.iconst 0, 1) := by decide +kernel
theorem dX10_simulate_25 : decode cX10_simulate 25 = .ok (.ireturn, 1) := by decide +kernel
theorem dX10_simulate_26 : decode cX10_simulate 26 = .ok (.aload_n 0, 1) := by decide +kernel
theorem dX10_simulate_27 : decode cX10_simulate 27 = .ok (.getfield 13, 3) := by decide +kernel
theorem dX10_simulate_30 : decode cX10_simulate 30 = .ok (.iconst 0, 1) := by decide +kernel
theorem dX10_simulate_31 : decode cX10_simulate 31 = .ok (.aload_n 0, 1) := by decide +kernel
theorem dX10_simulate_32 : decode cX10_simulate 32 = .ok (.getfield 16, 3) := by decide +kernel
theorem dX10_simulate_35 : decode cX10_simulate 35 = .ok (.iconst 0, 1) := by decide +kernel
theorem dX10_simulate_36 : decode cX10_simulate 36 = .ok (.invokestatic 226, 3) := by decide +kernel
theorem dX10_simulate_39 : decode cX10_simulate 39 = .ok (.lload_n 1, 1) := by decide +kernel
theorem dX10_simulate_40 : decode cX10_simulate 40 = .ok (.lstore 4, 2) := by decide +kernel
theorem dX10_simulate_42 : decode cX10_simulate 42 = .ok (.iconst 0, 1) := by decide +kernel
theorem dX10_simulate_43 : decode cX10_simulate 43 = .ok (.istore 6, 2) := by decide +kernel
theorem dX10_simulate_45 : decode cX10_simulate 45 = .ok (.iload 6, 2) := by decide +kernel
theorem dX10_simulate_47 : decode cX10_simulate 47 = .ok (.iload_n 3, 1) := by decide +kernel
theorem dX10_simulate_48 : decode cX10_simulate 48 = .ok (.if_icmp .ge 120, 3) := by decide +kernel
theorem dX10_simulate_51 : decode cX10_simulate 51 = .ok (.lload 4, 2) := by decide +kernel
theorem dX10_simulate_53 : decode cX10_simulate 53 = .ok (.ldc2_w 282, 3) := by decide +kernel
theorem dX10_simulate_56 : decode cX10_simulate 56 = .ok (.lmul, 1) := by decide +kernel
theorem dX10_simulate_57 : decode cX10_simulate 57 = .ok (.ldc2_w 284, 3) := by decide +kernel
theorem dX10_simulate_60 : decode cX10_simulate 60 = .ok (.ladd, 1) := by decide +kernel
theorem dX10_simulate_61 : decode cX10_simulate 61 = .ok (.lstore 4, 2) := by decide +kernel
theorem dX10_simulate_63 : decode cX10_simulate 63 = .ok (.lload 4, 2) := by decide +kernel
theorem dX10_simulate_65 : decode cX10_simulate 65 = .ok (.bipush 33, 2) := by decide +kernel
theorem dX10_simulate_67 : decode cX10_simulate 67 = .ok (.lushr, 1) := by decide +kernel
theorem dX10_simulate_68 : decode cX10_simulate 68 = .ok (.l2i, 1) := by decide +kernel
theorem dX10_simulate_69 : decode cX10_simulate 69 = .ok (.istore 7, 2) := by decide +kernel
theorem dX10_simulate_71 : decode cX10_simulate 71 = .ok (.iload 7, 2) := by decide +kernel
theorem dX10_simulate_73 : decode cX10_simulate 73 = .ok (.bipush 16, 2) := by decide +kernel
theorem dX10_simulate_75 : decode cX10_simulate 75 = .ok (.irem, 1) := by decide +kernel
theorem dX10_simulate_76 : decode cX10_simulate 76 = .ok (.istore 8, 2) := by decide +kernel
theorem dX10_simulate_78 : decode cX10_simulate 78 = .ok (.iload 7, 2) := by decide +kernel
theorem dX10_simulate_80 : decode cX10_simulate 80 = .ok (.bipush 16, 2) := by decide +kernel
theorem dX10_simulate_82 : decode cX10_simulate 82 = .ok (.idiv, 1) := by decide +kernel
theorem dX10_simulate_83 : decode cX10_simulate 83 = .ok (.istore 9, 2) := by decide +kernel
theorem dX10_simulate_85 : decode cX10_simulate 85 = .ok (.iload 8, 2) := by decide +kernel
theorem dX10_simulate_87 : decode cX10_simulate 87 = .ok (.iconst 5, 1) := by decide +kernel
theorem dX10_simulate_88 : decode cX10_simulate 88 = .ok (.if_icmp .ge 17, 3) := by decide +kernel
theorem dX10_simulate_91 : decode cX10_simulate 91 = .ok (.aload_n 0, 1) := by decide +kernel
theorem dX10_simulate_92 : decode cX10_simulate 92 = .ok (.getfield 16, 3) := by decide +kernel
theorem dX10_simulate_95 : decode cX10_simulate 95 = .ok (.iload 8, 2) := by decide +kernel
theorem dX10_simulate_97 : decode cX10_simulate 97 = .ok (.iload 9, 2) := by decide +kernel
theorem dX10_simulate_99 : decode cX10_simulate 99 = .ok (.invokestatic 286, 3) := by decide +kernel
theorem dX10_simulate_102 : decode cX10_simulate 102 = .ok (.goto 60, 3) := by decide +kernel
theorem dX10_simulate_105 : decode cX10_simulate 105 = .ok (.iload 8, 2) := by decide +kernel
theorem dX10_simulate_107 : decode cX10_simulate 107 = .ok (.bipush 11, 2) := by decide +kernel
theorem dX10_simulate_109 : decode cX10_simulate 109 = .ok (.if_icmp .ge 17, 3) := by decide +kernel
theorem dX10_simulate_112 : decode cX10_simulate 112 = .ok (.aload_n 0, 1) := by decide +kernel
theorem dX10_simulate_113 : decode cX10_simulate 113 = .ok (.getfield 16, 3) := by decide +kernel
theorem dX10_simulate_116 : decode cX10_simulate 116 = .ok (.iload 8, 2) := by decide +kernel
theorem dX10_simulate_118 : decode cX10_simulate 118 = .ok (.iload 9, 2) := by decide +kernel
theorem dX10_simulate_120 : decode cX10_simulate 120 = .ok (.invokestatic 290, 3) := by decide +kernel
theorem dX10_simulate_123 : decode cX10_simulate 123 = .ok (.goto 39, 3) := by decide +kernel
theorem dX10_simulate_126 : decode cX10_simulate 126 = .ok (.iload 8, 2) := by decide +kernel
theorem dX10_simulate_128 : decode cX10_simulate 128 = .ok (.bipush 14, 2) := by decide +kernel
theorem dX10_simulate_130 : decode cX10_simulate 130 = .ok (.if_icmp .ge 17, 3) := by decide +kernel
theorem dX10_simulate_133 : decode cX10_simulate 133 = .ok (.aload_n 0, 1) := by decide +kernel
theorem dX10_simulate_134 : decode cX10_simulate 134 = .ok (.getfield 16, 3) := by decide +kernel
theorem dX10_simulate_137 : decode cX10_simulate 137 = .ok (.iload 8, 2) := by decide +kernel
theorem dX10_simulate_139 : decode cX10_simulate 139 = .ok (.iload 9, 2) := by decide +kernel
theorem dX10_simulate_141 : decode cX10_simulate 141 = .ok (.invokestatic 293, 3) := by decide +kernel
theorem dX10_simulate_144 : decode cX10_simulate 144 = .ok (.goto 18, 3) := by decide +kernel
theorem dX10_simulate_147 : decode cX10_simulate 147 = .ok (.aload_n 0, 1) := by decide +kernel
theorem dX10_simulate_148 : decode cX10_simulate 148 = .ok (.getfield 16, 3) := by decide +kernel
theorem dX10_simulate_151 : decode cX10_simulate 151 = .ok (.iconst 1, 1) := by decide +kernel
theorem dX10_simulate_152 : decode cX10_simulate 152 = .ok (.iload 9, 2) := by decide +kernel
theorem dX10_simulate_154 : decode cX10_simulate 154 = .ok (.bipush 20, 2) := by decide +kernel
theorem dX10_simulate_156 : decode cX10_simulate 156 = .ok (.irem, 1) := by decide +kernel
theorem dX10_simulate_157 : decode cX10_simulate 157 = .ok (.iadd, 1) := by decide +kernel
theorem dX10_simulate_158 : decode cX10_simulate 158 = .ok (.invokestatic 217, 3) := by decide +kernel
theorem dX10_simulate_161 : decode cX10_simulate 161 = .ok (.pop, 1) := by decide +kernel
theorem dX10_simulate_162 : decode cX10_simulate 162 = .ok (.iinc 6 1, 3) := by decide +kernel
theorem dX10_simulate_165 : decode cX10_simulate 165 = .ok (.goto (-120), 3) := by decide +kernel
theorem dX10_simulate_168 : decode cX10_simulate 168 = .ok (.sipush 10000, 3) := by decide +kernel
theorem dX10_simulate_171 : decode cX10_simulate 171 = .ok (.aload_n 0, 1) := by decide +kernel
theorem dX10_simulate_172 : decode cX10_simulate 172 = .ok (.getfield 16, 3) := by decide +kernel
theorem dX10_simulate_175 : decode cX10_simulate 175 = .ok (.iconst 4, 1) := by decide +kernel
theorem dX10_simulate_176 : decode cX10_simulate 176 = .ok (.iaload, 1) := by decide +kernel
theorem dX10_simulate_177 : decode cX10_simulate 177 = .ok (.imul, 1) := by decide +kernel
theorem dX10_simulate_178 : decode cX10_simulate 178 = .ok (.bipush 100, 2) := by decide +kernel
theorem dX10_simulate_180 : decode cX10_simulate 180 = .ok (.aload_n 0, 1) := by decide +kernel
theorem dX10_simulate_181 : decode cX10_simulate 181 = .ok (.getfield 16, 3) := by decide +kernel
theorem dX10_simulate_184 : decode cX10_simulate 184 = .ok (.invokestatic 233, 3) := by decide +kernel
theorem dX10_simulate_187 : decode cX10_simulate 187 = .ok (.imul, 1) := by decide +kernel
theorem dX10_simulate_188 : decode cX10_simulate 188 = .ok (.iadd, 1) := by decide +kernel
theorem dX10_simulate_189 : decode cX10_simulate 189 = .ok (.aload_n 0, 1) := by decide +kernel
theorem dX10_simulate_190 : decode cX10_simulate 190 = .ok (.getfield 16, 3) := by decide +kernel
theorem dX10_simulate_193 : decode cX10_simulate 193 = .ok (.invokestatic 236, 3) := by decide +kernel
theorem dX10_simulate_196 : decode cX10_simulate 196 = .ok (.iadd, 1) := by decide +kernel
theorem dX10_simulate_197 : decode cX10_simulate 197 = .ok (.ireturn, 1) := by decide +kernel
set_option maxRecDepth 100000 in
set_option maxHeartbeats 4000000 in
theorem c_X10_simulate (l : Launch) (G : GT) (n : Nat) (h : AH) (m : Nat) (rf : Int32) (y : Nat → Nat) (k : Nat) (D S : Nat → Nat → Nat) (sv : Nat → Bool) (N : Nat) (T : Nat → Nat) (hS : SysM m rf y k D S sv N T h) (hI : SI y k D S sv N T) (pq1 : Int64) (pq2 : Int32) : Ct l yX10_simulate cX10_simulate 10 (some .int) 9 0 0 G n h [.ref m, .long pq1, .int pq2] (PoM m n h (if 1 ≤ pq2.toInt ∧ pq2.toInt ≤ 60 then 0 else 1) (nI (smA (trk pq1 y (z pq2)))) y k D S sv N T) := by
  have NE := NO_eq
  obtain ⟨⟨sp, ou, g1, hmx⟩, hx, ⟨yt, hxt⟩, ⟨gd, hgd, hdia⟩, ⟨gk, hgk, hkp⟩, ⟨gi, hgi, hik⟩, ⟨gf, hgf⟩⟩ := id hS
  obtain ⟨hNn, hm, hg1, hch⟩ := id hmx
  obtain ⟨hIy, hk14, hID, hIS, hN, hT⟩ := id hI
  obtain ⟨⟨i0, i1, i2, i3, i4⟩, iR, iU, iM, iS⟩ := id hIy
  refine Ct_of mX10_simulate.1 (Nat.le_of_ble_eq_true rfl) ?_
  intro p₀ e₀ s₀ m₀ as₀ bl₀ me₀ c₀ C hin
  refine V_Le (L' := [(0, .ref m), (1, .long pq1), (3, .int pq2)]) rfl ?_
  refine V_aload_n 1 C dX10_simulate_0 rfl rfl ?_
  have J18 : ∀ (w9 : Nat) (hw9 : w9 ≤ 3) (hq : (¬ w9 = 0 ∧ (if 1 ≤ pq2.toInt ∧ pq2.toInt ≤ 60 then 0 else 1) = w9) ∨ (w9 = 0 ∧ (if 1 ≤ pq2.toInt ∧ pq2.toInt ≤ 60 then 0 else 1) = 0 ∧ (1 ≤ pq2.toInt ∧ pq2.toInt ≤ 60))), V p₀ l e₀ (rmD 9 0 0) s₀ m₀ as₀ bl₀ me₀ c₀ (MQ bl₀ (Po G (PoM m n h (if 1 ≤ pq2.toInt ∧ pq2.toInt ≤ 60 then 0 else 1) (nI (smA (trk pq1 y (z pq2)))) y k D S sv N T)) as₀ s₀ 0 0 (rg G)) G 10 0 0 n h 18 [(0, .ref m), (1, .long pq1), (3, .int pq2)] [.int (nI w9), .ref m] := by
    intro w9 hw9 hq
    refine V_callV 21 C dX10_simulate_18 rfl mX10_refused tw985 fcX10 hm (c_X10_refused l G _ _ m rf (nI N) (nI k) sp ou hm w9 hw9) rfl rfl (by decide) ⟨by omega, by omega⟩ (Nat.le_of_ble_eq_true rfl) ?_
    rintro _ _ h1 ⟨rfl, rfl, eh1⟩
    have hm1 : h1 m = some (obM m (nI w9) (nI N) (nI k) sp ou) := by rw [eh1]; exact up_s _ _ _
    have hF1 : ∀ a, ¬ a = m → h1 a = h a := fun a ha => by rw [eh1]; exact up_n _ ha
    have hS1 : SysM m (nI w9) y k D S sv N T h1 := hS.ob hm1 hF1
    have hX1 : FM m h h1 := fun a ha => hF1 a (by omega)
    have hx1 : Row (m + 2) y h1 := (hF1 _ (by omega)).trans hx
    refine V_if_eqB 26 24 C dX10_simulate_21 (by decide) rfl  (fun cq21 => ?_) (fun cq21 => ?_)
    · obtain ⟨rfl, hk0, hFF⟩ := hq.resolve_left (fun e => by omega)
      have f6 : ix pq2 61 := ⟨by have := hFF.1; omega, by have := hFF.2; omega⟩
      obtain ⟨j2, hj2, rfl⟩ := ix_of f6 (by omega)
      have z2 := zn (show j2 < 2 ^ 31 by omega)
      
      refine V_aload_n 27 C dX10_simulate_26 rfl rfl ?_
      refine V_get (k := 3) 30 C dX10_simulate_27 rfl fcX10 tw939 (by decide) rfl hm1 rfl ?_
      refine V_iconst 31 C dX10_simulate_30 rfl ic0 ?_
      refine V_aload_n 32 C dX10_simulate_31 rfl rfl ?_
      refine V_get (k := 4) 35 C dX10_simulate_32 rfl fcX10 tw940 (by decide) rfl hm1 rfl ?_
      refine V_iconst 36 C dX10_simulate_35 rfl ic0 ?_
      refine V_callS 39 C dX10_simulate_36 rfl mX10_copyState tw1154 (c_X10_copyState l G _ _ (m + 2) (m + 3) 0 0 130 130 (fun j => nI (y j)) (fun j => nI (yt j)) (fun j => nI (y j)) hx1 ((hF1 _ (by omega)).trans hxt) (by omega) (by omega) (by omega) (by omega) (by omega) (fun t ht => rfl) (fun t ht hc => by omega)) rfl rfl (by decide) ⟨by omega, by omega⟩ (Nat.le_of_ble_eq_true rfl) ?_
      rintro _ _ h2 ⟨rfl, rfl, eh2⟩
      have hm2 : h2 m = some (obM m (nI 0) (nI N) (nI k) sp ou) := by rw [eh2, up_n _ (by omega)]; exact hm1
      have hx32 : Row (m + 3) y h2 := by rw [eh2]; exact up_s _ _ _
      have hS2 := hS1.tri (h' := h2) hx32 (fun a ha => by rw [eh2]; exact up_n _ ha)
      have hX2 : FM m h h2 := fun a ha => by rw [eh2, up_n _ (by omega)]; exact hX1 a ha
      refine V_lload_n 40 C dX10_simulate_39 rfl rfl ?_
      refine V_lstore 42 C dX10_simulate_40 rfl (by decide) (L' := [(0, _), (1, _), (3, _), (4, _)]) rfl ?_
      refine V_iconst 43 C dX10_simulate_42 rfl ic0 ?_
      refine V_istore 45 C dX10_simulate_43 rfl (by decide) (L' := [(0, _), (1, _), (3, _), (4, _), (6, _)]) rfl ?_
      have J45 : ∀ (fuel : Nat) (i9 v9 : Nat) (h3 : AH) (hi9 : i9 ≤ j2) (hm9 : h3 m = some (obM m (nI 0) (nI N) (nI k) sp ou)) (hxt9 : Row (m + 3) (ys (trk pq1 y i9) 6 v9) h3) (hS9 : SysM m (nI 0) y k D S sv N T h3) (hX9 : FM m h h3), j2 - i9 < fuel → V p₀ l e₀ (rmD 9 0 0) s₀ m₀ as₀ bl₀ me₀ c₀ (MQ bl₀ (Po G (PoM m n h (if 1 ≤ (nI j2).toInt ∧ (nI j2).toInt ≤ 60 then 0 else 1) (nI (smA (trk pq1 y (z (nI j2))))) y k D S sv N T)) as₀ s₀ 0 0 (rg G)) G 10 0 0 n h3 45 [(0, .ref m), (1, .long pq1), (3, .int (nI j2)), (4, .long (sdk pq1 i9)), (6, .int (nI i9))] [] := by
        intro fuel
        induction fuel with
        | zero => intro i9 v9 h3 hi9 hm9 hxt9 hS9 hX9 hf; omega
        | succ fuel ih45 =>
          intro i9 v9 h3 hi9 hm9 hxt9 hS9 hX9 hf
          refine V_iload 47 C dX10_simulate_45 rfl rfl ?_
          refine V_iload_n 48 C dX10_simulate_47 rfl rfl ?_
          refine V_icmp_geN 168 51 C dX10_simulate_48 (by decide) rfl (by omega) (by omega) (fun cq48 => ?_) (fun cq48 => ?_)
          · have ei : i9 = j2 := by omega
            refine V_sipush 171 C dX10_simulate_168 rfl sip10000 ?_
            refine V_aload_n 172 C dX10_simulate_171 rfl rfl ?_
            refine V_get (k := 4) 175 C dX10_simulate_172 rfl fcX10 tw940 (by decide) rfl hm9 rfl ?_
            refine V_iconst 176 C dX10_simulate_175 rfl ic4 ?_
            refine V_iald (j := 4) 177 C dX10_simulate_176 rfl hxt9 rfl (by omega) (by omega) ?_
            rw [ys_n _ (by omega)]
            refine V_imulN 178 C dX10_simulate_177 rfl  ?_
            refine V_bipush 180 C dX10_simulate_178 rfl bip100 ?_
            refine V_aload_n 181 C dX10_simulate_180 rfl rfl ?_
            refine V_get (k := 4) 184 C dX10_simulate_181 rfl fcX10 tw940 (by decide) rfl hm9 rfl ?_
            refine V_callS 187 C dX10_simulate_184 rfl mX10_allErrors tw1161 (c_X10_allErrors l G _ _ (m + 3) (ys (trk pq1 y i9) 6 v9) hxt9 (Iv_6 (Iv_trk hIy pq1 i9) v9)) rfl rfl (by decide) ⟨by omega, by omega⟩ (Nat.le_of_ble_eq_true rfl) ?_
            rintro _ _ _ ⟨rfl, rfl, rfl⟩
            rw [allk6, ys_n _ (by omega)]
            refine V_imulN 188 C dX10_simulate_187 rfl  ?_
            refine V_iaddN 189 C dX10_simulate_188 rfl  ?_
            refine V_aload_n 190 C dX10_simulate_189 rfl rfl ?_
            refine V_get (k := 4) 193 C dX10_simulate_190 rfl fcX10 tw940 (by decide) rfl hm9 rfl ?_
            refine V_callS 196 C dX10_simulate_193 rfl mX10_blanks tw1167 (c_X10_blanks l G _ _ (m + 3) (ys (trk pq1 y i9) 6 v9) hxt9 (Iv_6 (Iv_trk hIy pq1 i9) v9)) rfl rfl (by decide) ⟨by omega, by omega⟩ (Nat.le_of_ble_eq_true rfl) ?_
            rintro _ _ _ ⟨rfl, rfl, rfl⟩
            rw [blk6, ys_n _ (by omega)]
            refine V_iaddN 197 C dX10_simulate_196 rfl  ?_
            refine V_ireturn C dX10_simulate_197 rfl rfl (by omega) (by omega) ?_
            exact (PoM_0 hk0 rfl (by rw [z2, ← ei]; unfold smA; rfl) hS9 hX9)
          · refine V_lload 53 C dX10_simulate_51 rfl rfl ?_
            refine V_ldc2 56 C dX10_simulate_53 rfl tw1309 ?_
            refine V_lmul 57 C dX10_simulate_56 rfl  ?_
            refine V_ldc2 60 C dX10_simulate_57 rfl tw1310 ?_
            refine V_ladd 61 C dX10_simulate_60 rfl  ?_
            rw [← sdk_s]
            refine V_lstore 63 C dX10_simulate_61 rfl (by decide) (L' := [(0, _), (1, _), (3, _), (4, _), (6, _)]) rfl ?_
            refine V_lload 65 C dX10_simulate_63 rfl rfl ?_
            refine V_bipush 67 C dX10_simulate_65 rfl bip33 ?_
            refine V_lushr 68 C dX10_simulate_67 rfl  ?_
            refine V_l2i 69 C dX10_simulate_68 rfl  ?_
            rw [r33]
            have hb33 := r33_b (sdk pq1 (i9 + 1))
            obtain ⟨q9, hq9⟩ : ∃ q : Nat, q = shr33 (sdk pq1 (i9 + 1)) := ⟨_, rfl⟩
            rw [← hq9] at hb33 ⊢
            have hts : trk pq1 y (i9 + 1) = tn2 (q9 % 16) (q9 / 16) (trk pq1 y i9) := by rw [trk_s, hq9]
            refine V_istore 71 C dX10_simulate_69 rfl (by decide) (L' := [(0, _), (1, _), (3, _), (4, _), (6, _), (7, _)]) rfl ?_
            refine V_iload 73 C dX10_simulate_71 rfl rfl ?_
            refine V_bipush 75 C dX10_simulate_73 rfl bip16 ?_
            refine V_iremN 76 C dX10_simulate_75 rfl (by omega) (by omega) (by omega) ?_
            refine V_istore 78 C dX10_simulate_76 rfl (by decide) (L' := [(0, _), (1, _), (3, _), (4, _), (6, _), (7, _), (8, _)]) rfl ?_
            refine V_iload 80 C dX10_simulate_78 rfl rfl ?_
            refine V_bipush 82 C dX10_simulate_80 rfl bip16 ?_
            refine V_idivN 83 C dX10_simulate_82 rfl (by omega) (by omega) (by omega) ?_
            refine V_istore 85 C dX10_simulate_83 rfl (by decide) (L' := [(0, _), (1, _), (3, _), (4, _), (6, _), (7, _), (8, _), (9, _)]) rfl ?_
            refine V_iload 87 C dX10_simulate_85 rfl rfl ?_
            refine V_iconst 88 C dX10_simulate_87 rfl ic5 ?_
            have J162 : ∀ (v7 : Nat) (h5 : AH) (eh5 : h5 = HR h3 (m + 3) (ys (trk pq1 y (i9 + 1)) 6 v7)), V p₀ l e₀ (rmD 9 0 0) s₀ m₀ as₀ bl₀ me₀ c₀ (MQ bl₀ (Po G (PoM m n h (if 1 ≤ (nI j2).toInt ∧ (nI j2).toInt ≤ 60 then 0 else 1) (nI (smA (trk pq1 y (z (nI j2))))) y k D S sv N T)) as₀ s₀ 0 0 (rg G)) G 10 0 0 n h5 162 [(0, .ref m), (1, .long pq1), (3, .int (nI j2)), (4, .long (sdk pq1 (i9 + 1))), (6, .int (nI i9))] [] := by
              intro v7 h5 eh5
              have hxt5 : Row (m + 3) (ys (trk pq1 y (i9 + 1)) 6 v7) h5 := by rw [eh5]; exact HR_row _ _ _
              have hS5 := hS9.tri (h' := h5) hxt5 (fun a ha => by rw [eh5]; exact HR_n ha)
              have hm5 : h5 m = some (obM m (nI 0) (nI N) (nI k) sp ou) := by rw [eh5, HR_n (by omega)]; exact hm9
              have hX5 : FM m h h5 := fun a ha => by rw [eh5, HR_n (by omega)]; exact hX9 a ha
              refine V_iinc 165 C dX10_simulate_162 rfl (by decide) rfl (ii1 _) (L' := [(0, _), (1, _), (3, _), (4, _), (6, _)]) rfl ?_
              refine V_goto 45 C dX10_simulate_165 (by decide) ?_
              refine V_L [0, 1, 3, 4, 6] rfl ?_
              exact ih45 (i9 + 1) v7 h5 (by omega) hm5 hxt5 hS5 hX5 (by omega)
            refine V_icmp_geN 105 91 C dX10_simulate_88 (by decide) rfl (by omega) (by omega) (fun cq88 => ?_) (fun cq88 => ?_)
            · refine V_iload 107 C dX10_simulate_105 rfl rfl ?_
              refine V_bipush 109 C dX10_simulate_107 rfl bip11 ?_
              refine V_icmp_geN 126 112 C dX10_simulate_109 (by decide) rfl (by omega) (by omega) (fun cq109 => ?_) (fun cq109 => ?_)
              · refine V_iload 128 C dX10_simulate_126 rfl rfl ?_
                refine V_bipush 130 C dX10_simulate_128 rfl bip14 ?_
                refine V_icmp_geN 147 133 C dX10_simulate_130 (by decide) rfl (by omega) (by omega) (fun cq130 => ?_) (fun cq130 => ?_)
                · refine V_aload_n 148 C dX10_simulate_147 rfl rfl ?_
                  refine V_get (k := 4) 151 C dX10_simulate_148 rfl fcX10 tw940 (by decide) rfl hm9 rfl ?_
                  refine V_iconst 152 C dX10_simulate_151 rfl ic1 ?_
                  refine V_iload 154 C dX10_simulate_152 rfl rfl ?_
                  refine V_bipush 156 C dX10_simulate_154 rfl bip20 ?_
                  refine V_iremN 157 C dX10_simulate_156 rfl (by omega) (by omega) (by omega) ?_
                  refine V_iaddN 158 C dX10_simulate_157 rfl  ?_
                  refine V_callS 161 C dX10_simulate_158 rfl mX10_hoursOn tw1141 (c_X10_hoursOn l G _ _ (m + 3) (ys (trk pq1 y i9) 6 v9) hxt9 (Iv_6 (Iv_trk hIy pq1 i9) v9) (1 + q9 / 16 % 20) (by omega)) rfl rfl (by decide) ⟨by omega, by omega⟩ (Nat.le_of_ble_eq_true rfl) ?_
                  rintro _ _ h5 ⟨rfl, rfl, eh5⟩
                  rw [tn6_H (w := q9 % 16) (by omega), ← hts] at eh5
                  refine V_pop 162 C dX10_simulate_161 rfl rfl ?_
                  refine V_L [0, 1, 3, 4, 6] rfl ?_
                  exact J162 _ h5 eh5
                · refine V_aload_n 134 C dX10_simulate_133 rfl rfl ?_
                  refine V_get (k := 4) 137 C dX10_simulate_134 rfl fcX10 tw940 (by decide) rfl hm9 rfl ?_
                  refine V_iload 139 C dX10_simulate_137 rfl rfl ?_
                  refine V_iload 141 C dX10_simulate_139 rfl rfl ?_
                  refine V_callS 144 C dX10_simulate_141 rfl mX10_turnWrite tw1318 (c_X10_turnWrite l G _ _ (m + 3) (ys (trk pq1 y i9) 6 v9) hxt9 (Iv_6 (Iv_trk hIy pq1 i9) v9) (q9 % 16) (q9 / 16) (by omega) (by omega)) rfl rfl (by decide) ⟨by omega, by omega⟩ (Nat.le_of_ble_eq_true rfl) ?_
                  rintro _ _ h5 ⟨rfl, rfl, eh5⟩
                  obtain ⟨v7, e7⟩ := tnW6t (w := q9 % 16) (q := q9 / 16) (by omega) (trk pq1 y i9) v9
                  rw [e7, ← hts] at eh5
                  refine V_goto 162 C dX10_simulate_144 (by decide) ?_
                  refine V_L [0, 1, 3, 4, 6] rfl ?_
                  exact J162 _ h5 eh5
              · refine V_aload_n 113 C dX10_simulate_112 rfl rfl ?_
                refine V_get (k := 4) 116 C dX10_simulate_113 rfl fcX10 tw940 (by decide) rfl hm9 rfl ?_
                refine V_iload 118 C dX10_simulate_116 rfl rfl ?_
                refine V_iload 120 C dX10_simulate_118 rfl rfl ?_
                refine V_callS 123 C dX10_simulate_120 rfl mX10_turnRun tw1315 (c_X10_turnRun l G _ _ (m + 3) (ys (trk pq1 y i9) 6 v9) hxt9 (Iv_6 (Iv_trk hIy pq1 i9) v9) (q9 % 16) (q9 / 16) (by omega) (by omega)) rfl rfl (by decide) ⟨by omega, by omega⟩ (Nat.le_of_ble_eq_true rfl) ?_
                rintro _ _ h5 ⟨rfl, rfl, eh5⟩
                rw [tn6_A, ← hts] at eh5
                refine V_goto 162 C dX10_simulate_123 (by decide) ?_
                refine V_L [0, 1, 3, 4, 6] rfl ?_
                exact J162 _ h5 eh5
            · refine V_aload_n 92 C dX10_simulate_91 rfl rfl ?_
              refine V_get (k := 4) 95 C dX10_simulate_92 rfl fcX10 tw940 (by decide) rfl hm9 rfl ?_
              refine V_iload 97 C dX10_simulate_95 rfl rfl ?_
              refine V_iload 99 C dX10_simulate_97 rfl rfl ?_
              refine V_callS 102 C dX10_simulate_99 rfl mX10_turnLand tw1311 (c_X10_turnLand l G _ _ (m + 3) (ys (trk pq1 y i9) 6 v9) hxt9 (Iv_6 (Iv_trk hIy pq1 i9) v9) (q9 % 16) (q9 / 16) (by omega) (by omega)) rfl rfl (by decide) ⟨by omega, by omega⟩ (Nat.le_of_ble_eq_true rfl) ?_
              rintro _ _ h5 ⟨rfl, rfl, eh5⟩
              rw [tn6_A, ← hts] at eh5
              refine V_goto 162 C dX10_simulate_102 (by decide) ?_
              refine V_L [0, 1, 3, 4, 6] rfl ?_
              exact J162 _ h5 eh5
      refine V_L [0, 1, 3, 4, 6] rfl ?_
      have J := J45 (j2 + 1) 0 (y 6) h2 (by omega) hm2 (by rw [trk, ys6_self]; exact hx32) hS2 hX2 (by omega)
      rw [sdk] at J
      exact J
    · have hqn := (hq.resolve_right (fun e => by omega)).2
      refine V_iconst 25 C dX10_simulate_24 rfl ic0 ?_
      refine V_ireturn C dX10_simulate_25 rfl rfl (by omega) (by omega) ?_
      exact (PoM_k w9 hqn (by omega) rfl hS1 hX1)
  refine V_iload_n 2 C dX10_simulate_1 rfl rfl ?_
  refine V_i2l 3 C dX10_simulate_2 rfl  ?_
  refine V_lconst 4 C dX10_simulate_3 rfl rfl ?_
  refine V_ldc2 7 C dX10_simulate_4 rfl tw1250 ?_
  refine V_callS 10 C dX10_simulate_7 rfl mX10_in tw982 (c_X10_in l G _ _ _ _ _) rfl rfl (by decide) ⟨by omega, by omega⟩ (Nat.le_of_ble_eq_true rfl) ?_
  rintro _ _ _ ⟨rfl, rfl, rfl⟩
  rw [inI (v := pq2) (lo := 1) (hi := 60) (by decide +kernel) (by decide +kernel)]
  refine V_if_eqB 17 13 C dX10_simulate_10 (by decide) rfl  (fun cq10 => ?_) (fun cq10 => ?_)
  · have hno : ¬ (1 ≤ pq2.toInt ∧ pq2.toInt ≤ 60) := fun e => cq10 ⟨by have := e.1; omega, by have := e.2; omega⟩
    refine V_iconst 18 C dX10_simulate_17 rfl ic1 ?_
    refine V_L [0, 1, 3] rfl ?_
    exact J18 1 (by omega) (Or.inl ⟨by decide, if_neg hno⟩)
  · have hw : 1 ≤ pq2.toInt ∧ pq2.toInt ≤ 60 := ⟨by have := cq10.1; omega, by have := cq10.2; omega⟩
    refine V_iconst 14 C dX10_simulate_13 rfl ic0 ?_
    refine V_goto 18 C dX10_simulate_14 (by decide) ?_
    refine V_L [0, 1, 3] rfl ?_
    exact J18 0 (by omega) (Or.inr ⟨rfl, if_pos hw, hw⟩)

theorem dX10_runScript_0 : decode cX10_runScript 0 = .ok (.lconst 1, 1) := by decide +kernel
theorem dX10_runScript_1 : decode cX10_runScript 1 = .ok (.lstore 4, 2) := by decide +kernel
theorem dX10_runScript_3 : decode cX10_runScript 3 = .ok (.iconst 0, 1) := by decide +kernel
theorem dX10_runScript_4 : decode cX10_runScript 4 = .ok (.istore 6, 2) := by decide +kernel
theorem dX10_runScript_6 : decode cX10_runScript 6 = .ok (.iload 6, 2) := by decide +kernel
theorem dX10_runScript_8 : decode cX10_runScript 8 = .ok (.iload_n 1, 1) := by decide +kernel
theorem dX10_runScript_9 : decode cX10_runScript 9 = .ok (.if_icmp .ge 23, 3) := by decide +kernel
theorem dX10_runScript_12 : decode cX10_runScript 12 = .ok (.iload 6, 2) := by decide +kernel
theorem dX10_runScript_14 : decode cX10_runScript 14 = .ok (.iconst 3, 1) := by decide +kernel
theorem dX10_runScript_15 : decode cX10_runScript 15 = .ok (.if_icmp .ge 17, 3) := by decide +kernel
theorem dX10_runScript_18 : decode cX10_runScript 18 = .ok (.lload 4, 2) := by decide +kernel
theorem dX10_runScript_20 : decode cX10_runScript 20 = .ok (.ldc2_w 275, 3) := by decide +kernel
theorem dX10_runScript_23 : decode cX10_runScript 23 = .ok (.lmul, 1) := by decide +kernel
theorem dX10_runScript_24 : decode cX10_runScript 24 = .ok (.lstore 4, 2) := by decide +kernel
theorem dX10_runScript_26 : decode cX10_runScript 26 = .ok (.iinc 6 1, 3) := by decide +kernel
theorem dX10_runScript_29 : decode cX10_runScript 29 = .ok (.goto (-23), 3) := by decide +kernel
theorem dX10_runScript_32 : decode cX10_runScript 32 = .ok (.aload_n 0, 1) := by decide +kernel
theorem dX10_runScript_33 : decode cX10_runScript 33 = .ok (.iload_n 1, 1) := by decide +kernel
theorem dX10_runScript_34 : decode cX10_runScript 34 = .ok (.i2l, 1) := by decide +kernel
theorem dX10_runScript_35 : decode cX10_runScript 35 = .ok (.lconst 1, 1) := by decide +kernel
theorem dX10_runScript_36 : decode cX10_runScript 36 = .ok (.ldc2_w 241, 3) := by decide +kernel
theorem dX10_runScript_39 : decode cX10_runScript 39 = .ok (.invokestatic 40, 3) := by decide +kernel
theorem dX10_runScript_42 : decode cX10_runScript 42 = .ok (.ifCond .eq 19, 3) := by decide +kernel
theorem dX10_runScript_45 : decode cX10_runScript 45 = .ok (.lload_n 2, 1) := by decide +kernel
theorem dX10_runScript_46 : decode cX10_runScript 46 = .ok (.lconst 0, 1) := by decide +kernel
theorem dX10_runScript_47 : decode cX10_runScript 47 = .ok (.lload 4, 2) := by decide +kernel
theorem dX10_runScript_49 : decode cX10_runScript 49 = .ok (.lconst 1, 1) := by decide +kernel
theorem dX10_runScript_50 : decode cX10_runScript 50 = .ok (.lsub, 1) := by decide +kernel
theorem dX10_runScript_51 : decode cX10_runScript 51 = .ok (.invokestatic 40, 3) := by decide +kernel
theorem dX10_runScript_54 : decode cX10_runScript 54 = .ok (.ifCond .eq 7, 3) := by decide +kernel
theorem dX10_runScript_57 : decode cX10_runScript 57 = .ok (.iconst 0, 1) := by decide +kernel
theorem dX10_runScript_58 : decode cX10_runScript 58 = .ok (.goto 4, 3) := by decide +kernel
theorem dX10_runScript_61 : decode cX10_runScript 61 = .ok (.iconst 1, 1) := by decide +kernel
theorem dX10_runScript_62 : decode cX10_runScript 62 = .ok (.invokevirtual 124, 3) := by decide +kernel
theorem dX10_runScript_65 : decode cX10_runScript 65 = .ok (.ifCond .eq 5, 3) := by decide +kernel
theorem dX10_runScript_68 : decode cX10_runScript 68 = .ok (.iconst 0, 1) := by decide +kernel
theorem dX10_runScript_69 : decode cX10_runScript 69 = .ok (.ireturn, 1) := by decide +kernel
theorem dX10_runScript_70 : decode cX10_runScript 70 = .ok (.aload_n 0, 1) := by decide +kernel
theorem dX10_runScript_71 : decode cX10_runScript 71 = .ok (.getfield 13, 3) := by decide +kernel
theorem dX10_runScript_74 : decode cX10_runScript 74 = .ok (.iconst 0, 1) := by decide +kernel
theorem dX10_runScript_75 : decode cX10_runScript 75 = .ok (.aload_n 0, 1) := by decide +kernel
theorem dX10_runScript_76 : decode cX10_runScript 76 = .ok (.getfield 16, 3) := by decide +kernel
theorem dX10_runScript_79 : decode cX10_runScript 79 = .ok (.iconst 0, 1) := by decide +kernel
theorem dX10_runScript_80 : decode cX10_runScript 80 = .ok (.invokestatic 226, 3) := by decide +kernel
theorem dX10_runScript_83 : decode cX10_runScript 83 = .ok (.iconst 0, 1) := by decide +kernel
theorem dX10_runScript_84 : decode cX10_runScript 84 = .ok (.istore 6, 2) := by decide +kernel
theorem dX10_runScript_86 : decode cX10_runScript 86 = .ok (.iload 6, 2) := by decide +kernel
theorem dX10_runScript_88 : decode cX10_runScript 88 = .ok (.iload_n 1, 1) := by decide +kernel
theorem dX10_runScript_89 : decode cX10_runScript 89 = .ok (.if_icmp .ge 50, 3) := by decide +kernel
theorem dX10_runScript_92 : decode cX10_runScript 92 = .ok (.lload 4, 2) := by decide +kernel
theorem dX10_runScript_94 : decode cX10_runScript 94 = .ok (.ldc2_w 275, 3) := by decide +kernel
theorem dX10_runScript_97 : decode cX10_runScript 97 = .ok (.ldiv, 1) := by decide +kernel
theorem dX10_runScript_98 : decode cX10_runScript 98 = .ok (.lstore 4, 2) := by decide +kernel
theorem dX10_runScript_100 : decode cX10_runScript 100 = .ok (.lload_n 2, 1) := by decide +kernel
theorem dX10_runScript_101 : decode cX10_runScript 101 = .ok (.lload 4, 2) := by decide +kernel
theorem dX10_runScript_103 : decode cX10_runScript 103 = .ok (.ldiv, 1) := by decide +kernel
theorem dX10_runScript_104 : decode cX10_runScript 104 = .ok (.ldc2_w 275, 3) := by decide +kernel
theorem dX10_runScript_107 : decode cX10_runScript 107 = .ok (.lrem, 1) := by decide +kernel
theorem dX10_runScript_108 : decode cX10_runScript 108 = .ok (.l2i, 1) := by decide +kernel
theorem dX10_runScript_109 : decode cX10_runScript 109 = .ok (.istore 7, 2) := by decide +kernel
theorem dX10_runScript_111 : decode cX10_runScript 111 = .ok (.aload_n 0, 1) := by decide +kernel
theorem dX10_runScript_112 : decode cX10_runScript 112 = .ok (.iload 7, 2) := by decide +kernel
theorem dX10_runScript_114 : decode cX10_runScript 114 = .ok (.sipush 10000, 3) := by decide +kernel
theorem dX10_runScript_117 : decode cX10_runScript 117 = .ok (.idiv, 1) := by decide +kernel
theorem dX10_runScript_118 : decode cX10_runScript 118 = .ok (.iload 7, 2) := by decide +kernel
theorem dX10_runScript_120 : decode cX10_runScript 120 = .ok (.sipush 10000, 3) := by decide +kernel
theorem dX10_runScript_123 : decode cX10_runScript 123 = .ok (.irem, 1) := by decide +kernel
theorem dX10_runScript_124 : decode cX10_runScript 124 = .ok (.invokevirtual 277, 3) := by decide +kernel
theorem dX10_runScript_127 : decode cX10_runScript 127 = .ok (.ifCond .ne 6, 3) := by decide +kernel
theorem dX10_runScript_130 : decode cX10_runScript 130 = .ok (.iload 6, 2) := by decide +kernel
theorem dX10_runScript_132 : decode cX10_runScript 132 = .ok (.ireturn, 1) := by decide +kernel
theorem dX10_runScript_133 : decode cX10_runScript 133 = .ok (.iinc 6 1, 3) := by decide +kernel
theorem dX10_runScript_136 : decode cX10_runScript 136 = .ok (.goto (-50), 3) := by decide +kernel
theorem dX10_runScript_139 : decode cX10_runScript 139 = .ok (.iconst (-1), 1) := by decide +kernel
theorem dX10_runScript_140 : decode cX10_runScript 140 = .ok (.ireturn, 1) := by decide +kernel
set_option maxRecDepth 100000 in
set_option maxHeartbeats 4000000 in
theorem c_X10_runScript (l : Launch) (G : GT) (n : Nat) (h : AH) (m : Nat) (rf : Int32) (y : Nat → Nat) (k : Nat) (D S : Nat → Nat → Nat) (sv : Nat → Bool) (N : Nat) (T : Nat → Nat) (hS : SysM m rf y k D S sv N T h) (hI : SI y k D S sv N T) (pq1 : Int32) (pq2 : Int64) : Ct l yX10_runScript cX10_runScript 8 (some .int) 9 0 0 G n h [.ref m, .int pq1, .long pq2] (PoM m n h (if (1 ≤ pq1.toInt ∧ pq1.toInt ≤ 3) ∧ (0 ≤ pq2.toInt ∧ wz pq2 < 100000 ^ z pq1) then 0 else 1) (nI (scr (wz pq2) (z pq1) (z pq1) 0 y)) y k D S sv N T) := by
  have NE := NO_eq
  obtain ⟨⟨sp, ou, g1, hmx⟩, hx, ⟨yt, hxt⟩, ⟨gd, hgd, hdia⟩, ⟨gk, hgk, hkp⟩, ⟨gi, hgi, hik⟩, ⟨gf, hgf⟩⟩ := id hS
  obtain ⟨hNn, hm, hg1, hch⟩ := id hmx
  obtain ⟨hIy, hk14, hID, hIS, hN, hT⟩ := id hI
  obtain ⟨⟨i0, i1, i2, i3, i4⟩, iR, iU, iM, iS⟩ := id hIy
  refine Ct_of mX10_runScript.1 (Nat.le_of_ble_eq_true rfl) ?_
  intro p₀ e₀ s₀ m₀ as₀ bl₀ me₀ c₀ C hin
  refine V_Le (L' := [(0, .ref m), (1, .int pq1), (2, .long pq2)]) rfl ?_
  have J32 : ∀ (i9 : Nat) (hi9 : i9 ≤ 3) (hE : 1 ≤ pq1.toInt ∧ pq1.toInt ≤ 3 → pq1.toInt.toNat = i9), V p₀ l e₀ (rmD 9 0 0) s₀ m₀ as₀ bl₀ me₀ c₀ (MQ bl₀ (Po G (PoM m n h (if (1 ≤ pq1.toInt ∧ pq1.toInt ≤ 3) ∧ (0 ≤ pq2.toInt ∧ wz pq2 < 100000 ^ z pq1) then 0 else 1) (nI (scr (wz pq2) (z pq1) (z pq1) 0 y)) y k D S sv N T)) as₀ s₀ 0 0 (rg G)) G 8 0 0 n h 32 [(0, .ref m), (1, .int pq1), (2, .long pq2), (4, .long (lN (100000 ^ i9))), (6, .int (nI i9))] [] := by
    intro i9 hi9 hE
    obtain ⟨P9, hP9⟩ : ∃ P : Nat, P = 100000 ^ i9 := ⟨_, rfl⟩
    have hp1 : 1 ≤ P9 := by rw [hP9]; exact p5_p i9
    have hpb : P9 ≤ 1000000000000000 := by rw [hP9]; exact p5_b hi9
    rw [← hP9]
    refine V_aload_n 33 C dX10_runScript_32 rfl rfl ?_
    have J62 : ∀ (w9 : Nat) (hw9 : w9 ≤ 3) (hq : (¬ w9 = 0 ∧ (if (1 ≤ pq1.toInt ∧ pq1.toInt ≤ 3) ∧ (0 ≤ pq2.toInt ∧ wz pq2 < 100000 ^ z pq1) then 0 else 1) = w9) ∨ (w9 = 0 ∧ (if (1 ≤ pq1.toInt ∧ pq1.toInt ≤ 3) ∧ (0 ≤ pq2.toInt ∧ wz pq2 < 100000 ^ z pq1) then 0 else 1) = 0 ∧ ((1 ≤ pq1.toInt ∧ pq1.toInt ≤ 3) ∧ (0 ≤ pq2.toInt ∧ wz pq2 < 100000 ^ z pq1)))), V p₀ l e₀ (rmD 9 0 0) s₀ m₀ as₀ bl₀ me₀ c₀ (MQ bl₀ (Po G (PoM m n h (if (1 ≤ pq1.toInt ∧ pq1.toInt ≤ 3) ∧ (0 ≤ pq2.toInt ∧ wz pq2 < 100000 ^ z pq1) then 0 else 1) (nI (scr (wz pq2) (z pq1) (z pq1) 0 y)) y k D S sv N T)) as₀ s₀ 0 0 (rg G)) G 8 0 0 n h 62 [(0, .ref m), (1, .int pq1), (2, .long pq2), (4, .long (lN P9))] [.int (nI w9), .ref m] := by
      intro w9 hw9 hq
      refine V_callV 65 C dX10_runScript_62 rfl mX10_refused tw985 fcX10 hm (c_X10_refused l G _ _ m rf (nI N) (nI k) sp ou hm w9 hw9) rfl rfl (by decide) ⟨by omega, by omega⟩ (Nat.le_of_ble_eq_true rfl) ?_
      rintro _ _ h1 ⟨rfl, rfl, eh1⟩
      have hm1 : h1 m = some (obM m (nI w9) (nI N) (nI k) sp ou) := by rw [eh1]; exact up_s _ _ _
      have hF1 : ∀ a, ¬ a = m → h1 a = h a := fun a ha => by rw [eh1]; exact up_n _ ha
      have hS1 : SysM m (nI w9) y k D S sv N T h1 := hS.ob hm1 hF1
      have hX1 : FM m h h1 := fun a ha => hF1 a (by omega)
      have hx1 : Row (m + 2) y h1 := (hF1 _ (by omega)).trans hx
      refine V_if_eqB 70 68 C dX10_runScript_65 (by decide) rfl  (fun cq65 => ?_) (fun cq65 => ?_)
      · obtain ⟨rfl, hk0, hFF⟩ := hq.resolve_left (fun e => by omega)
        obtain ⟨f1, f2, f3⟩ := hFF
        have f6 : ix pq1 4 := ⟨by have := f1.1; omega, by have := f1.2; omega⟩
        obtain ⟨j1, hj1, rfl⟩ := ix_of f6 (by omega)
        have z1 := zn (show j1 < 2 ^ 31 by omega)
        have ej : i9 = j1 := by
          have e1 := hE f1
          rw [nI_toInt (by omega)] at e1
          omega
        have hP1 : P9 = 100000 ^ j1 := by rw [hP9, ej]
        have e0 : (0 : Int64).toInt = 0 := by decide
        obtain ⟨W, hW, rfl⟩ := pk_lOf (x := pq2) (fun e => by rw [Int64.lt_iff_toInt_lt, e0] at e; omega)
        have w1z := wzn hW
        refine V_aload_n 71 C dX10_runScript_70 rfl rfl ?_
        refine V_get (k := 3) 74 C dX10_runScript_71 rfl fcX10 tw939 (by decide) rfl hm1 rfl ?_
        refine V_iconst 75 C dX10_runScript_74 rfl ic0 ?_
        refine V_aload_n 76 C dX10_runScript_75 rfl rfl ?_
        refine V_get (k := 4) 79 C dX10_runScript_76 rfl fcX10 tw940 (by decide) rfl hm1 rfl ?_
        refine V_iconst 80 C dX10_runScript_79 rfl ic0 ?_
        refine V_callS 83 C dX10_runScript_80 rfl mX10_copyState tw1154 (c_X10_copyState l G _ _ (m + 2) (m + 3) 0 0 130 130 (fun j => nI (y j)) (fun j => nI (yt j)) (fun j => nI (y j)) hx1 ((hF1 _ (by omega)).trans hxt) (by omega) (by omega) (by omega) (by omega) (by omega) (fun t ht => rfl) (fun t ht hc => by omega)) rfl rfl (by decide) ⟨by omega, by omega⟩ (Nat.le_of_ble_eq_true rfl) ?_
        rintro _ _ h2 ⟨rfl, rfl, eh2⟩
        have hm2 : h2 m = some (obM m (nI 0) (nI N) (nI k) sp ou) := by rw [eh2, up_n _ (by omega)]; exact hm1
        have hx32 : Row (m + 3) y h2 := by rw [eh2]; exact up_s _ _ _
        have hS2 := hS1.tri (h' := h2) hx32 (fun a ha => by rw [eh2]; exact up_n _ ha)
        have hX2 : FM m h h2 := fun a ha => by rw [eh2, up_n _ (by omega)]; exact hX1 a ha
        have hgf2 : h2 (m + 7) = some (ra gf) := by rw [eh2, up_n _ (by omega), hF1 _ (by omega)]; exact hgf
        refine V_iconst 84 C dX10_runScript_83 rfl ic0 ?_
        refine V_istore 86 C dX10_runScript_84 rfl (by decide) (L' := [(0, _), (1, _), (2, _), (4, _), (6, _)]) rfl ?_
        have J86 : ∀ (fuel : Nat) (i8 : Nat) (y8 : Nat → Nat) (f8 : Nat → Int32) (h3 : AH) (hi8 : i8 ≤ j1) (hI8 : Iv y8) (hm8 : h3 m = some (obM m (nI 0) (nI N) (nI k) sp ou)) (hx8 : Row (m + 3) y8 h3) (hf8 : h3 (m + 7) = some (ra f8)) (hS8 : SysM m (nI 0) y k D S sv N T h3) (hX8 : FM m h h3) (hr8 : scr W j1 (j1 - i8) i8 y8 = scr W j1 j1 0 y), j1 - i8 < fuel → V p₀ l e₀ (rmD 9 0 0) s₀ m₀ as₀ bl₀ me₀ c₀ (MQ bl₀ (Po G (PoM m n h (if (1 ≤ (nI j1).toInt ∧ (nI j1).toInt ≤ 3) ∧ (0 ≤ (lN W).toInt ∧ wz (lN W) < 100000 ^ z (nI j1)) then 0 else 1) (nI (scr (wz (lN W)) (z (nI j1)) (z (nI j1)) 0 y)) y k D S sv N T)) as₀ s₀ 0 0 (rg G)) G 8 0 0 n h3 86 [(0, .ref m), (1, .int (nI j1)), (2, .long (lN W)), (4, .long (lN (100000 ^ (j1 - i8)))), (6, .int (nI i8))] [] := by
          intro fuel
          induction fuel with
          | zero => intro i8 y8 f8 h3 hi8 hI8 hm8 hx8 hf8 hS8 hX8 hr8 hf; omega
          | succ fuel ih86 =>
            intro i8 y8 f8 h3 hi8 hI8 hm8 hx8 hf8 hS8 hX8 hr8 hf
            refine V_iload 88 C dX10_runScript_86 rfl rfl ?_
            refine V_iload_n 89 C dX10_runScript_88 rfl rfl ?_
            refine V_icmp_geN 139 92 C dX10_runScript_89 (by decide) rfl (by omega) (by omega) (fun cq89 => ?_) (fun cq89 => ?_)
            · have hz : scr W j1 j1 0 y = NO := by rw [← hr8, scr_e (by omega)]
              refine V_iconst 140 C dX10_runScript_139 rfl icm1 ?_
              refine V_ireturn C dX10_runScript_140 rfl rfl (by omega) (by omega) ?_
              exact (PoM_0 hk0 rfl (by rw [w1z, z1, hz]; rfl) hS8 hX8)
            · refine V_lload 94 C dX10_runScript_92 rfl rfl ?_
              refine V_ldc2 97 C dX10_runScript_94 rfl tw1296 ?_
              rw [show (100000 : Int64) = lN 100000 from rfl]
              refine V_ldiv 98 C dX10_runScript_97 rfl (by decide +kernel) ?_
              rw [pk_lDiv (Nat.lt_of_le_of_lt (p5_b (by omega)) (by omega)) (by omega) (by omega), p5_d (by omega)]
              refine V_lstore 100 C dX10_runScript_98 rfl (by decide) (L' := [(0, _), (1, _), (2, _), (4, _), (6, _)]) rfl ?_
              refine V_lload_n 101 C dX10_runScript_100 rfl rfl ?_
              refine V_lload 103 C dX10_runScript_101 rfl rfl ?_
              refine V_ldiv 104 C dX10_runScript_103 rfl (p5_n (by omega)) ?_
              rw [pk_lDiv hW (p5_p _) (Nat.lt_of_le_of_lt (p5_b (by omega)) (by omega))]
              refine V_ldc2 107 C dX10_runScript_104 rfl tw1296 ?_
              rw [show (100000 : Int64) = lN 100000 from rfl]
              refine V_lrem 108 C dX10_runScript_107 rfl (by decide +kernel) ?_
              rw [pk_lRem (Nat.lt_of_le_of_lt (Nat.div_le_self _ _) hW) (by omega) (by omega)]
              refine V_l2i 109 C dX10_runScript_108 rfl  ?_
              rw [lN_i]
              obtain ⟨g8, hg8⟩ : ∃ g : Nat, g = W / 100000 ^ (j1 - 1 - i8) % 100000 := ⟨_, rfl⟩
              rw [← hg8]
              have hgl : g8 < 100000 := by rw [hg8]; exact Nat.mod_lt _ (by omega)
              refine V_istore 111 C dX10_runScript_109 rfl (by decide) (L' := [(0, _), (1, _), (2, _), (4, _), (6, _), (7, _)]) rfl ?_
              refine V_aload_n 112 C dX10_runScript_111 rfl rfl ?_
              refine V_iload 114 C dX10_runScript_112 rfl rfl ?_
              refine V_sipush 117 C dX10_runScript_114 rfl sip10000 ?_
              refine V_idivN 118 C dX10_runScript_117 rfl (by omega) (by omega) (by omega) ?_
              refine V_iload 120 C dX10_runScript_118 rfl rfl ?_
              refine V_sipush 123 C dX10_runScript_120 rfl sip10000 ?_
              refine V_iremN 124 C dX10_runScript_123 rfl (by omega) (by omega) (by omega) ?_
              rw [show g8 % 10000 = 1000 * (g8 / 1000 % 10) + 100 * (g8 / 100 % 10) + 10 * (g8 / 10 % 10) + g8 % 10 from by omega]
              refine V_callV 127 C dX10_runScript_124 rfl mX10_command tw1297 fcX10 hm8 (c_X10_command l G _ _ m (nI 0) (nI N) (nI k) sp ou hm8 y8 hx8 hI8 f8 hf8 (g8 / 10000) (g8 / 1000 % 10) (g8 / 100 % 10) (g8 / 10 % 10) (g8 % 10) (by omega) (by omega) (by omega) (by omega) (by omega)) rfl rfl (by decide) ⟨by omega, by omega⟩ (Nat.le_of_ble_eq_true rfl) ?_
              rintro _ _ h4 ⟨rfl, rfl, y4, f4, hI4, eh4, he4⟩
              have hm4 : h4 m = some (obM m (nI 0) (nI N) (nI k) sp ou) := by rw [eh4, HR_n (by omega), up_n _ (by omega)]; exact hm8
              have hx4 : Row (m + 3) y4 h4 := by rw [eh4]; exact HR_row _ _ _
              have hf4 : h4 (m + 7) = some (ra f4) := by rw [eh4, HR_n (by omega)]; exact up_s _ _ _
              have hS4 := hS8.tfa (h' := h4) hx4 hf4 (fun a ha => by rw [eh4, HR_n ha.1, up_n _ ha.2])
              have hX4 : FM m h h4 := fun a ha => by rw [eh4, HR_n (by omega), up_n _ (by omega)]; exact hX8 a ha
              refine V_if_neB 133 130 C dX10_runScript_127 (by decide) rfl  (fun cq127 => ?_) (fun cq127 => ?_)
              · have e5 : y4 = (cmG g8 y8).2 := he4 cq127
                have c6 : (cmG g8 y8).1 = true := cq127
                rw [hg8] at c6
                have e4 := (scr_t (W := W) (n := j1) (f := j1 - i8) (i := i8) (y := y8) (by omega) c6).symm.trans hr8
                rw [show j1 - i8 - 1 = j1 - (i8 + 1) from by omega, ← hg8, ← e5] at e4
                refine V_iinc 136 C dX10_runScript_133 rfl (by decide) rfl (ii1 _) (L' := [(0, _), (1, _), (2, _), (4, _), (6, _), (7, _)]) rfl ?_
                refine V_goto 86 C dX10_runScript_136 (by decide) ?_
                refine V_L [0, 1, 2, 4, 6] rfl ?_
                rw [show j1 - 1 - i8 = j1 - (i8 + 1) from by omega]
                exact ih86 (i8 + 1) y4 f4 h4 (by omega) hI4 hm4 hx4 hf4 hS4 hX4 e4 (by omega)
              · have c6 : ¬ (cmG g8 y8).1 = true := cq127
                rw [hg8] at c6
                have hz : scr W j1 j1 0 y = i8 := by rw [← hr8, scr_f (by omega) c6]
                refine V_iload 132 C dX10_runScript_130 rfl rfl ?_
                refine V_ireturn C dX10_runScript_132 rfl rfl (by omega) (by omega) ?_
                exact (PoM_0 hk0 rfl (by rw [w1z, z1, hz]) hS4 hX4)
        refine V_L [0, 1, 2, 4, 6] rfl ?_
        rw [hP1]
        exact J86 (j1 + 1) 0 y gf h2 (by omega) hIy hm2 hx32 hgf2 hS2 hX2 rfl (by omega)
      · have hqn := (hq.resolve_right (fun e => by omega)).2
        refine V_iconst 69 C dX10_runScript_68 rfl ic0 ?_
        refine V_ireturn C dX10_runScript_69 rfl rfl (by omega) (by omega) ?_
        exact (PoM_k w9 hqn (by omega) rfl hS1 hX1)
    refine V_iload_n 34 C dX10_runScript_33 rfl rfl ?_
    refine V_i2l 35 C dX10_runScript_34 rfl  ?_
    refine V_lconst 36 C dX10_runScript_35 rfl rfl ?_
    refine V_ldc2 39 C dX10_runScript_36 rfl tw1179 ?_
    refine V_callS 42 C dX10_runScript_39 rfl mX10_in tw982 (c_X10_in l G _ _ _ _ _) rfl rfl (by decide) ⟨by omega, by omega⟩ (Nat.le_of_ble_eq_true rfl) ?_
    rintro _ _ _ ⟨rfl, rfl, rfl⟩
    rw [inI (v := pq1) (lo := 1) (hi := 3) (by decide +kernel) (by decide +kernel)]
    refine V_if_eqB 61 45 C dX10_runScript_42 (by decide) rfl  (fun cq42 => ?_) (fun cq42 => ?_)
    · have e8 : (if (1 ≤ pq1.toInt ∧ pq1.toInt ≤ 3) ∧ (0 ≤ pq2.toInt ∧ wz pq2 < 100000 ^ z pq1) then 0 else 1) = 1 := if_neg (fun q => cq42 ⟨by have := q.1.1; omega, by have := q.1.2; omega⟩)
      refine V_iconst 62 C dX10_runScript_61 rfl ic1 ?_
      refine V_L [0, 1, 2, 4] rfl ?_
      exact J62 1 (by omega) (Or.inl ⟨by decide, e8⟩)
    · have hr1 : 1 ≤ pq1.toInt ∧ pq1.toInt ≤ 3 := ⟨by have := cq42.1; omega, by have := cq42.2; omega⟩
      have ez : z pq1 = i9 := by
        have e1 := hE hr1
        unfold z
        omega
      refine V_lload_n 46 C dX10_runScript_45 rfl rfl ?_
      refine V_lconst (v := lN 0) 47 C dX10_runScript_46 rfl rfl ?_
      refine V_lload 49 C dX10_runScript_47 rfl rfl ?_
      refine V_lconst (v := lN 1) 50 C dX10_runScript_49 rfl rfl ?_
      refine V_lsub 51 C dX10_runScript_50 rfl  ?_
      rw [lN_sub hp1]
      refine V_callS 54 C dX10_runScript_51 rfl mX10_in tw982 (c_X10_in l G _ _ _ _ _) rfl rfl (by decide) ⟨by omega, by omega⟩ (Nat.le_of_ble_eq_true rfl) ?_
      rintro _ _ _ ⟨rfl, rfl, rfl⟩
      rw [pk_lT (n := 0) (by omega), pk_lT (n := P9 - 1) (by omega)]
      refine V_if_eqB 61 57 C dX10_runScript_54 (by decide) rfl  (fun cq54 => ?_) (fun cq54 => ?_)
      · have e8 : (if (1 ≤ pq1.toInt ∧ pq1.toInt ≤ 3) ∧ (0 ≤ pq2.toInt ∧ wz pq2 < 100000 ^ z pq1) then 0 else 1) = 1 := if_neg (fun q => cq54 ⟨by have := q.2.1; omega, by
          have e1 := q.2.2
          rw [ez, ← hP9] at e1
          unfold wz at e1
          omega⟩)
        refine V_iconst 62 C dX10_runScript_61 rfl ic1 ?_
        refine V_L [0, 1, 2, 4] rfl ?_
        exact J62 1 (by omega) (Or.inl ⟨by decide, e8⟩)
      · have hr2 : 0 ≤ pq2.toInt ∧ wz pq2 < 100000 ^ z pq1 := ⟨by have := cq54.1; omega, by
          have e1 := cq54.2
          rw [ez, ← hP9]
          unfold wz
          omega⟩
        refine V_iconst 58 C dX10_runScript_57 rfl ic0 ?_
        refine V_goto 62 C dX10_runScript_58 (by decide) ?_
        refine V_L [0, 1, 2, 4] rfl ?_
        exact J62 0 (by omega) (Or.inr ⟨rfl, if_pos ⟨hr1, hr2⟩, ⟨hr1, hr2⟩⟩)
  refine V_lconst (v := lN 1) 1 C dX10_runScript_0 rfl rfl ?_
  refine V_lstore 3 C dX10_runScript_1 rfl (by decide) (L' := [(0, _), (1, _), (2, _), (4, _)]) rfl ?_
  refine V_iconst 4 C dX10_runScript_3 rfl ic0 ?_
  refine V_istore 6 C dX10_runScript_4 rfl (by decide) (L' := [(0, _), (1, _), (2, _), (4, _), (6, _)]) rfl ?_
  have J6 : ∀ (fuel : Nat) (i9 : Nat) (hi9 : i9 ≤ 3) (hj9 : i9 ≤ pq1.toInt.toNat), 3 - i9 < fuel → V p₀ l e₀ (rmD 9 0 0) s₀ m₀ as₀ bl₀ me₀ c₀ (MQ bl₀ (Po G (PoM m n h (if (1 ≤ pq1.toInt ∧ pq1.toInt ≤ 3) ∧ (0 ≤ pq2.toInt ∧ wz pq2 < 100000 ^ z pq1) then 0 else 1) (nI (scr (wz pq2) (z pq1) (z pq1) 0 y)) y k D S sv N T)) as₀ s₀ 0 0 (rg G)) G 8 0 0 n h 6 [(0, .ref m), (1, .int pq1), (2, .long pq2), (4, .long (lN (100000 ^ i9))), (6, .int (nI i9))] [] := by
    intro fuel
    induction fuel with
    | zero => intro i9 hi9 hj9 hf; omega
    | succ fuel ih6 =>
      intro i9 hi9 hj9 hf
      refine V_iload 8 C dX10_runScript_6 rfl rfl ?_
      refine V_iload_n 9 C dX10_runScript_8 rfl rfl ?_
      refine V_icmp_ge 32 12 C dX10_runScript_9 (by decide) rfl  (fun c9 => ?_) (fun c9 => ?_)
      · rw [Int32.le_iff_toInt_le, nI_toInt (by omega)] at c9
        refine V_L [0, 1, 2, 4, 6] rfl ?_
        exact J32 i9 (by omega) (fun e => by omega)
      · rw [Int32.le_iff_toInt_le, nI_toInt (by omega)] at c9
        refine V_iload 14 C dX10_runScript_12 rfl rfl ?_
        refine V_iconst 15 C dX10_runScript_14 rfl ic3 ?_
        refine V_icmp_geN 32 18 C dX10_runScript_15 (by decide) rfl (by omega) (by omega) (fun cq15 => ?_) (fun cq15 => ?_)
        · refine V_L [0, 1, 2, 4, 6] rfl ?_
          exact J32 i9 (by omega) (fun e => by omega)
        · refine V_lload 20 C dX10_runScript_18 rfl rfl ?_
          refine V_ldc2 23 C dX10_runScript_20 rfl tw1296 ?_
          rw [show (100000 : Int64) = lN 100000 from rfl]
          refine V_lmul 24 C dX10_runScript_23 rfl  ?_
          rw [lN_mul, ← Nat.pow_succ]
          refine V_lstore 26 C dX10_runScript_24 rfl (by decide) (L' := [(0, _), (1, _), (2, _), (4, _), (6, _)]) rfl ?_
          refine V_iinc 29 C dX10_runScript_26 rfl (by decide) rfl (ii1 _) (L' := [(0, _), (1, _), (2, _), (4, _), (6, _)]) rfl ?_
          refine V_goto 6 C dX10_runScript_29 (by decide) ?_
          refine V_L [0, 1, 2, 4, 6] rfl ?_
          exact ih6 (i9 + 1) (by omega) (by omega) (by omega)
  refine V_L [0, 1, 2, 4, 6] rfl ?_
  have J := J6 4 0 (by omega) (by omega) (by omega)
  rw [Nat.pow_zero] at J
  exact J

