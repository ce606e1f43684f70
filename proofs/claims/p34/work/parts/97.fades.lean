/-! WHAT IS TOLD OF LATER; COPIES -/
/-- both as they were, but for what is remembered -/
def PoTE (x q : Nat) (v : Int32) (y : Nat → Nat) (B : Nat) : Option Value → Nat → AH → Prop := fun r _ h' => r = some (.int v) ∧ ∃ σ2 : St, σ2.1 = y ∧ JS (B + 180) σ2 ∧ SC x σ2 h' ∧ SC q σ2 h'
theorem JS_pop2 {B : Nat} {σ : St} (h : JS B σ) (hk : 0 < σ.2.1) (hy : JV B (pop σ).1) : JS B (pop σ) := by
  obtain ⟨-, hk14, hI, hc, hS⟩ := h
  obtain ⟨y, k, D, S, sv⟩ := σ
  have hk : 0 < k := hk
  have hk14 : k ≤ 14 := hk14
  refine ⟨hy, (show k - 1 ≤ 14 by omega), fun i hi => hI i (show i < k by have hi : i < k - 1 := hi; omega), ?_, hS⟩
  show ∀ i, i < k - 1 → 1 ≤ nxt (D (k - 1)) (k - 1) D i 5 → JV B (D i)
  intro i hi g
  have h2 := hc i (show i < k by omega)
  have h2 : 1 ≤ nxt y k D i 5 → JV B (D i) := h2
  refine h2 ?_
  unfold nxt at g ⊢
  rw [if_neg (by omega)]
  by_cases e : i + 1 = k - 1
  · rw [if_pos e] at g; rw [e]; exact g
  · rw [if_neg e] at g; exact g
theorem lf_ge {a b : Nat} (h : b ≤ a) (ha : a < 2 ^ 31) : (0 : Int32) ≤ nI a - nI b := by
  rw [pk_sub h, Int32.le_iff_toInt_le, nI_toInt (by omega)]
  show (0 : Int) ≤ _
  omega
theorem lf_lt {a b : Nat} (h : a < b) (hb : b < 2 ^ 31) : ¬ (0 : Int32) ≤ nI a - nI b := by
  rw [Int32.le_iff_toInt_le, Int32.toInt_sub, nI_toInt (by omega), nI_toInt hb, Int.bmod_eq_of_le (by omega) (by omega)]
  show ¬ (0 : Int) ≤ _
  omega
theorem ap_cp {y : Nat → Nat} {s f : Nat} (hI : Iv y) (hs : s < y 4) (hf : f < 10) : aCp y (nI s) (nI f) = (nI (crs y s), cpC y s f) := by
  have := hI.1
  unfold aCp
  rw [if_pos (ixn (by omega) hs), if_pos (ixn (by omega) hf), zn (by omega), zn (by omega)]
theorem cnt_cp {y : Nat → Nat} {s f : Nat} (hI : Iv y) (hs : s < y 4) (hf : f < 10) : cnt (aCp y (nI s) (nI f)) = cpOn y s f := by
  have hc := crs_le y s
  rw [ap_cp hI hs hf]
  unfold cnt cpOn cpC
  by_cases e : crs y s = 0
  · rw [if_pos (Or.inl (by rw [e]; rfl)), if_pos e, if_pos e]
  · have h2 := nIc (v := crs y s) (by omega)
    rw [if_neg (by
      rintro (c | c | c | c)
      · exact nIne (by omega) (by omega) e (c.trans nI_0.symm)
      · exact h2.1 c
      · exact h2.2.1 c
      · exact h2.2.2 c), if_neg e, if_neg e]
theorem st_cp {σ : St} {s f : Nat} (hI : Iv σ.1) (hs : s < σ.1 4) (hf : f < 10) : rv (kA 1 2 1 (aCp σ.1 (nI s) (nI f)).1) ((aCp σ.1 (nI s) (nI f)).1) [eI, eA] = nI (crs σ.1 s) ∧ ((cnt (aCp σ.1 (nI s) (nI f))), (aK (kA 1 2 1 (aCp σ.1 (nI s) (nI f)).1) σ.2.1), (aD (kA 1 2 1 (aCp σ.1 (nI s) (nI f)).1) σ.2.1 σ.2.2.1 σ.1), σ.2.2.2.1, σ.2.2.2.2) = psh σ (cpOn σ.1 s f) := by
  have hc := crs_le σ.1 s
  have k : kA 1 2 1 (nI (crs σ.1 s)) = 0 := kA_0 (nIc (by omega))
  rw [cnt_cp hI hs hf, ap_cp hI hs hf]
  show rv (kA 1 2 1 (nI (crs σ.1 s))) (nI (crs σ.1 s)) [eI, eA] = nI (crs σ.1 s) ∧ (cpOn σ.1 s f, (aK (kA 1 2 1 (nI (crs σ.1 s))) σ.2.1), (aD (kA 1 2 1 (nI (crs σ.1 s))) σ.2.1 σ.2.2.1 σ.1), σ.2.2.2.1, σ.2.2.2.2) = psh σ (cpOn σ.1 s f)
  rw [k]
  exact ⟨rfl, rfl⟩
theorem dL_fades_0 : decode cL_fades 0 = .ok (.iload_n 2, 1) := by decide +kernel
theorem dL_fades_1 : decode cL_fades 1 = .ok (.aload_n 0, 1) := by decide +kernel
theorem dL_fades_2 : decode cL_fades 2 = .ok (.iconst 2, 1) := by decide +kernel
theorem dL_fades_3 : decode cL_fades 3 = .ok (.iconst 4, 1) := by decide +kernel
theorem dL_fades_4 : decode cL_fades 4 = .ok (.iconst 0, 1) := by decide +kernel
theorem dL_fades_5 : decode cL_fades 5 = .ok (.iconst 0, 1) := by decide +kernel
theorem dL_fades_6 : decode cL_fades 6 = .ok (.invokestatic 198, 3) := by decide +kernel
theorem dL_fades_9 : decode cL_fades 9 = .ok (.irem, 1) := by decide +kernel
theorem dL_fades_10 : decode cL_fades 10 = .ok (.istore_n 3, 1) := by decide +kernel
theorem dL_fades_11 : decode cL_fades 11 = .ok (.iload_n 2, 1) := by decide +kernel
theorem dL_fades_12 : decode cL_fades 12 = .ok (.bipush 12, 2) := by decide +kernel
theorem dL_fades_14 : decode cL_fades 14 = .ok (.idiv, 1) := by decide +kernel
theorem dL_fades_15 : decode cL_fades 15 = .ok (.sipush 130, 3) := by decide +kernel
theorem dL_fades_18 : decode cL_fades 18 = .ok (.irem, 1) := by decide +kernel
theorem dL_fades_19 : decode cL_fades 19 = .ok (.istore 4, 2) := by decide +kernel
theorem dL_fades_21 : decode cL_fades 21 = .ok (.aload_n 0, 1) := by decide +kernel
theorem dL_fades_22 : decode cL_fades 22 = .ok (.iconst 5, 1) := by decide +kernel
theorem dL_fades_23 : decode cL_fades 23 = .ok (.iload_n 3, 1) := by decide +kernel
theorem dL_fades_24 : decode cL_fades 24 = .ok (.iconst 5, 1) := by decide +kernel
theorem dL_fades_25 : decode cL_fades 25 = .ok (.iconst 0, 1) := by decide +kernel
theorem dL_fades_26 : decode cL_fades 26 = .ok (.invokestatic 198, 3) := by decide +kernel
theorem dL_fades_29 : decode cL_fades 29 = .ok (.istore 5, 2) := by decide +kernel
theorem dL_fades_31 : decode cL_fades 31 = .ok (.aload_n 0, 1) := by decide +kernel
theorem dL_fades_32 : decode cL_fades 32 = .ok (.iconst 5, 1) := by decide +kernel
theorem dL_fades_33 : decode cL_fades 33 = .ok (.iload_n 3, 1) := by decide +kernel
theorem dL_fades_34 : decode cL_fades 34 = .ok (.iconst 1, 1) := by decide +kernel
theorem dL_fades_35 : decode cL_fades 35 = .ok (.iconst 0, 1) := by decide +kernel
theorem dL_fades_36 : decode cL_fades 36 = .ok (.invokestatic 198, 3) := by decide +kernel
theorem dL_fades_39 : decode cL_fades 39 = .ok (.istore 6, 2) := by decide +kernel
theorem dL_fades_41 : decode cL_fades 41 = .ok (.aload_n 0, 1) := by decide +kernel
theorem dL_fades_42 : decode cL_fades 42 = .ok (.iconst 5, 1) := by decide +kernel
theorem dL_fades_43 : decode cL_fades 43 = .ok (.iload_n 3, 1) := by decide +kernel
theorem dL_fades_44 : decode cL_fades 44 = .ok (.iconst 2, 1) := by decide +kernel
theorem dL_fades_45 : decode cL_fades 45 = .ok (.iconst 0, 1) := by decide +kernel
theorem dL_fades_46 : decode cL_fades 46 = .ok (.invokestatic 198, 3) := by decide +kernel
theorem dL_fades_49 : decode cL_fades 49 = .ok (.istore 7, 2) := by decide +kernel
theorem dL_fades_51 : decode cL_fades 51 = .ok (.aload_n 0, 1) := by decide +kernel
theorem dL_fades_52 : decode cL_fades 52 = .ok (.bipush 18, 2) := by decide +kernel
theorem dL_fades_54 : decode cL_fades 54 = .ok (.iload_n 3, 1) := by decide +kernel
theorem dL_fades_55 : decode cL_fades 55 = .ok (.iload 4, 2) := by decide +kernel
theorem dL_fades_57 : decode cL_fades 57 = .ok (.iconst 0, 1) := by decide +kernel
theorem dL_fades_58 : decode cL_fades 58 = .ok (.invokestatic 198, 3) := by decide +kernel
theorem dL_fades_61 : decode cL_fades 61 = .ok (.istore 8, 2) := by decide +kernel
theorem dL_fades_63 : decode cL_fades 63 = .ok (.aload_n 0, 1) := by decide +kernel
theorem dL_fades_64 : decode cL_fades 64 = .ok (.bipush 19, 2) := by decide +kernel
theorem dL_fades_66 : decode cL_fades 66 = .ok (.iload_n 3, 1) := by decide +kernel
theorem dL_fades_67 : decode cL_fades 67 = .ok (.iconst 0, 1) := by decide +kernel
theorem dL_fades_68 : decode cL_fades 68 = .ok (.iconst 0, 1) := by decide +kernel
theorem dL_fades_69 : decode cL_fades 69 = .ok (.invokestatic 198, 3) := by decide +kernel
theorem dL_fades_72 : decode cL_fades 72 = .ok (.istore 9, 2) := by decide +kernel
theorem dL_fades_74 : decode cL_fades 74 = .ok (.iload 6, 2) := by decide +kernel
theorem dL_fades_76 : decode cL_fades 76 = .ok (.iload 4, 2) := by decide +kernel
theorem dL_fades_78 : decode cL_fades 78 = .ok (.iload 7, 2) := by decide +kernel
theorem dL_fades_80 : decode cL_fades 80 = .ok (.imul, 1) := by decide +kernel
theorem dL_fades_81 : decode cL_fades 81 = .ok (.isub, 1) := by decide +kernel
theorem dL_fades_82 : decode cL_fades 82 = .ok (.istore 10, 2) := by decide +kernel
theorem dL_fades_84 : decode cL_fades 84 = .ok (.aload_n 0, 1) := by decide +kernel
theorem dL_fades_85 : decode cL_fades 85 = .ok (.aload_n 1, 1) := by decide +kernel
theorem dL_fades_86 : decode cL_fades 86 = .ok (.iload 4, 2) := by decide +kernel
theorem dL_fades_88 : decode cL_fades 88 = .ok (.invokestatic 253, 3) := by decide +kernel
theorem dL_fades_91 : decode cL_fades 91 = .ok (.ifCond .eq 65, 3) := by decide +kernel
theorem dL_fades_94 : decode cL_fades 94 = .ok (.aload_n 0, 1) := by decide +kernel
theorem dL_fades_95 : decode cL_fades 95 = .ok (.iconst 5, 1) := by decide +kernel
theorem dL_fades_96 : decode cL_fades 96 = .ok (.iload_n 3, 1) := by decide +kernel
theorem dL_fades_97 : decode cL_fades 97 = .ok (.iconst 5, 1) := by decide +kernel
theorem dL_fades_98 : decode cL_fades 98 = .ok (.iconst 0, 1) := by decide +kernel
theorem dL_fades_99 : decode cL_fades 99 = .ok (.invokestatic 198, 3) := by decide +kernel
theorem dL_fades_102 : decode cL_fades 102 = .ok (.iload 8, 2) := by decide +kernel
theorem dL_fades_104 : decode cL_fades 104 = .ok (.if_icmp .ne 52, 3) := by decide +kernel
theorem dL_fades_107 : decode cL_fades 107 = .ok (.aload_n 0, 1) := by decide +kernel
theorem dL_fades_108 : decode cL_fades 108 = .ok (.iconst 5, 1) := by decide +kernel
theorem dL_fades_109 : decode cL_fades 109 = .ok (.iload_n 3, 1) := by decide +kernel
theorem dL_fades_110 : decode cL_fades 110 = .ok (.iconst 1, 1) := by decide +kernel
theorem dL_fades_111 : decode cL_fades 111 = .ok (.iconst 0, 1) := by decide +kernel
theorem dL_fades_112 : decode cL_fades 112 = .ok (.invokestatic 198, 3) := by decide +kernel
theorem dL_fades_115 : decode cL_fades 115 = .ok (.iload 10, 2) := by decide +kernel
theorem dL_fades_117 : decode cL_fades 117 = .ok (.ifCond .ge 7, 3) := by decide +kernel
theorem dL_fades_120 : decode cL_fades 120 = .ok (.iconst 0, 1) := by decide +kernel
theorem dL_fades_121 : decode cL_fades 121 = .ok (.goto 5, 3) := by decide +kernel
theorem dL_fades_124 : decode cL_fades 124 = .ok (.iload 10, 2) := by decide +kernel
theorem dL_fades_126 : decode cL_fades 126 = .ok (.if_icmp .ne 30, 3) := by decide +kernel
theorem dL_fades_129 : decode cL_fades 129 = .ok (.aload_n 0, 1) := by decide +kernel
theorem dL_fades_130 : decode cL_fades 130 = .ok (.aload_n 1, 1) := by decide +kernel
theorem dL_fades_131 : decode cL_fades 131 = .ok (.iload 4, 2) := by decide +kernel
theorem dL_fades_133 : decode cL_fades 133 = .ok (.invokestatic 256, 3) := by decide +kernel
theorem dL_fades_136 : decode cL_fades 136 = .ok (.ifCond .eq 20, 3) := by decide +kernel
theorem dL_fades_139 : decode cL_fades 139 = .ok (.aload_n 0, 1) := by decide +kernel
theorem dL_fades_140 : decode cL_fades 140 = .ok (.iconst 5, 1) := by decide +kernel
theorem dL_fades_141 : decode cL_fades 141 = .ok (.iload_n 3, 1) := by decide +kernel
theorem dL_fades_142 : decode cL_fades 142 = .ok (.iconst 1, 1) := by decide +kernel
theorem dL_fades_143 : decode cL_fades 143 = .ok (.iconst 0, 1) := by decide +kernel
theorem dL_fades_144 : decode cL_fades 144 = .ok (.invokestatic 198, 3) := by decide +kernel
theorem dL_fades_147 : decode cL_fades 147 = .ok (.iload 6, 2) := by decide +kernel
theorem dL_fades_149 : decode cL_fades 149 = .ok (.if_icmp .ne 7, 3) := by decide +kernel
theorem dL_fades_152 : decode cL_fades 152 = .ok (.iconst 1, 1) := by decide +kernel
theorem dL_fades_153 : decode cL_fades 153 = .ok (.goto 4, 3) := by decide +kernel
theorem dL_fades_156 : decode cL_fades 156 = .ok (.iconst 0, 1) := by decide +kernel
theorem dL_fades_157 : decode cL_fades 157 = .ok (.istore 11, 2) := by decide +kernel
theorem dL_fades_159 : decode cL_fades 159 = .ok (.iload 9, 2) := by decide +kernel
theorem dL_fades_161 : decode cL_fades 161 = .ok (.iconst (-1), 1) := by decide +kernel
theorem dL_fades_162 : decode cL_fades 162 = .ok (.if_icmp .ne 21, 3) := by decide +kernel
theorem dL_fades_165 : decode cL_fades 165 = .ok (.iload 11, 2) := by decide +kernel
theorem dL_fades_167 : decode cL_fades 167 = .ok (.ifCond .eq 14, 3) := by decide +kernel
theorem dL_fades_170 : decode cL_fades 170 = .ok (.iload 8, 2) := by decide +kernel
theorem dL_fades_172 : decode cL_fades 172 = .ok (.iload 5, 2) := by decide +kernel
theorem dL_fades_174 : decode cL_fades 174 = .ok (.if_icmp .gt 7, 3) := by decide +kernel
theorem dL_fades_177 : decode cL_fades 177 = .ok (.iconst 1, 1) := by decide +kernel
theorem dL_fades_178 : decode cL_fades 178 = .ok (.goto 4, 3) := by decide +kernel
theorem dL_fades_181 : decode cL_fades 181 = .ok (.iconst 0, 1) := by decide +kernel
theorem dL_fades_182 : decode cL_fades 182 = .ok (.ireturn, 1) := by decide +kernel
theorem dL_fades_183 : decode cL_fades 183 = .ok (.iload 11, 2) := by decide +kernel
theorem dL_fades_185 : decode cL_fades 185 = .ok (.ifCond .eq 59, 3) := by decide +kernel
theorem dL_fades_188 : decode cL_fades 188 = .ok (.iload 4, 2) := by decide +kernel
theorem dL_fades_190 : decode cL_fades 190 = .ok (.iload 9, 2) := by decide +kernel
theorem dL_fades_192 : decode cL_fades 192 = .ok (.if_icmp .ge 10, 3) := by decide +kernel
theorem dL_fades_195 : decode cL_fades 195 = .ok (.iload 8, 2) := by decide +kernel
theorem dL_fades_197 : decode cL_fades 197 = .ok (.iload 5, 2) := by decide +kernel
theorem dL_fades_199 : decode cL_fades 199 = .ok (.if_icmp .gt 45, 3) := by decide +kernel
theorem dL_fades_202 : decode cL_fades 202 = .ok (.aload_n 0, 1) := by decide +kernel
theorem dL_fades_203 : decode cL_fades 203 = .ok (.bipush 18, 2) := by decide +kernel
theorem dL_fades_205 : decode cL_fades 205 = .ok (.iload_n 3, 1) := by decide +kernel
theorem dL_fades_206 : decode cL_fades 206 = .ok (.iload 9, 2) := by decide +kernel
theorem dL_fades_208 : decode cL_fades 208 = .ok (.iconst 0, 1) := by decide +kernel
theorem dL_fades_209 : decode cL_fades 209 = .ok (.invokestatic 198, 3) := by decide +kernel
theorem dL_fades_212 : decode cL_fades 212 = .ok (.iload 5, 2) := by decide +kernel
theorem dL_fades_214 : decode cL_fades 214 = .ok (.if_icmp .le 30, 3) := by decide +kernel
theorem dL_fades_217 : decode cL_fades 217 = .ok (.iload 9, 2) := by decide +kernel
theorem dL_fades_219 : decode cL_fades 219 = .ok (.iconst 1, 1) := by decide +kernel
theorem dL_fades_220 : decode cL_fades 220 = .ok (.if_icmp .eq 20, 3) := by decide +kernel
theorem dL_fades_223 : decode cL_fades 223 = .ok (.aload_n 0, 1) := by decide +kernel
theorem dL_fades_224 : decode cL_fades 224 = .ok (.bipush 18, 2) := by decide +kernel
theorem dL_fades_226 : decode cL_fades 226 = .ok (.iload_n 3, 1) := by decide +kernel
theorem dL_fades_227 : decode cL_fades 227 = .ok (.iload 9, 2) := by decide +kernel
theorem dL_fades_229 : decode cL_fades 229 = .ok (.iconst 1, 1) := by decide +kernel
theorem dL_fades_230 : decode cL_fades 230 = .ok (.isub, 1) := by decide +kernel
theorem dL_fades_231 : decode cL_fades 231 = .ok (.iconst 0, 1) := by decide +kernel
theorem dL_fades_232 : decode cL_fades 232 = .ok (.invokestatic 198, 3) := by decide +kernel
theorem dL_fades_235 : decode cL_fades 235 = .ok (.iload 5, 2) := by decide +kernel
theorem dL_fades_237 : decode cL_fades 237 = .ok (.if_icmp .gt 7, 3) := by decide +kernel
theorem dL_fades_240 : decode cL_fades 240 = .ok (.iconst 1, 1) := by decide +kernel
theorem dL_fades_241 : decode cL_fades 241 = .ok (.goto 4, 3) := by decide +kernel
theorem dL_fades_244 : decode cL_fades 244 = .ok (.iconst 0, 1) := by decide +kernel
theorem dL_fades_245 : decode cL_fades 245 = .ok (.ireturn, 1) := by decide +kernel
set_option maxRecDepth 100000 in
set_option maxHeartbeats 4000000 in
theorem c_L_fades (l : Launch) (G : GT) (n0 : Nat) (h0 : AH) (hl : l.stackTraces = false) (x q : Nat) (hx : apt x q) (σ : St) (hS0 : SC x σ h0) (hQ0 : SC q σ h0) (B : Nat) (hJ : JS B σ) (hB : B < 2 ^ 30) (X : Nat) (hX : X < 2 ^ 31) : Ct l yL_fades cL_fades 12 (some .boolean) 12 96 576 G n0 h0 [.ref x, .ref q, .int (nI X)] (PoTE x q (nI 1) σ.1 B) := by
  have hI := hJ.si
  have hIv : Iv σ.1 := hI.1
  obtain ⟨⟨i0, i1, i2, i3, i4⟩, iR, iU, iM, iS⟩ := id hIv
  have h3 := hJ.1.2
  refine Ct_ofZ mL_fades.z (Nat.le_of_ble_eq_true rfl) ?_
  intro p₀ e₀ s₀ m₀ as₀ bl₀ me₀ c₀ C
  refine V_Le (L' := [(0, .ref x), (1, .ref q), (2, .int (nI X))]) rfl ?_
  suffices H : ∀ (n : Nat) (h : AH) (hS : SC x σ h) (hQ : SC q σ h), V p₀ l e₀ (rmD 12 96 576) s₀ m₀ as₀ bl₀ me₀ c₀ (MQ bl₀ (Po G (PoTE x q (nI 1) σ.1 B)) as₀ s₀ 96 576 (rg G)) G 12 0 0 n h 0 [(0, .ref x), (1, .ref q), (2, .int (nI X))] [] from H n0 h0 hS0 hQ0
  intro n h hS hQ
  refine V_iload_n 1 C dL_fades_0 rfl rfl ?_
  refine V_aload_n 2 C dL_fades_1 rfl rfl ?_
  refine V_iconst 3 C dL_fades_2 rfl ic2 ?_
  refine V_iconst 4 C dL_fades_3 rfl ic4 ?_
  refine V_iconst 5 C dL_fades_4 rfl ic0 ?_
  refine V_iconst 6 C dL_fades_5 rfl ic0 ?_
  refine V_q2 9 (4) (24) C hQ hx dL_fades_6 rfl mL_call.z tw250 (k_about l G _ _ hl x σ hS hI _ _ _ _ (v_ab (j := 4) (w := σ.1 4) (by omega) rfl)) rfl rfl ⟨Nat.le_of_ble_eq_true rfl, Nat.le_of_ble_eq_true rfl⟩ ⟨by omega, by omega⟩ ⟨by show _ ≤ 96; omega, by show _ ≤ 576; omega⟩ (Nat.le_of_ble_eq_true rfl) ?_
  clear hS hQ n h
  intro n h hS hQ
  obtain ⟨s, hs, es⟩ : ∃ t, t < σ.1 4 ∧ X % σ.1 4 = t := ⟨_, Nat.mod_lt _ (by omega), rfl⟩
  obtain ⟨s0, s1, s2, s3, s4, s5⟩ := iS s hs
  refine V_iremN 10 C dL_fades_9 rfl (by omega) (by omega) (by omega) ?_
  rw [es]
  refine V_istore_n 11 C dL_fades_10 rfl (by decide) (L' := [(0, _), (1, _), (2, _), (3, _)]) rfl ?_
  refine V_iload_n 12 C dL_fades_11 rfl rfl ?_
  refine V_bipush 14 C dL_fades_12 rfl bip12 ?_
  refine V_idivN 15 C dL_fades_14 rfl (by omega) (by omega) (by omega) ?_
  refine V_sipush 18 C dL_fades_15 rfl sip130 ?_
  obtain ⟨n9, hn, en⟩ : ∃ t, t < 130 ∧ X / 12 % 130 = t := ⟨_, Nat.mod_lt _ (by omega), rfl⟩
  refine V_iremN 19 C dL_fades_18 rfl (by omega) (by omega) (by omega) ?_
  rw [en]
  refine V_istore 21 C dL_fades_19 rfl (by decide) (L' := [(0, _), (1, _), (2, _), (3, _), (4, _)]) rfl ?_
  refine V_aload_n 22 C dL_fades_21 rfl rfl ?_
  refine V_iconst 23 C dL_fades_22 rfl ic5 ?_
  refine V_iload_n 24 C dL_fades_23 rfl rfl ?_
  refine V_iconst 25 C dL_fades_24 rfl ic5 ?_
  refine V_iconst 26 C dL_fades_25 rfl ic0 ?_
  refine V_q2 29 (8) (48) C hQ hx dL_fades_26 rfl mL_call.z tw250 (k_sheet l G _ _ hl x σ hS hI _ _ _ _ (v_sh (w := ers σ.1 s 0) hs hIv (j := 5) (by omega) rfl)) rfl rfl ⟨Nat.le_of_ble_eq_true rfl, Nat.le_of_ble_eq_true rfl⟩ ⟨by omega, by omega⟩ ⟨by show _ ≤ 96; omega, by show _ ≤ 576; omega⟩ (Nat.le_of_ble_eq_true rfl) ?_
  clear hS hQ n h
  intro n h hS hQ
  refine V_istore 31 C dL_fades_29 rfl (by decide) (L' := [(0, _), (1, _), (2, _), (3, _), (4, _), (5, _)]) rfl ?_
  refine V_aload_n 32 C dL_fades_31 rfl rfl ?_
  refine V_iconst 33 C dL_fades_32 rfl ic5 ?_
  refine V_iload_n 34 C dL_fades_33 rfl rfl ?_
  refine V_iconst 35 C dL_fades_34 rfl ic1 ?_
  refine V_iconst 36 C dL_fades_35 rfl ic0 ?_
  refine V_q2 39 (12) (72) C hQ hx dL_fades_36 rfl mL_call.z tw250 (k_sheet l G _ _ hl x σ hS hI _ _ _ _ (v_sh (w := σ.1 (58 + 6 * s + 2)) hs hIv (j := 1) (by omega) rfl)) rfl rfl ⟨Nat.le_of_ble_eq_true rfl, Nat.le_of_ble_eq_true rfl⟩ ⟨by omega, by omega⟩ ⟨by show _ ≤ 96; omega, by show _ ≤ 576; omega⟩ (Nat.le_of_ble_eq_true rfl) ?_
  clear hS hQ n h
  intro n h hS hQ
  refine V_istore 41 C dL_fades_39 rfl (by decide) (L' := [(0, _), (1, _), (2, _), (3, _), (4, _), (5, _), (6, _)]) rfl ?_
  refine V_aload_n 42 C dL_fades_41 rfl rfl ?_
  refine V_iconst 43 C dL_fades_42 rfl ic5 ?_
  refine V_iload_n 44 C dL_fades_43 rfl rfl ?_
  refine V_iconst 45 C dL_fades_44 rfl ic2 ?_
  refine V_iconst 46 C dL_fades_45 rfl ic0 ?_
  refine V_q2 49 (16) (96) C hQ hx dL_fades_46 rfl mL_call.z tw250 (k_sheet l G _ _ hl x σ hS hI _ _ _ _ (v_sh (w := σ.1 (58 + 6 * s + 3)) hs hIv (j := 2) (by omega) rfl)) rfl rfl ⟨Nat.le_of_ble_eq_true rfl, Nat.le_of_ble_eq_true rfl⟩ ⟨by omega, by omega⟩ ⟨by show _ ≤ 96; omega, by show _ ≤ 576; omega⟩ (Nat.le_of_ble_eq_true rfl) ?_
  clear hS hQ n h
  intro n h hS hQ
  refine V_istore 51 C dL_fades_49 rfl (by decide) (L' := [(0, _), (1, _), (2, _), (3, _), (4, _), (5, _), (6, _), (7, _)]) rfl ?_
  refine V_aload_n 52 C dL_fades_51 rfl rfl ?_
  refine V_bipush 54 C dL_fades_52 rfl bip18 ?_
  refine V_iload_n 55 C dL_fades_54 rfl rfl ?_
  refine V_iload 57 C dL_fades_55 rfl rfl ?_
  refine V_iconst 58 C dL_fades_57 rfl ic0 ?_
  refine V_q2 61 (20) (120) C hQ hx dL_fades_58 rfl mL_call.z tw250 (k_later l G _ _ hl x σ hS hI _ _ _ _ (v_later hs hIv (by omega))) rfl rfl ⟨Nat.le_of_ble_eq_true rfl, Nat.le_of_ble_eq_true rfl⟩ ⟨by omega, by omega⟩ ⟨by show _ ≤ 96; omega, by show _ ≤ 576; omega⟩ (Nat.le_of_ble_eq_true rfl) ?_
  clear hS hQ n h
  intro n h hS hQ
  refine V_istore 63 C dL_fades_61 rfl (by decide) (L' := [(0, _), (1, _), (2, _), (3, _), (4, _), (5, _), (6, _), (7, _), (8, _)]) rfl ?_
  refine V_aload_n 64 C dL_fades_63 rfl rfl ?_
  refine V_bipush 66 C dL_fades_64 rfl bip19 ?_
  refine V_iload_n 67 C dL_fades_66 rfl rfl ?_
  refine V_iconst 68 C dL_fades_67 rfl ic0 ?_
  refine V_iconst 69 C dL_fades_68 rfl ic0 ?_
  refine V_q2 72 (24) (144) C hQ hx dL_fades_69 rfl mL_call.z tw250 (k_right l G _ _ hl x σ hS hI _ _ _ _ (v_right hs hIv)) rfl rfl ⟨Nat.le_of_ble_eq_true rfl, Nat.le_of_ble_eq_true rfl⟩ ⟨by omega, by omega⟩ ⟨by show _ ≤ 96; omega, by show _ ≤ 576; omega⟩ (Nat.le_of_ble_eq_true rfl) ?_
  clear hS hQ n h
  intro n h hS hQ
  refine V_istore 74 C dL_fades_72 rfl (by decide) (L' := [(0, _), (1, _), (2, _), (3, _), (4, _), (5, _), (6, _), (7, _), (8, _), (9, _)]) rfl ?_
  refine V_iload 76 C dL_fades_74 rfl rfl ?_
  refine V_iload 78 C dL_fades_76 rfl rfl ?_
  refine V_iload 80 C dL_fades_78 rfl rfl ?_
  refine V_imulN 81 C dL_fades_80 rfl  ?_
  refine V_isub 82 C dL_fades_81 rfl  ?_
  refine V_istore 84 C dL_fades_82 rfl (by decide) (L' := [(0, _), (1, _), (2, _), (3, _), (4, _), (5, _), (6, _), (7, _), (8, _), (9, _), (10, _)]) rfl ?_
  refine V_aload_n 85 C dL_fades_84 rfl rfl ?_
  refine V_aload_n 86 C dL_fades_85 rfl rfl ?_
  refine V_iload 88 C dL_fades_86 rfl rfl ?_
  obtain ⟨σ1, eσ1⟩ : ∃ t, wts 3 n9 σ = t := ⟨_, rfl⟩
  obtain ⟨σ2, eσ2⟩ : ∃ t, uns 3 n9 σ1 = t := ⟨_, rfl⟩
  have hnp : np n9 ≤ 3 := by unfold np; omega
  have hQJ := QJ_wts 3 n9 σ 0 (QJ_0 hJ) (by omega) (by omega)
  rw [eσ1, Nat.zero_add] at hQJ
  have hI1 := hQJ.1.si
  have hIv1 : Iv σ1.1 := hI1.1
  have hy1 : σ1.1 = hrs σ.1 n9 := by rw [← eσ1]; exact wts_y 3 n9 σ (by omega)
  have hs1 : s < σ1.1 4 := by rw [hy1, hrs_n hIv (by omega) (fun i hi => by omega) (fun i hi => by omega)]; exact hs
  have hJ2 := JS_uns 3 n9 σ1 hQJ (by omega)
  rw [eσ2] at hJ2
  have hI2 := hJ2.si
  have hy2 : σ2.1 = σ.1 := by rw [← eσ2, ← eσ1]; exact uns_wts hJ (by omega)
  have hIv2 : Iv σ2.1 := hI2.1
  have hs2 : s < σ2.1 4 := by rw [hy2]; exact hs
  have w1 : qSheet σ1.1 s 5 = ers σ.1 s n9 := by rw [hy1]; exact ers_hrs hIv hs n9
  have w2 : qSheet σ1.1 s 1 = σ.1 (58 + 6 * s + 2) - n9 * σ.1 (58 + 6 * s + 3) := by rw [hy1]; exact hrs_ink hIv hs n9
  have w3 : qSheet σ2.1 s 1 = σ.1 (58 + 6 * s + 2) := by rw [hy2]; rfl
  have w4 : ∀ j, ers σ2.1 s j = ers σ.1 s j := fun j => by rw [hy2]
  have m9 : n9 * σ.1 (58 + 6 * s + 3) ≤ 129 * 9 := Nat.mul_le_mul (by omega) s3
  have ee := ers_le σ.1 s
  have e00 := ee 0
  have e0n := ee n9
  have hr := rgt_1 σ.1 s
  refine V_q3 91 (48) (288) C dL_fades_88 rfl mL_waits.z tw948 (Eq.mp (by rw [eσ1]) (c_L_waits l G _ _ hl x q hx σ hS hQ B hJ n9 (by omega)) : Ct l yL_waits cL_waits 7 (some .boolean) 11 24 144 G _ _ [.ref x, .ref q, .int (nI n9)] (PoT x q (nI 1) σ1 σ1)) rfl rfl ⟨Nat.le_of_ble_eq_true rfl, Nat.le_of_ble_eq_true rfl⟩ ⟨by omega, by omega⟩ ⟨by show _ ≤ 96; omega, by show _ ≤ 576; omega⟩ (Nat.le_of_ble_eq_true rfl) ?_
  clear hS hQ n h
  intro n h hS hQ
  refine V_if_eqN 156 94 C dL_fades_91 (by decide) rfl (by omega) (fun c91 => by omega) (fun c91 => ?_)
  refine V_aload_n 95 C dL_fades_94 rfl rfl ?_
  refine V_iconst 96 C dL_fades_95 rfl ic5 ?_
  refine V_iload_n 97 C dL_fades_96 rfl rfl ?_
  refine V_iconst 98 C dL_fades_97 rfl ic5 ?_
  refine V_iconst 99 C dL_fades_98 rfl ic0 ?_
  refine V_q2 102 (52) (312) C hQ hx dL_fades_99 rfl mL_call.z tw250 (k_sheet l G _ _ hl x σ1 hS hI1 _ _ _ _ (v_sh (w := ers σ.1 s n9) hs1 hIv1 (j := 5) (by omega) w1)) rfl rfl ⟨Nat.le_of_ble_eq_true rfl, Nat.le_of_ble_eq_true rfl⟩ ⟨by omega, by omega⟩ ⟨by show _ ≤ 96; omega, by show _ ≤ 576; omega⟩ (Nat.le_of_ble_eq_true rfl) ?_
  clear hS hQ n h
  intro n h hS hQ
  refine V_iload 104 C dL_fades_102 rfl rfl ?_
  refine V_icmp_neN 156 107 C dL_fades_104 (by decide) rfl (by omega) (by omega) (fun c104 => by omega) (fun c104 => ?_)
  refine V_aload_n 108 C dL_fades_107 rfl rfl ?_
  refine V_iconst 109 C dL_fades_108 rfl ic5 ?_
  refine V_iload_n 110 C dL_fades_109 rfl rfl ?_
  refine V_iconst 111 C dL_fades_110 rfl ic1 ?_
  refine V_iconst 112 C dL_fades_111 rfl ic0 ?_
  refine V_q2 115 (56) (336) C hQ hx dL_fades_112 rfl mL_call.z tw250 (k_sheet l G _ _ hl x σ1 hS hI1 _ _ _ _ (v_sh (w := σ.1 (58 + 6 * s + 2) - n9 * σ.1 (58 + 6 * s + 3)) hs1 hIv1 (j := 1) (by omega) w2)) rfl rfl ⟨Nat.le_of_ble_eq_true rfl, Nat.le_of_ble_eq_true rfl⟩ ⟨by omega, by omega⟩ ⟨by show _ ≤ 96; omega, by show _ ≤ 576; omega⟩ (Nat.le_of_ble_eq_true rfl) ?_
  clear hS hQ n h
  intro n h hS hQ
  refine V_iload 117 C dL_fades_115 rfl rfl ?_
  by_cases hc : n9 * σ.1 (58 + 6 * s + 3) ≤ σ.1 (58 + 6 * s + 2)
  · skip
    refine V_if_ge 124 120 C dL_fades_117 (by decide) rfl  (fun c117 => ?_) (fun c117 => by exact absurd (lf_ge hc (by omega)) c117)
    refine V_iload 126 C dL_fades_124 rfl rfl ?_
    refine V_icmp_ne 156 129 C dL_fades_126 (by decide) rfl  (fun c126 => by exact absurd (pk_sub hc).symm c126) (fun c126 => ?_)
    refine V_aload_n 130 C dL_fades_129 rfl rfl ?_
    refine V_aload_n 131 C dL_fades_130 rfl rfl ?_
    refine V_iload 133 C dL_fades_131 rfl rfl ?_
    refine V_q3 136 (80) (480) C dL_fades_133 rfl mL_undoes.z tw951 (Eq.mp (by rw [eσ2]) (c_L_undoes l G _ _ hl x q hx σ1 hS hQ _ n9 hQJ (by omega)) : Ct l yL_undoes cL_undoes 5 (some .boolean) 11 24 144 G _ _ [.ref x, .ref q, .int (nI n9)] (PoT x q (nI 1) σ2 σ2)) rfl rfl ⟨Nat.le_of_ble_eq_true rfl, Nat.le_of_ble_eq_true rfl⟩ ⟨by omega, by omega⟩ ⟨by show _ ≤ 96; omega, by show _ ≤ 576; omega⟩ (Nat.le_of_ble_eq_true rfl) ?_
    clear hS hQ n h
    intro n h hS hQ
    refine V_if_eqN 156 139 C dL_fades_136 (by decide) rfl (by omega) (fun c136 => by omega) (fun c136 => ?_)
    refine V_aload_n 140 C dL_fades_139 rfl rfl ?_
    refine V_iconst 141 C dL_fades_140 rfl ic5 ?_
    refine V_iload_n 142 C dL_fades_141 rfl rfl ?_
    refine V_iconst 143 C dL_fades_142 rfl ic1 ?_
    refine V_iconst 144 C dL_fades_143 rfl ic0 ?_
    refine V_q2 147 (84) (504) C hQ hx dL_fades_144 rfl mL_call.z tw250 (k_sheet l G _ _ hl x σ2 hS hI2 _ _ _ _ (v_sh (w := σ.1 (58 + 6 * s + 2)) hs2 hIv2 (j := 1) (by omega) w3)) rfl rfl ⟨Nat.le_of_ble_eq_true rfl, Nat.le_of_ble_eq_true rfl⟩ ⟨by omega, by omega⟩ ⟨by show _ ≤ 96; omega, by show _ ≤ 576; omega⟩ (Nat.le_of_ble_eq_true rfl) ?_
    clear hS hQ n h
    intro n h hS hQ
    refine V_iload 149 C dL_fades_147 rfl rfl ?_
    refine V_icmp_neN 156 152 C dL_fades_149 (by decide) rfl (by omega) (by omega) (fun c149 => by omega) (fun c149 => ?_)
    refine V_iconst 153 C dL_fades_152 rfl ic1 ?_
    refine V_goto 157 C dL_fades_153 (by decide) ?_
    refine V_istore 159 C dL_fades_157 rfl (by decide) (L' := [(0, _), (1, _), (2, _), (3, _), (4, _), (5, _), (6, _), (7, _), (8, _), (9, _), (10, _), (11, _)]) rfl ?_
    refine V_iload 161 C dL_fades_159 rfl rfl ?_
    refine V_iconst 162 C dL_fades_161 rfl icm1 ?_
    rcases hr with ⟨r1, r2⟩ | ⟨r1, r2, r3, r4⟩
    · skip
      have rq := r2 n9 (by omega)
      have hN := NO_eq
      have hrb : rgt σ.1 s 200 1 < 2 ^ 32 := by omega
      refine V_icmp_neN 183 165 C dL_fades_162 (by decide) rfl (by omega) (by omega) (fun c162 => by omega) (fun c162 => ?_)
      refine V_iload 167 C dL_fades_165 rfl rfl ?_
      refine V_if_eqN 181 170 C dL_fades_167 (by decide) rfl (by omega) (fun c167 => by omega) (fun c167 => ?_)
      refine V_iload 172 C dL_fades_170 rfl rfl ?_
      refine V_iload 174 C dL_fades_172 rfl rfl ?_
      refine V_icmp_gtN 181 177 C dL_fades_174 (by decide) rfl (by omega) (by omega) (fun c174 => by omega) (fun c174 => ?_)
      refine V_iconst 178 C dL_fades_177 rfl ic1 ?_
      refine V_goto 182 C dL_fades_178 (by decide) ?_
      refine V_ireturn C dL_fades_182 rfl nar_1 (by omega) (by omega) ?_
      exact ⟨rfl, σ2, hy2, hJ2.up (by omega), hS, hQ⟩
    · skip
      have hrb : rgt σ.1 s 200 1 < 2 ^ 31 := by omega
      have er1 := ee (rgt σ.1 s 200 1)
      have er2 := ee (rgt σ.1 s 200 1 - 1)
      refine V_icmp_neN 183 165 C dL_fades_162 (by decide) rfl (by omega) (by omega) (fun c162 => ?_) (fun c162 => by omega)
      refine V_iload 185 C dL_fades_183 rfl rfl ?_
      refine V_if_eqN 244 188 C dL_fades_185 (by decide) rfl (by omega) (fun c185 => by omega) (fun c185 => ?_)
      refine V_iload 190 C dL_fades_188 rfl rfl ?_
      refine V_iload 192 C dL_fades_190 rfl rfl ?_
      by_cases e0 : rgt σ.1 s 200 1 ≤ n9
      · skip
        refine V_icmp_geN 202 195 C dL_fades_192 (by decide) rfl (by omega) (by omega) (fun c192 => ?_) (fun c192 => by omega)
        refine V_aload_n 203 C dL_fades_202 rfl rfl ?_
        refine V_bipush 205 C dL_fades_203 rfl bip18 ?_
        refine V_iload_n 206 C dL_fades_205 rfl rfl ?_
        refine V_iload 208 C dL_fades_206 rfl rfl ?_
        refine V_iconst 209 C dL_fades_208 rfl ic0 ?_
        refine V_q2 212 (88) (528) C hQ hx dL_fades_209 rfl mL_call.z tw250 (k_later l G _ _ hl x σ2 hS hI2 _ _ _ _ ((v_later hs2 hIv2 (j := rgt σ.1 s 200 1) (by omega)).trans (congrArg nI (w4 _)))) rfl rfl ⟨Nat.le_of_ble_eq_true rfl, Nat.le_of_ble_eq_true rfl⟩ ⟨by omega, by omega⟩ ⟨by show _ ≤ 96; omega, by show _ ≤ 576; omega⟩ (Nat.le_of_ble_eq_true rfl) ?_
        clear hS hQ n h
        intro n h hS hQ
        refine V_iload 214 C dL_fades_212 rfl rfl ?_
        refine V_icmp_leN 244 217 C dL_fades_214 (by decide) rfl (by omega) (by omega) (fun c214 => by omega) (fun c214 => ?_)
        refine V_iload 219 C dL_fades_217 rfl rfl ?_
        refine V_iconst 220 C dL_fades_219 rfl ic1 ?_
        by_cases e1 : rgt σ.1 s 200 1 = 1
        · skip
          refine V_icmp_eqN 240 223 C dL_fades_220 (by decide) rfl (by omega) (by omega) (fun c220 => ?_) (fun c220 => by omega)
          refine V_iconst 241 C dL_fades_240 rfl ic1 ?_
          refine V_goto 245 C dL_fades_241 (by decide) ?_
          refine V_ireturn C dL_fades_245 rfl nar_1 (by omega) (by omega) ?_
          exact ⟨rfl, σ2, hy2, hJ2.up (by omega), hS, hQ⟩
        · skip
          have rq := r4 (rgt σ.1 s 200 1 - 1) (by omega)
          refine V_icmp_eqN 240 223 C dL_fades_220 (by decide) rfl (by omega) (by omega) (fun c220 => by omega) (fun c220 => ?_)
          refine V_aload_n 224 C dL_fades_223 rfl rfl ?_
          refine V_bipush 226 C dL_fades_224 rfl bip18 ?_
          refine V_iload_n 227 C dL_fades_226 rfl rfl ?_
          refine V_iload 229 C dL_fades_227 rfl rfl ?_
          refine V_iconst 230 C dL_fades_229 rfl ic1 ?_
          refine V_isubN 231 C dL_fades_230 rfl (by omega) ?_
          refine V_iconst 232 C dL_fades_231 rfl ic0 ?_
          refine V_q2 235 (92) (552) C hQ hx dL_fades_232 rfl mL_call.z tw250 (k_later l G _ _ hl x σ2 hS hI2 _ _ _ _ ((v_later hs2 hIv2 (j := rgt σ.1 s 200 1 - 1) (by omega)).trans (congrArg nI (w4 _)))) rfl rfl ⟨Nat.le_of_ble_eq_true rfl, Nat.le_of_ble_eq_true rfl⟩ ⟨by omega, by omega⟩ ⟨by show _ ≤ 96; omega, by show _ ≤ 576; omega⟩ (Nat.le_of_ble_eq_true rfl) ?_
          clear hS hQ n h
          intro n h hS hQ
          refine V_iload 237 C dL_fades_235 rfl rfl ?_
          refine V_icmp_gtN 244 240 C dL_fades_237 (by decide) rfl (by omega) (by omega) (fun c237 => by omega) (fun c237 => ?_)
          refine V_iconst 241 C dL_fades_240 rfl ic1 ?_
          refine V_goto 245 C dL_fades_241 (by decide) ?_
          refine V_ireturn C dL_fades_245 rfl nar_1 (by omega) (by omega) ?_
          exact ⟨rfl, σ2, hy2, hJ2.up (by omega), hS, hQ⟩
      · skip
        have rq := r4 n9 (by omega)
        refine V_icmp_geN 202 195 C dL_fades_192 (by decide) rfl (by omega) (by omega) (fun c192 => by omega) (fun c192 => ?_)
        refine V_iload 197 C dL_fades_195 rfl rfl ?_
        refine V_iload 199 C dL_fades_197 rfl rfl ?_
        refine V_icmp_gtN 244 202 C dL_fades_199 (by decide) rfl (by omega) (by omega) (fun c199 => by omega) (fun c199 => ?_)
        refine V_aload_n 203 C dL_fades_202 rfl rfl ?_
        refine V_bipush 205 C dL_fades_203 rfl bip18 ?_
        refine V_iload_n 206 C dL_fades_205 rfl rfl ?_
        refine V_iload 208 C dL_fades_206 rfl rfl ?_
        refine V_iconst 209 C dL_fades_208 rfl ic0 ?_
        refine V_q2 212 (88) (528) C hQ hx dL_fades_209 rfl mL_call.z tw250 (k_later l G _ _ hl x σ2 hS hI2 _ _ _ _ ((v_later hs2 hIv2 (j := rgt σ.1 s 200 1) (by omega)).trans (congrArg nI (w4 _)))) rfl rfl ⟨Nat.le_of_ble_eq_true rfl, Nat.le_of_ble_eq_true rfl⟩ ⟨by omega, by omega⟩ ⟨by show _ ≤ 96; omega, by show _ ≤ 576; omega⟩ (Nat.le_of_ble_eq_true rfl) ?_
        clear hS hQ n h
        intro n h hS hQ
        refine V_iload 214 C dL_fades_212 rfl rfl ?_
        refine V_icmp_leN 244 217 C dL_fades_214 (by decide) rfl (by omega) (by omega) (fun c214 => by omega) (fun c214 => ?_)
        refine V_iload 219 C dL_fades_217 rfl rfl ?_
        refine V_iconst 220 C dL_fades_219 rfl ic1 ?_
        by_cases e1 : rgt σ.1 s 200 1 = 1
        · skip
          refine V_icmp_eqN 240 223 C dL_fades_220 (by decide) rfl (by omega) (by omega) (fun c220 => ?_) (fun c220 => by omega)
          refine V_iconst 241 C dL_fades_240 rfl ic1 ?_
          refine V_goto 245 C dL_fades_241 (by decide) ?_
          refine V_ireturn C dL_fades_245 rfl nar_1 (by omega) (by omega) ?_
          exact ⟨rfl, σ2, hy2, hJ2.up (by omega), hS, hQ⟩
        · skip
          have rq := r4 (rgt σ.1 s 200 1 - 1) (by omega)
          refine V_icmp_eqN 240 223 C dL_fades_220 (by decide) rfl (by omega) (by omega) (fun c220 => by omega) (fun c220 => ?_)
          refine V_aload_n 224 C dL_fades_223 rfl rfl ?_
          refine V_bipush 226 C dL_fades_224 rfl bip18 ?_
          refine V_iload_n 227 C dL_fades_226 rfl rfl ?_
          refine V_iload 229 C dL_fades_227 rfl rfl ?_
          refine V_iconst 230 C dL_fades_229 rfl ic1 ?_
          refine V_isubN 231 C dL_fades_230 rfl (by omega) ?_
          refine V_iconst 232 C dL_fades_231 rfl ic0 ?_
          refine V_q2 235 (92) (552) C hQ hx dL_fades_232 rfl mL_call.z tw250 (k_later l G _ _ hl x σ2 hS hI2 _ _ _ _ ((v_later hs2 hIv2 (j := rgt σ.1 s 200 1 - 1) (by omega)).trans (congrArg nI (w4 _)))) rfl rfl ⟨Nat.le_of_ble_eq_true rfl, Nat.le_of_ble_eq_true rfl⟩ ⟨by omega, by omega⟩ ⟨by show _ ≤ 96; omega, by show _ ≤ 576; omega⟩ (Nat.le_of_ble_eq_true rfl) ?_
          clear hS hQ n h
          intro n h hS hQ
          refine V_iload 237 C dL_fades_235 rfl rfl ?_
          refine V_icmp_gtN 244 240 C dL_fades_237 (by decide) rfl (by omega) (by omega) (fun c237 => by omega) (fun c237 => ?_)
          refine V_iconst 241 C dL_fades_240 rfl ic1 ?_
          refine V_goto 245 C dL_fades_241 (by decide) ?_
          refine V_ireturn C dL_fades_245 rfl nar_1 (by omega) (by omega) ?_
          exact ⟨rfl, σ2, hy2, hJ2.up (by omega), hS, hQ⟩
  · skip
    refine V_if_ge 124 120 C dL_fades_117 (by decide) rfl  (fun c117 => by exact absurd c117 (lf_lt (by omega) (by omega))) (fun c117 => ?_)
    refine V_iconst 121 C dL_fades_120 rfl ic0 ?_
    refine V_goto 126 C dL_fades_121 (by decide) ?_
    refine V_icmp_neN 156 129 C dL_fades_126 (by decide) rfl (by omega) (by omega) (fun c126 => by omega) (fun c126 => ?_)
    refine V_aload_n 130 C dL_fades_129 rfl rfl ?_
    refine V_aload_n 131 C dL_fades_130 rfl rfl ?_
    refine V_iload 133 C dL_fades_131 rfl rfl ?_
    refine V_q3 136 (80) (480) C dL_fades_133 rfl mL_undoes.z tw951 (Eq.mp (by rw [eσ2]) (c_L_undoes l G _ _ hl x q hx σ1 hS hQ _ n9 hQJ (by omega)) : Ct l yL_undoes cL_undoes 5 (some .boolean) 11 24 144 G _ _ [.ref x, .ref q, .int (nI n9)] (PoT x q (nI 1) σ2 σ2)) rfl rfl ⟨Nat.le_of_ble_eq_true rfl, Nat.le_of_ble_eq_true rfl⟩ ⟨by omega, by omega⟩ ⟨by show _ ≤ 96; omega, by show _ ≤ 576; omega⟩ (Nat.le_of_ble_eq_true rfl) ?_
    clear hS hQ n h
    intro n h hS hQ
    refine V_if_eqN 156 139 C dL_fades_136 (by decide) rfl (by omega) (fun c136 => by omega) (fun c136 => ?_)
    refine V_aload_n 140 C dL_fades_139 rfl rfl ?_
    refine V_iconst 141 C dL_fades_140 rfl ic5 ?_
    refine V_iload_n 142 C dL_fades_141 rfl rfl ?_
    refine V_iconst 143 C dL_fades_142 rfl ic1 ?_
    refine V_iconst 144 C dL_fades_143 rfl ic0 ?_
    refine V_q2 147 (84) (504) C hQ hx dL_fades_144 rfl mL_call.z tw250 (k_sheet l G _ _ hl x σ2 hS hI2 _ _ _ _ (v_sh (w := σ.1 (58 + 6 * s + 2)) hs2 hIv2 (j := 1) (by omega) w3)) rfl rfl ⟨Nat.le_of_ble_eq_true rfl, Nat.le_of_ble_eq_true rfl⟩ ⟨by omega, by omega⟩ ⟨by show _ ≤ 96; omega, by show _ ≤ 576; omega⟩ (Nat.le_of_ble_eq_true rfl) ?_
    clear hS hQ n h
    intro n h hS hQ
    refine V_iload 149 C dL_fades_147 rfl rfl ?_
    refine V_icmp_neN 156 152 C dL_fades_149 (by decide) rfl (by omega) (by omega) (fun c149 => by omega) (fun c149 => ?_)
    refine V_iconst 153 C dL_fades_152 rfl ic1 ?_
    refine V_goto 157 C dL_fades_153 (by decide) ?_
    refine V_istore 159 C dL_fades_157 rfl (by decide) (L' := [(0, _), (1, _), (2, _), (3, _), (4, _), (5, _), (6, _), (7, _), (8, _), (9, _), (10, _), (11, _)]) rfl ?_
    refine V_iload 161 C dL_fades_159 rfl rfl ?_
    refine V_iconst 162 C dL_fades_161 rfl icm1 ?_
    rcases hr with ⟨r1, r2⟩ | ⟨r1, r2, r3, r4⟩
    · skip
      have rq := r2 n9 (by omega)
      have hN := NO_eq
      have hrb : rgt σ.1 s 200 1 < 2 ^ 32 := by omega
      refine V_icmp_neN 183 165 C dL_fades_162 (by decide) rfl (by omega) (by omega) (fun c162 => by omega) (fun c162 => ?_)
      refine V_iload 167 C dL_fades_165 rfl rfl ?_
      refine V_if_eqN 181 170 C dL_fades_167 (by decide) rfl (by omega) (fun c167 => by omega) (fun c167 => ?_)
      refine V_iload 172 C dL_fades_170 rfl rfl ?_
      refine V_iload 174 C dL_fades_172 rfl rfl ?_
      refine V_icmp_gtN 181 177 C dL_fades_174 (by decide) rfl (by omega) (by omega) (fun c174 => by omega) (fun c174 => ?_)
      refine V_iconst 178 C dL_fades_177 rfl ic1 ?_
      refine V_goto 182 C dL_fades_178 (by decide) ?_
      refine V_ireturn C dL_fades_182 rfl nar_1 (by omega) (by omega) ?_
      exact ⟨rfl, σ2, hy2, hJ2.up (by omega), hS, hQ⟩
    · skip
      have hrb : rgt σ.1 s 200 1 < 2 ^ 31 := by omega
      have er1 := ee (rgt σ.1 s 200 1)
      have er2 := ee (rgt σ.1 s 200 1 - 1)
      refine V_icmp_neN 183 165 C dL_fades_162 (by decide) rfl (by omega) (by omega) (fun c162 => ?_) (fun c162 => by omega)
      refine V_iload 185 C dL_fades_183 rfl rfl ?_
      refine V_if_eqN 244 188 C dL_fades_185 (by decide) rfl (by omega) (fun c185 => by omega) (fun c185 => ?_)
      refine V_iload 190 C dL_fades_188 rfl rfl ?_
      refine V_iload 192 C dL_fades_190 rfl rfl ?_
      by_cases e0 : rgt σ.1 s 200 1 ≤ n9
      · skip
        refine V_icmp_geN 202 195 C dL_fades_192 (by decide) rfl (by omega) (by omega) (fun c192 => ?_) (fun c192 => by omega)
        refine V_aload_n 203 C dL_fades_202 rfl rfl ?_
        refine V_bipush 205 C dL_fades_203 rfl bip18 ?_
        refine V_iload_n 206 C dL_fades_205 rfl rfl ?_
        refine V_iload 208 C dL_fades_206 rfl rfl ?_
        refine V_iconst 209 C dL_fades_208 rfl ic0 ?_
        refine V_q2 212 (88) (528) C hQ hx dL_fades_209 rfl mL_call.z tw250 (k_later l G _ _ hl x σ2 hS hI2 _ _ _ _ ((v_later hs2 hIv2 (j := rgt σ.1 s 200 1) (by omega)).trans (congrArg nI (w4 _)))) rfl rfl ⟨Nat.le_of_ble_eq_true rfl, Nat.le_of_ble_eq_true rfl⟩ ⟨by omega, by omega⟩ ⟨by show _ ≤ 96; omega, by show _ ≤ 576; omega⟩ (Nat.le_of_ble_eq_true rfl) ?_
        clear hS hQ n h
        intro n h hS hQ
        refine V_iload 214 C dL_fades_212 rfl rfl ?_
        refine V_icmp_leN 244 217 C dL_fades_214 (by decide) rfl (by omega) (by omega) (fun c214 => by omega) (fun c214 => ?_)
        refine V_iload 219 C dL_fades_217 rfl rfl ?_
        refine V_iconst 220 C dL_fades_219 rfl ic1 ?_
        by_cases e1 : rgt σ.1 s 200 1 = 1
        · skip
          refine V_icmp_eqN 240 223 C dL_fades_220 (by decide) rfl (by omega) (by omega) (fun c220 => ?_) (fun c220 => by omega)
          refine V_iconst 241 C dL_fades_240 rfl ic1 ?_
          refine V_goto 245 C dL_fades_241 (by decide) ?_
          refine V_ireturn C dL_fades_245 rfl nar_1 (by omega) (by omega) ?_
          exact ⟨rfl, σ2, hy2, hJ2.up (by omega), hS, hQ⟩
        · skip
          have rq := r4 (rgt σ.1 s 200 1 - 1) (by omega)
          refine V_icmp_eqN 240 223 C dL_fades_220 (by decide) rfl (by omega) (by omega) (fun c220 => by omega) (fun c220 => ?_)
          refine V_aload_n 224 C dL_fades_223 rfl rfl ?_
          refine V_bipush 226 C dL_fades_224 rfl bip18 ?_
          refine V_iload_n 227 C dL_fades_226 rfl rfl ?_
          refine V_iload 229 C dL_fades_227 rfl rfl ?_
          refine V_iconst 230 C dL_fades_229 rfl ic1 ?_
          refine V_isubN 231 C dL_fades_230 rfl (by omega) ?_
          refine V_iconst 232 C dL_fades_231 rfl ic0 ?_
          refine V_q2 235 (92) (552) C hQ hx dL_fades_232 rfl mL_call.z tw250 (k_later l G _ _ hl x σ2 hS hI2 _ _ _ _ ((v_later hs2 hIv2 (j := rgt σ.1 s 200 1 - 1) (by omega)).trans (congrArg nI (w4 _)))) rfl rfl ⟨Nat.le_of_ble_eq_true rfl, Nat.le_of_ble_eq_true rfl⟩ ⟨by omega, by omega⟩ ⟨by show _ ≤ 96; omega, by show _ ≤ 576; omega⟩ (Nat.le_of_ble_eq_true rfl) ?_
          clear hS hQ n h
          intro n h hS hQ
          refine V_iload 237 C dL_fades_235 rfl rfl ?_
          refine V_icmp_gtN 244 240 C dL_fades_237 (by decide) rfl (by omega) (by omega) (fun c237 => by omega) (fun c237 => ?_)
          refine V_iconst 241 C dL_fades_240 rfl ic1 ?_
          refine V_goto 245 C dL_fades_241 (by decide) ?_
          refine V_ireturn C dL_fades_245 rfl nar_1 (by omega) (by omega) ?_
          exact ⟨rfl, σ2, hy2, hJ2.up (by omega), hS, hQ⟩
      · skip
        have rq := r4 n9 (by omega)
        refine V_icmp_geN 202 195 C dL_fades_192 (by decide) rfl (by omega) (by omega) (fun c192 => by omega) (fun c192 => ?_)
        refine V_iload 197 C dL_fades_195 rfl rfl ?_
        refine V_iload 199 C dL_fades_197 rfl rfl ?_
        refine V_icmp_gtN 244 202 C dL_fades_199 (by decide) rfl (by omega) (by omega) (fun c199 => by omega) (fun c199 => ?_)
        refine V_aload_n 203 C dL_fades_202 rfl rfl ?_
        refine V_bipush 205 C dL_fades_203 rfl bip18 ?_
        refine V_iload_n 206 C dL_fades_205 rfl rfl ?_
        refine V_iload 208 C dL_fades_206 rfl rfl ?_
        refine V_iconst 209 C dL_fades_208 rfl ic0 ?_
        refine V_q2 212 (88) (528) C hQ hx dL_fades_209 rfl mL_call.z tw250 (k_later l G _ _ hl x σ2 hS hI2 _ _ _ _ ((v_later hs2 hIv2 (j := rgt σ.1 s 200 1) (by omega)).trans (congrArg nI (w4 _)))) rfl rfl ⟨Nat.le_of_ble_eq_true rfl, Nat.le_of_ble_eq_true rfl⟩ ⟨by omega, by omega⟩ ⟨by show _ ≤ 96; omega, by show _ ≤ 576; omega⟩ (Nat.le_of_ble_eq_true rfl) ?_
        clear hS hQ n h
        intro n h hS hQ
        refine V_iload 214 C dL_fades_212 rfl rfl ?_
        refine V_icmp_leN 244 217 C dL_fades_214 (by decide) rfl (by omega) (by omega) (fun c214 => by omega) (fun c214 => ?_)
        refine V_iload 219 C dL_fades_217 rfl rfl ?_
        refine V_iconst 220 C dL_fades_219 rfl ic1 ?_
        by_cases e1 : rgt σ.1 s 200 1 = 1
        · skip
          refine V_icmp_eqN 240 223 C dL_fades_220 (by decide) rfl (by omega) (by omega) (fun c220 => ?_) (fun c220 => by omega)
          refine V_iconst 241 C dL_fades_240 rfl ic1 ?_
          refine V_goto 245 C dL_fades_241 (by decide) ?_
          refine V_ireturn C dL_fades_245 rfl nar_1 (by omega) (by omega) ?_
          exact ⟨rfl, σ2, hy2, hJ2.up (by omega), hS, hQ⟩
        · skip
          have rq := r4 (rgt σ.1 s 200 1 - 1) (by omega)
          refine V_icmp_eqN 240 223 C dL_fades_220 (by decide) rfl (by omega) (by omega) (fun c220 => by omega) (fun c220 => ?_)
          refine V_aload_n 224 C dL_fades_223 rfl rfl ?_
          refine V_bipush 226 C dL_fades_224 rfl bip18 ?_
          refine V_iload_n 227 C dL_fades_226 rfl rfl ?_
          refine V_iload 229 C dL_fades_227 rfl rfl ?_
          refine V_iconst 230 C dL_fades_229 rfl ic1 ?_
          refine V_isubN 231 C dL_fades_230 rfl (by omega) ?_
          refine V_iconst 232 C dL_fades_231 rfl ic0 ?_
          refine V_q2 235 (92) (552) C hQ hx dL_fades_232 rfl mL_call.z tw250 (k_later l G _ _ hl x σ2 hS hI2 _ _ _ _ ((v_later hs2 hIv2 (j := rgt σ.1 s 200 1 - 1) (by omega)).trans (congrArg nI (w4 _)))) rfl rfl ⟨Nat.le_of_ble_eq_true rfl, Nat.le_of_ble_eq_true rfl⟩ ⟨by omega, by omega⟩ ⟨by show _ ≤ 96; omega, by show _ ≤ 576; omega⟩ (Nat.le_of_ble_eq_true rfl) ?_
          clear hS hQ n h
          intro n h hS hQ
          refine V_iload 237 C dL_fades_235 rfl rfl ?_
          refine V_icmp_gtN 244 240 C dL_fades_237 (by decide) rfl (by omega) (by omega) (fun c237 => by omega) (fun c237 => ?_)
          refine V_iconst 241 C dL_fades_240 rfl ic1 ?_
          refine V_goto 245 C dL_fades_241 (by decide) ?_
          refine V_ireturn C dL_fades_245 rfl nar_1 (by omega) (by omega) ?_
          exact ⟨rfl, σ2, hy2, hJ2.up (by omega), hS, hQ⟩

