/-! THE LAW'S REFUSALS -/
theorem ix0 {n : Nat} (h : 0 < n) : ix (nI 0) n := (ix_nI (by decide)).mpr h
theorem ixn {j n : Nat} (hn : n < 2 ^ 31) (h : j < n) : ix (nI j) n := (ix_nI (by omega)).mpr h
theorem twW {y : Nat → Nat} (h : ¬ y 0 < 6) : aTw y = (cW, y) := if_neg h
theorem rdN {y : Nat → Nat} {a b w : Int32} (h : ¬ (ix a (y 0) ∧ ix b (y 0))) : aRd y a b w = (cN, y) := if_neg h
theorem rdR {y : Nat → Nat} {a b w : Int32} (h : ix a (y 0) ∧ ix b (y 0)) (h2 : a = b ∨ ¬ (1 ≤ w.toInt ∧ w.toInt ≤ 20)) : aRd y a b w = (cR, y) := by unfold aRd; rw [if_pos h, if_pos h2]
theorem rdW {y : Nat → Nat} {a b w : Int32} (h : ix a (y 0) ∧ ix b (y 0)) (h2 : ¬ (a = b ∨ ¬ (1 ≤ w.toInt ∧ w.toInt ≤ 20))) (h3 : ¬ y 1 < 10) : aRd y a b w = (cW, y) := by unfold aRd; rw [if_pos h, if_neg h2, if_neg h3]
theorem ruN {y : Nat → Nat} {t : Int32} (h : ¬ ix t (y 0)) : aRu y t = (cN, y) := if_neg h
theorem ruW {y : Nat → Nat} {t : Int32} (h : ix t (y 0)) (h2 : ¬ y 2 < 5) : aRu y t = (cW, y) := by unfold aRu; rw [if_pos h, if_neg h2]
theorem wrN {y : Nat → Nat} {t d f : Int32} (h : ¬ ix t (y 0)) : aWr y t d f = (cN, y) := if_neg h
theorem wrR {y : Nat → Nat} {t d f : Int32} (h : ix t (y 0)) (h2 : ¬ (ix d 1000000 ∧ ix f 10)) : aWr y t d f = (cR, y) := by unfold aWr; rw [if_pos h, if_neg h2]
theorem wrW {y : Nat → Nat} {t d f : Int32} (h : ix t (y 0)) (h2 : ix d 1000000 ∧ ix f 10) (h3 : ¬ (y 3 < 6 ∧ y 4 < 12)) : aWr y t d f = (cW, y) := by unfold aWr; rw [if_pos h, if_pos h2, if_neg h3]
theorem tkN {y : Nat → Nat} {r s : Int32} (h : ¬ (ix r (y 2) ∧ ix s (y 4))) : aTk y r s = (cN, y) := if_neg h
theorem lyN {y : Nat → Nat} {s : Int32} (h : ¬ ix s (y 4)) : aLy y s = (cN, y) := if_neg h
theorem goN {y : Nat → Nat} {r w : Int32} (h : ¬ (ix r (y 2) ∧ ix w (y 1))) : aGo y r w = (cN, y) := if_neg h
theorem cpN {y : Nat → Nat} {s f : Int32} (h : ¬ ix s (y 4)) : aCp y s f = (cN, y) := if_neg h
theorem cpR {y : Nat → Nat} {s f : Int32} (h : ix s (y 4)) (h2 : ¬ ix f 10) : aCp y s f = (cR, y) := by unfold aCp; rw [if_pos h, if_neg h2]
theorem prN {y : Nat → Nat} {a b c f : Int32} (h : ¬ (ix a (y 4) ∧ ix b (y 4) ∧ ix c (y 4))) : aPr y a b c f = (cN, y) := if_neg h
theorem prR {y : Nat → Nat} {a b c f : Int32} (h : ix a (y 4) ∧ ix b (y 4) ∧ ix c (y 4)) (h2 : z a = z b) : aPr y a b c f = (cR, y) := by unfold aPr; rw [if_pos h, if_neg (fun e => e.1.1 h2)]
theorem hrR {y : Nat → Nat} {k : Int32} (h : ¬ (1 ≤ k.toInt ∧ k.toInt ≤ 60)) : aHr y k = (cR, y) := if_neg h
theorem nrng {j hi : Nat} (hj : j < 2 ^ 31) (h : hi < j) : ¬ (1 ≤ (nI j).toInt ∧ (nI j).toInt ≤ (hi : Int)) := by
  rw [nI_toInt hj]; omega
theorem n0r {hi : Int} : ¬ (1 ≤ (nI 0).toInt ∧ (nI 0).toInt ≤ hi) := fun h => absurd h.1 (by decide)
theorem sc0 {W : Int64} : ¬ ((1 ≤ (nI 0).toInt ∧ (nI 0).toInt ≤ 3) ∧ (0 ≤ W.toInt ∧ wz W < 100000 ^ z (nI 0))) := fun h => absurd h.1.1 (by decide)
theorem i2lN {X : Nat} (hX : X < 2 ^ 31) : (nI X).toInt64 = lN X := by
  apply Int64.toInt_inj.mp
  rw [Int32.toInt_toInt64, nI_toInt hX, pk_lT (by omega)]
theorem sc1 {X : Nat} (hX : X < 2 ^ 31) : ¬ ((1 ≤ (nI 1).toInt ∧ (nI 1).toInt ≤ 3) ∧ (0 ≤ (100000 + (nI X).toInt64).toInt ∧ wz (100000 + (nI X).toInt64) < 100000 ^ z (nI 1))) := fun h => by
  have h2 := h.2.2
  have e : (100000 + (nI X).toInt64) = lN (100000 + X) := by
    rw [i2lN hX]
    apply Int64.toInt_inj.mp
    rw [Int64.toInt_add, pk_lT (by omega), pk_lT (by omega), show (100000 : Int64).toInt = 100000 from by decide]
    rw [Int.bmod_eq_of_le (by omega) (by omega)]
    omega
  rw [e, wzn (by omega), show z (nI 1) = 1 from by decide, Nat.pow_one] at h2
  omega
theorem dL_refuses_0 : decode cL_refuses 0 = .ok (.aload_n 0, 1) := by decide +kernel
theorem dL_refuses_1 : decode cL_refuses 1 = .ok (.iconst 2, 1) := by decide +kernel
theorem dL_refuses_2 : decode cL_refuses 2 = .ok (.iconst 0, 1) := by decide +kernel
theorem dL_refuses_3 : decode cL_refuses 3 = .ok (.iconst 0, 1) := by decide +kernel
theorem dL_refuses_4 : decode cL_refuses 4 = .ok (.iconst 0, 1) := by decide +kernel
theorem dL_refuses_5 : decode cL_refuses 5 = .ok (.invokestatic 198, 3) := by decide +kernel
theorem dL_refuses_8 : decode cL_refuses 8 = .ok (.istore_n 2, 1) := by decide +kernel
theorem dL_refuses_9 : decode cL_refuses 9 = .ok (.aload_n 0, 1) := by decide +kernel
theorem dL_refuses_10 : decode cL_refuses 10 = .ok (.iconst 2, 1) := by decide +kernel
theorem dL_refuses_11 : decode cL_refuses 11 = .ok (.iconst 1, 1) := by decide +kernel
theorem dL_refuses_12 : decode cL_refuses 12 = .ok (.iconst 0, 1) := by decide +kernel
theorem dL_refuses_13 : decode cL_refuses 13 = .ok (.iconst 0, 1) := by decide +kernel
theorem dL_refuses_14 : decode cL_refuses 14 = .ok (.invokestatic 198, 3) := by decide +kernel
theorem dL_refuses_17 : decode cL_refuses 17 = .ok (.istore_n 3, 1) := by decide +kernel
theorem dL_refuses_18 : decode cL_refuses 18 = .ok (.aload_n 0, 1) := by decide +kernel
theorem dL_refuses_19 : decode cL_refuses 19 = .ok (.iconst 2, 1) := by decide +kernel
theorem dL_refuses_20 : decode cL_refuses 20 = .ok (.iconst 2, 1) := by decide +kernel
theorem dL_refuses_21 : decode cL_refuses 21 = .ok (.iconst 0, 1) := by decide +kernel
theorem dL_refuses_22 : decode cL_refuses 22 = .ok (.iconst 0, 1) := by decide +kernel
theorem dL_refuses_23 : decode cL_refuses 23 = .ok (.invokestatic 198, 3) := by decide +kernel
theorem dL_refuses_26 : decode cL_refuses 26 = .ok (.istore 4, 2) := by decide +kernel
theorem dL_refuses_28 : decode cL_refuses 28 = .ok (.aload_n 0, 1) := by decide +kernel
theorem dL_refuses_29 : decode cL_refuses 29 = .ok (.iconst 2, 1) := by decide +kernel
theorem dL_refuses_30 : decode cL_refuses 30 = .ok (.iconst 4, 1) := by decide +kernel
theorem dL_refuses_31 : decode cL_refuses 31 = .ok (.iconst 0, 1) := by decide +kernel
theorem dL_refuses_32 : decode cL_refuses 32 = .ok (.iconst 0, 1) := by decide +kernel
theorem dL_refuses_33 : decode cL_refuses 33 = .ok (.invokestatic 198, 3) := by decide +kernel
theorem dL_refuses_36 : decode cL_refuses 36 = .ok (.istore 5, 2) := by decide +kernel
theorem dL_refuses_38 : decode cL_refuses 38 = .ok (.iload_n 1, 1) := by decide +kernel
theorem dL_refuses_39 : decode cL_refuses 39 = .ok (.iconst 2, 1) := by decide +kernel
theorem dL_refuses_40 : decode cL_refuses 40 = .ok (.irem, 1) := by decide +kernel
theorem dL_refuses_41 : decode cL_refuses 41 = .ok (.ifCond .ne 12, 3) := by decide +kernel
theorem dL_refuses_44 : decode cL_refuses 44 = .ok (.iconst (-1), 1) := by decide +kernel
theorem dL_refuses_45 : decode cL_refuses 45 = .ok (.iload_n 1, 1) := by decide +kernel
theorem dL_refuses_46 : decode cL_refuses 46 = .ok (.bipush 99, 2) := by decide +kernel
theorem dL_refuses_48 : decode cL_refuses 48 = .ok (.irem, 1) := by decide +kernel
theorem dL_refuses_49 : decode cL_refuses 49 = .ok (.isub, 1) := by decide +kernel
theorem dL_refuses_50 : decode cL_refuses 50 = .ok (.goto 9, 3) := by decide +kernel
theorem dL_refuses_53 : decode cL_refuses 53 = .ok (.iload_n 2, 1) := by decide +kernel
theorem dL_refuses_54 : decode cL_refuses 54 = .ok (.iload_n 1, 1) := by decide +kernel
theorem dL_refuses_55 : decode cL_refuses 55 = .ok (.bipush 99, 2) := by decide +kernel
theorem dL_refuses_57 : decode cL_refuses 57 = .ok (.irem, 1) := by decide +kernel
theorem dL_refuses_58 : decode cL_refuses 58 = .ok (.iadd, 1) := by decide +kernel
theorem dL_refuses_59 : decode cL_refuses 59 = .ok (.istore 6, 2) := by decide +kernel
theorem dL_refuses_61 : decode cL_refuses 61 = .ok (.iload_n 1, 1) := by decide +kernel
theorem dL_refuses_62 : decode cL_refuses 62 = .ok (.iconst 2, 1) := by decide +kernel
theorem dL_refuses_63 : decode cL_refuses 63 = .ok (.irem, 1) := by decide +kernel
theorem dL_refuses_64 : decode cL_refuses 64 = .ok (.ifCond .ne 12, 3) := by decide +kernel
theorem dL_refuses_67 : decode cL_refuses 67 = .ok (.iconst (-1), 1) := by decide +kernel
theorem dL_refuses_68 : decode cL_refuses 68 = .ok (.iload_n 1, 1) := by decide +kernel
theorem dL_refuses_69 : decode cL_refuses 69 = .ok (.bipush 99, 2) := by decide +kernel
theorem dL_refuses_71 : decode cL_refuses 71 = .ok (.irem, 1) := by decide +kernel
theorem dL_refuses_72 : decode cL_refuses 72 = .ok (.isub, 1) := by decide +kernel
theorem dL_refuses_73 : decode cL_refuses 73 = .ok (.goto 10, 3) := by decide +kernel
theorem dL_refuses_76 : decode cL_refuses 76 = .ok (.iload 4, 2) := by decide +kernel
theorem dL_refuses_78 : decode cL_refuses 78 = .ok (.iload_n 1, 1) := by decide +kernel
theorem dL_refuses_79 : decode cL_refuses 79 = .ok (.bipush 99, 2) := by decide +kernel
theorem dL_refuses_81 : decode cL_refuses 81 = .ok (.irem, 1) := by decide +kernel
theorem dL_refuses_82 : decode cL_refuses 82 = .ok (.iadd, 1) := by decide +kernel
theorem dL_refuses_83 : decode cL_refuses 83 = .ok (.istore 7, 2) := by decide +kernel
theorem dL_refuses_85 : decode cL_refuses 85 = .ok (.iload_n 1, 1) := by decide +kernel
theorem dL_refuses_86 : decode cL_refuses 86 = .ok (.iconst 2, 1) := by decide +kernel
theorem dL_refuses_87 : decode cL_refuses 87 = .ok (.irem, 1) := by decide +kernel
theorem dL_refuses_88 : decode cL_refuses 88 = .ok (.ifCond .ne 12, 3) := by decide +kernel
theorem dL_refuses_91 : decode cL_refuses 91 = .ok (.iconst (-1), 1) := by decide +kernel
theorem dL_refuses_92 : decode cL_refuses 92 = .ok (.iload_n 1, 1) := by decide +kernel
theorem dL_refuses_93 : decode cL_refuses 93 = .ok (.bipush 99, 2) := by decide +kernel
theorem dL_refuses_95 : decode cL_refuses 95 = .ok (.irem, 1) := by decide +kernel
theorem dL_refuses_96 : decode cL_refuses 96 = .ok (.isub, 1) := by decide +kernel
theorem dL_refuses_97 : decode cL_refuses 97 = .ok (.goto 10, 3) := by decide +kernel
theorem dL_refuses_100 : decode cL_refuses 100 = .ok (.iload 5, 2) := by decide +kernel
theorem dL_refuses_102 : decode cL_refuses 102 = .ok (.iload_n 1, 1) := by decide +kernel
theorem dL_refuses_103 : decode cL_refuses 103 = .ok (.bipush 99, 2) := by decide +kernel
theorem dL_refuses_105 : decode cL_refuses 105 = .ok (.irem, 1) := by decide +kernel
theorem dL_refuses_106 : decode cL_refuses 106 = .ok (.iadd, 1) := by decide +kernel
theorem dL_refuses_107 : decode cL_refuses 107 = .ok (.istore 8, 2) := by decide +kernel
theorem dL_refuses_109 : decode cL_refuses 109 = .ok (.iload_n 1, 1) := by decide +kernel
theorem dL_refuses_110 : decode cL_refuses 110 = .ok (.iconst 2, 1) := by decide +kernel
theorem dL_refuses_111 : decode cL_refuses 111 = .ok (.irem, 1) := by decide +kernel
theorem dL_refuses_112 : decode cL_refuses 112 = .ok (.ifCond .ne 12, 3) := by decide +kernel
theorem dL_refuses_115 : decode cL_refuses 115 = .ok (.iconst (-1), 1) := by decide +kernel
theorem dL_refuses_116 : decode cL_refuses 116 = .ok (.iload_n 1, 1) := by decide +kernel
theorem dL_refuses_117 : decode cL_refuses 117 = .ok (.bipush 99, 2) := by decide +kernel
theorem dL_refuses_119 : decode cL_refuses 119 = .ok (.irem, 1) := by decide +kernel
theorem dL_refuses_120 : decode cL_refuses 120 = .ok (.isub, 1) := by decide +kernel
theorem dL_refuses_121 : decode cL_refuses 121 = .ok (.goto 9, 3) := by decide +kernel
theorem dL_refuses_124 : decode cL_refuses 124 = .ok (.iload_n 3, 1) := by decide +kernel
theorem dL_refuses_125 : decode cL_refuses 125 = .ok (.iload_n 1, 1) := by decide +kernel
theorem dL_refuses_126 : decode cL_refuses 126 = .ok (.bipush 99, 2) := by decide +kernel
theorem dL_refuses_128 : decode cL_refuses 128 = .ok (.irem, 1) := by decide +kernel
theorem dL_refuses_129 : decode cL_refuses 129 = .ok (.iadd, 1) := by decide +kernel
theorem dL_refuses_130 : decode cL_refuses 130 = .ok (.istore 9, 2) := by decide +kernel
theorem dL_refuses_132 : decode cL_refuses 132 = .ok (.aload_n 0, 1) := by decide +kernel
theorem dL_refuses_133 : decode cL_refuses 133 = .ok (.iconst 0, 1) := by decide +kernel
theorem dL_refuses_134 : decode cL_refuses 134 = .ok (.iload_n 1, 1) := by decide +kernel
theorem dL_refuses_135 : decode cL_refuses 135 = .ok (.iconst 2, 1) := by decide +kernel
theorem dL_refuses_136 : decode cL_refuses 136 = .ok (.irem, 1) := by decide +kernel
theorem dL_refuses_137 : decode cL_refuses 137 = .ok (.ifCond .ne 12, 3) := by decide +kernel
theorem dL_refuses_140 : decode cL_refuses 140 = .ok (.iconst (-1), 1) := by decide +kernel
theorem dL_refuses_141 : decode cL_refuses 141 = .ok (.iload_n 1, 1) := by decide +kernel
theorem dL_refuses_142 : decode cL_refuses 142 = .ok (.bipush 9, 2) := by decide +kernel
theorem dL_refuses_144 : decode cL_refuses 144 = .ok (.irem, 1) := by decide +kernel
theorem dL_refuses_145 : decode cL_refuses 145 = .ok (.isub, 1) := by decide +kernel
theorem dL_refuses_146 : decode cL_refuses 146 = .ok (.goto 11, 3) := by decide +kernel
theorem dL_refuses_149 : decode cL_refuses 149 = .ok (.sipush 256, 3) := by decide +kernel
theorem dL_refuses_152 : decode cL_refuses 152 = .ok (.iload_n 1, 1) := by decide +kernel
theorem dL_refuses_153 : decode cL_refuses 153 = .ok (.bipush 9, 2) := by decide +kernel
theorem dL_refuses_155 : decode cL_refuses 155 = .ok (.irem, 1) := by decide +kernel
theorem dL_refuses_156 : decode cL_refuses 156 = .ok (.iadd, 1) := by decide +kernel
theorem dL_refuses_157 : decode cL_refuses 157 = .ok (.iconst 0, 1) := by decide +kernel
theorem dL_refuses_158 : decode cL_refuses 158 = .ok (.iconst 0, 1) := by decide +kernel
theorem dL_refuses_159 : decode cL_refuses 159 = .ok (.invokestatic 198, 3) := by decide +kernel
theorem dL_refuses_162 : decode cL_refuses 162 = .ok (.ldc 18, 2) := by decide +kernel
theorem dL_refuses_164 : decode cL_refuses 164 = .ok (.if_icmp .ne 801, 3) := by decide +kernel
theorem dL_refuses_167 : decode cL_refuses 167 = .ok (.aload_n 0, 1) := by decide +kernel
theorem dL_refuses_168 : decode cL_refuses 168 = .ok (.iconst 2, 1) := by decide +kernel
theorem dL_refuses_169 : decode cL_refuses 169 = .ok (.bipush 10, 2) := by decide +kernel
theorem dL_refuses_171 : decode cL_refuses 171 = .ok (.iload_n 1, 1) := by decide +kernel
theorem dL_refuses_172 : decode cL_refuses 172 = .ok (.bipush 50, 2) := by decide +kernel
theorem dL_refuses_174 : decode cL_refuses 174 = .ok (.irem, 1) := by decide +kernel
theorem dL_refuses_175 : decode cL_refuses 175 = .ok (.iadd, 1) := by decide +kernel
theorem dL_refuses_176 : decode cL_refuses 176 = .ok (.iconst 0, 1) := by decide +kernel
theorem dL_refuses_177 : decode cL_refuses 177 = .ok (.iconst 0, 1) := by decide +kernel
theorem dL_refuses_178 : decode cL_refuses 178 = .ok (.invokestatic 198, 3) := by decide +kernel
theorem dL_refuses_181 : decode cL_refuses 181 = .ok (.ldc 18, 2) := by decide +kernel
theorem dL_refuses_183 : decode cL_refuses 183 = .ok (.if_icmp .ne 782, 3) := by decide +kernel
theorem dL_refuses_186 : decode cL_refuses 186 = .ok (.aload_n 0, 1) := by decide +kernel
theorem dL_refuses_187 : decode cL_refuses 187 = .ok (.iconst 3, 1) := by decide +kernel
theorem dL_refuses_188 : decode cL_refuses 188 = .ok (.iload 9, 2) := by decide +kernel
theorem dL_refuses_190 : decode cL_refuses 190 = .ok (.bipush 99, 2) := by decide +kernel
theorem dL_refuses_192 : decode cL_refuses 192 = .ok (.iconst 0, 1) := by decide +kernel
theorem dL_refuses_193 : decode cL_refuses 193 = .ok (.invokestatic 198, 3) := by decide +kernel
theorem dL_refuses_196 : decode cL_refuses 196 = .ok (.ldc 15, 2) := by decide +kernel
theorem dL_refuses_198 : decode cL_refuses 198 = .ok (.if_icmp .ne 767, 3) := by decide +kernel
theorem dL_refuses_201 : decode cL_refuses 201 = .ok (.aload_n 0, 1) := by decide +kernel
theorem dL_refuses_202 : decode cL_refuses 202 = .ok (.iconst 4, 1) := by decide +kernel
theorem dL_refuses_203 : decode cL_refuses 203 = .ok (.iload 7, 2) := by decide +kernel
theorem dL_refuses_205 : decode cL_refuses 205 = .ok (.bipush 99, 2) := by decide +kernel
theorem dL_refuses_207 : decode cL_refuses 207 = .ok (.iconst 0, 1) := by decide +kernel
theorem dL_refuses_208 : decode cL_refuses 208 = .ok (.invokestatic 198, 3) := by decide +kernel
theorem dL_refuses_211 : decode cL_refuses 211 = .ok (.ldc 15, 2) := by decide +kernel
theorem dL_refuses_213 : decode cL_refuses 213 = .ok (.if_icmp .ne 752, 3) := by decide +kernel
theorem dL_refuses_216 : decode cL_refuses 216 = .ok (.aload_n 0, 1) := by decide +kernel
theorem dL_refuses_217 : decode cL_refuses 217 = .ok (.iconst 4, 1) := by decide +kernel
theorem dL_refuses_218 : decode cL_refuses 218 = .ok (.iconst 0, 1) := by decide +kernel
theorem dL_refuses_219 : decode cL_refuses 219 = .ok (.iconst 4, 1) := by decide +kernel
theorem dL_refuses_220 : decode cL_refuses 220 = .ok (.iload_n 1, 1) := by decide +kernel
theorem dL_refuses_221 : decode cL_refuses 221 = .ok (.bipush 9, 2) := by decide +kernel
theorem dL_refuses_223 : decode cL_refuses 223 = .ok (.irem, 1) := by decide +kernel
theorem dL_refuses_224 : decode cL_refuses 224 = .ok (.iadd, 1) := by decide +kernel
theorem dL_refuses_225 : decode cL_refuses 225 = .ok (.iconst 0, 1) := by decide +kernel
theorem dL_refuses_226 : decode cL_refuses 226 = .ok (.invokestatic 198, 3) := by decide +kernel
theorem dL_refuses_229 : decode cL_refuses 229 = .ok (.ldc 18, 2) := by decide +kernel
theorem dL_refuses_231 : decode cL_refuses 231 = .ok (.if_icmp .ne 734, 3) := by decide +kernel
theorem dL_refuses_234 : decode cL_refuses 234 = .ok (.aload_n 0, 1) := by decide +kernel
theorem dL_refuses_235 : decode cL_refuses 235 = .ok (.iconst 5, 1) := by decide +kernel
theorem dL_refuses_236 : decode cL_refuses 236 = .ok (.iload 8, 2) := by decide +kernel
theorem dL_refuses_238 : decode cL_refuses 238 = .ok (.bipush 99, 2) := by decide +kernel
theorem dL_refuses_240 : decode cL_refuses 240 = .ok (.iconst 0, 1) := by decide +kernel
theorem dL_refuses_241 : decode cL_refuses 241 = .ok (.invokestatic 198, 3) := by decide +kernel
theorem dL_refuses_244 : decode cL_refuses 244 = .ok (.ldc 15, 2) := by decide +kernel
theorem dL_refuses_246 : decode cL_refuses 246 = .ok (.if_icmp .ne 719, 3) := by decide +kernel
theorem dL_refuses_249 : decode cL_refuses 249 = .ok (.aload_n 0, 1) := by decide +kernel
theorem dL_refuses_250 : decode cL_refuses 250 = .ok (.iconst 5, 1) := by decide +kernel
theorem dL_refuses_251 : decode cL_refuses 251 = .ok (.iconst 0, 1) := by decide +kernel
theorem dL_refuses_252 : decode cL_refuses 252 = .ok (.bipush 8, 2) := by decide +kernel
theorem dL_refuses_254 : decode cL_refuses 254 = .ok (.iload_n 1, 1) := by decide +kernel
theorem dL_refuses_255 : decode cL_refuses 255 = .ok (.bipush 9, 2) := by decide +kernel
theorem dL_refuses_257 : decode cL_refuses 257 = .ok (.irem, 1) := by decide +kernel
theorem dL_refuses_258 : decode cL_refuses 258 = .ok (.iadd, 1) := by decide +kernel
theorem dL_refuses_259 : decode cL_refuses 259 = .ok (.iconst 0, 1) := by decide +kernel
theorem dL_refuses_260 : decode cL_refuses 260 = .ok (.invokestatic 198, 3) := by decide +kernel
theorem dL_refuses_263 : decode cL_refuses 263 = .ok (.ldc 18, 2) := by decide +kernel
theorem dL_refuses_265 : decode cL_refuses 265 = .ok (.if_icmp .ne 700, 3) := by decide +kernel
theorem dL_refuses_268 : decode cL_refuses 268 = .ok (.aload_n 0, 1) := by decide +kernel
theorem dL_refuses_269 : decode cL_refuses 269 = .ok (.bipush 6, 2) := by decide +kernel
theorem dL_refuses_271 : decode cL_refuses 271 = .ok (.aload_n 0, 1) := by decide +kernel
theorem dL_refuses_272 : decode cL_refuses 272 = .ok (.iconst 2, 1) := by decide +kernel
theorem dL_refuses_273 : decode cL_refuses 273 = .ok (.iconst 3, 1) := by decide +kernel
theorem dL_refuses_274 : decode cL_refuses 274 = .ok (.iconst 0, 1) := by decide +kernel
theorem dL_refuses_275 : decode cL_refuses 275 = .ok (.iconst 0, 1) := by decide +kernel
theorem dL_refuses_276 : decode cL_refuses 276 = .ok (.invokestatic 198, 3) := by decide +kernel
theorem dL_refuses_279 : decode cL_refuses 279 = .ok (.iload_n 1, 1) := by decide +kernel
theorem dL_refuses_280 : decode cL_refuses 280 = .ok (.bipush 9, 2) := by decide +kernel
theorem dL_refuses_282 : decode cL_refuses 282 = .ok (.irem, 1) := by decide +kernel
theorem dL_refuses_283 : decode cL_refuses 283 = .ok (.iadd, 1) := by decide +kernel
theorem dL_refuses_284 : decode cL_refuses 284 = .ok (.iconst 0, 1) := by decide +kernel
theorem dL_refuses_285 : decode cL_refuses 285 = .ok (.iconst 0, 1) := by decide +kernel
theorem dL_refuses_286 : decode cL_refuses 286 = .ok (.invokestatic 198, 3) := by decide +kernel
theorem dL_refuses_289 : decode cL_refuses 289 = .ok (.ldc 15, 2) := by decide +kernel
theorem dL_refuses_291 : decode cL_refuses 291 = .ok (.if_icmp .ne 674, 3) := by decide +kernel
theorem dL_refuses_294 : decode cL_refuses 294 = .ok (.aload_n 0, 1) := by decide +kernel
theorem dL_refuses_295 : decode cL_refuses 295 = .ok (.bipush 8, 2) := by decide +kernel
theorem dL_refuses_297 : decode cL_refuses 297 = .ok (.iload 6, 2) := by decide +kernel
theorem dL_refuses_299 : decode cL_refuses 299 = .ok (.iconst 0, 1) := by decide +kernel
theorem dL_refuses_300 : decode cL_refuses 300 = .ok (.iconst 0, 1) := by decide +kernel
theorem dL_refuses_301 : decode cL_refuses 301 = .ok (.invokestatic 198, 3) := by decide +kernel
theorem dL_refuses_304 : decode cL_refuses 304 = .ok (.ldc 15, 2) := by decide +kernel
theorem dL_refuses_306 : decode cL_refuses 306 = .ok (.if_icmp .ne 659, 3) := by decide +kernel
theorem dL_refuses_309 : decode cL_refuses 309 = .ok (.aload_n 0, 1) := by decide +kernel
theorem dL_refuses_310 : decode cL_refuses 310 = .ok (.bipush 8, 2) := by decide +kernel
theorem dL_refuses_312 : decode cL_refuses 312 = .ok (.iconst 0, 1) := by decide +kernel
theorem dL_refuses_313 : decode cL_refuses 313 = .ok (.iload 6, 2) := by decide +kernel
theorem dL_refuses_315 : decode cL_refuses 315 = .ok (.iconst 0, 1) := by decide +kernel
theorem dL_refuses_316 : decode cL_refuses 316 = .ok (.invokestatic 198, 3) := by decide +kernel
theorem dL_refuses_319 : decode cL_refuses 319 = .ok (.ldc 15, 2) := by decide +kernel
theorem dL_refuses_321 : decode cL_refuses 321 = .ok (.if_icmp .ne 644, 3) := by decide +kernel
theorem dL_refuses_324 : decode cL_refuses 324 = .ok (.aload_n 0, 1) := by decide +kernel
theorem dL_refuses_325 : decode cL_refuses 325 = .ok (.bipush 8, 2) := by decide +kernel
theorem dL_refuses_327 : decode cL_refuses 327 = .ok (.iconst 0, 1) := by decide +kernel
theorem dL_refuses_328 : decode cL_refuses 328 = .ok (.iconst 0, 1) := by decide +kernel
theorem dL_refuses_329 : decode cL_refuses 329 = .ok (.iconst 5, 1) := by decide +kernel
theorem dL_refuses_330 : decode cL_refuses 330 = .ok (.invokestatic 198, 3) := by decide +kernel
theorem dL_refuses_333 : decode cL_refuses 333 = .ok (.ldc 18, 2) := by decide +kernel
theorem dL_refuses_335 : decode cL_refuses 335 = .ok (.if_icmp .ne 630, 3) := by decide +kernel
theorem dL_refuses_338 : decode cL_refuses 338 = .ok (.aload_n 0, 1) := by decide +kernel
theorem dL_refuses_339 : decode cL_refuses 339 = .ok (.bipush 8, 2) := by decide +kernel
theorem dL_refuses_341 : decode cL_refuses 341 = .ok (.iconst 0, 1) := by decide +kernel
theorem dL_refuses_342 : decode cL_refuses 342 = .ok (.iconst 1, 1) := by decide +kernel
theorem dL_refuses_343 : decode cL_refuses 343 = .ok (.iload_n 1, 1) := by decide +kernel
theorem dL_refuses_344 : decode cL_refuses 344 = .ok (.iconst 2, 1) := by decide +kernel
theorem dL_refuses_345 : decode cL_refuses 345 = .ok (.irem, 1) := by decide +kernel
theorem dL_refuses_346 : decode cL_refuses 346 = .ok (.ifCond .ne 7, 3) := by decide +kernel
theorem dL_refuses_349 : decode cL_refuses 349 = .ok (.iconst 0, 1) := by decide +kernel
theorem dL_refuses_350 : decode cL_refuses 350 = .ok (.goto 10, 3) := by decide +kernel
theorem dL_refuses_353 : decode cL_refuses 353 = .ok (.bipush 21, 2) := by decide +kernel
theorem dL_refuses_355 : decode cL_refuses 355 = .ok (.iload_n 1, 1) := by decide +kernel
theorem dL_refuses_356 : decode cL_refuses 356 = .ok (.bipush 9, 2) := by decide +kernel
theorem dL_refuses_358 : decode cL_refuses 358 = .ok (.irem, 1) := by decide +kernel
theorem dL_refuses_359 : decode cL_refuses 359 = .ok (.iadd, 1) := by decide +kernel
theorem dL_refuses_360 : decode cL_refuses 360 = .ok (.invokestatic 198, 3) := by decide +kernel
theorem dL_refuses_363 : decode cL_refuses 363 = .ok (.ldc 18, 2) := by decide +kernel
theorem dL_refuses_365 : decode cL_refuses 365 = .ok (.if_icmp .ne 600, 3) := by decide +kernel
theorem dL_refuses_368 : decode cL_refuses 368 = .ok (.aload_n 0, 1) := by decide +kernel
theorem dL_refuses_369 : decode cL_refuses 369 = .ok (.bipush 9, 2) := by decide +kernel
theorem dL_refuses_371 : decode cL_refuses 371 = .ok (.iload 6, 2) := by decide +kernel
theorem dL_refuses_373 : decode cL_refuses 373 = .ok (.iconst 0, 1) := by decide +kernel
theorem dL_refuses_374 : decode cL_refuses 374 = .ok (.iconst 0, 1) := by decide +kernel
theorem dL_refuses_375 : decode cL_refuses 375 = .ok (.invokestatic 198, 3) := by decide +kernel
theorem dL_refuses_378 : decode cL_refuses 378 = .ok (.ldc 15, 2) := by decide +kernel
theorem dL_refuses_380 : decode cL_refuses 380 = .ok (.if_icmp .ne 585, 3) := by decide +kernel
theorem dL_refuses_383 : decode cL_refuses 383 = .ok (.aload_n 0, 1) := by decide +kernel
theorem dL_refuses_384 : decode cL_refuses 384 = .ok (.bipush 10, 2) := by decide +kernel
theorem dL_refuses_386 : decode cL_refuses 386 = .ok (.iload 6, 2) := by decide +kernel
theorem dL_refuses_388 : decode cL_refuses 388 = .ok (.iconst 0, 1) := by decide +kernel
theorem dL_refuses_389 : decode cL_refuses 389 = .ok (.iconst 0, 1) := by decide +kernel
theorem dL_refuses_390 : decode cL_refuses 390 = .ok (.invokestatic 198, 3) := by decide +kernel
theorem dL_refuses_393 : decode cL_refuses 393 = .ok (.ldc 15, 2) := by decide +kernel
theorem dL_refuses_395 : decode cL_refuses 395 = .ok (.if_icmp .ne 570, 3) := by decide +kernel
theorem dL_refuses_398 : decode cL_refuses 398 = .ok (.aload_n 0, 1) := by decide +kernel
theorem dL_refuses_399 : decode cL_refuses 399 = .ok (.bipush 10, 2) := by decide +kernel
theorem dL_refuses_401 : decode cL_refuses 401 = .ok (.iconst 0, 1) := by decide +kernel
theorem dL_refuses_402 : decode cL_refuses 402 = .ok (.iload_n 1, 1) := by decide +kernel
theorem dL_refuses_403 : decode cL_refuses 403 = .ok (.iconst 2, 1) := by decide +kernel
theorem dL_refuses_404 : decode cL_refuses 404 = .ok (.irem, 1) := by decide +kernel
theorem dL_refuses_405 : decode cL_refuses 405 = .ok (.ifCond .ne 12, 3) := by decide +kernel
theorem dL_refuses_408 : decode cL_refuses 408 = .ok (.iconst (-1), 1) := by decide +kernel
theorem dL_refuses_409 : decode cL_refuses 409 = .ok (.iload_n 1, 1) := by decide +kernel
theorem dL_refuses_410 : decode cL_refuses 410 = .ok (.bipush 9, 2) := by decide +kernel
theorem dL_refuses_412 : decode cL_refuses 412 = .ok (.irem, 1) := by decide +kernel
theorem dL_refuses_413 : decode cL_refuses 413 = .ok (.isub, 1) := by decide +kernel
theorem dL_refuses_414 : decode cL_refuses 414 = .ok (.goto 10, 3) := by decide +kernel
theorem dL_refuses_417 : decode cL_refuses 417 = .ok (.ldc 202, 2) := by decide +kernel
theorem dL_refuses_419 : decode cL_refuses 419 = .ok (.iload_n 1, 1) := by decide +kernel
theorem dL_refuses_420 : decode cL_refuses 420 = .ok (.bipush 9, 2) := by decide +kernel
theorem dL_refuses_422 : decode cL_refuses 422 = .ok (.irem, 1) := by decide +kernel
theorem dL_refuses_423 : decode cL_refuses 423 = .ok (.iadd, 1) := by decide +kernel
theorem dL_refuses_424 : decode cL_refuses 424 = .ok (.iconst 0, 1) := by decide +kernel
theorem dL_refuses_425 : decode cL_refuses 425 = .ok (.invokestatic 198, 3) := by decide +kernel
theorem dL_refuses_428 : decode cL_refuses 428 = .ok (.ldc 18, 2) := by decide +kernel
theorem dL_refuses_430 : decode cL_refuses 430 = .ok (.if_icmp .ne 535, 3) := by decide +kernel
theorem dL_refuses_433 : decode cL_refuses 433 = .ok (.aload_n 0, 1) := by decide +kernel
theorem dL_refuses_434 : decode cL_refuses 434 = .ok (.bipush 10, 2) := by decide +kernel
theorem dL_refuses_436 : decode cL_refuses 436 = .ok (.iconst 0, 1) := by decide +kernel
theorem dL_refuses_437 : decode cL_refuses 437 = .ok (.iconst 5, 1) := by decide +kernel
theorem dL_refuses_438 : decode cL_refuses 438 = .ok (.iload_n 1, 1) := by decide +kernel
theorem dL_refuses_439 : decode cL_refuses 439 = .ok (.iconst 2, 1) := by decide +kernel
theorem dL_refuses_440 : decode cL_refuses 440 = .ok (.irem, 1) := by decide +kernel
theorem dL_refuses_441 : decode cL_refuses 441 = .ok (.ifCond .ne 7, 3) := by decide +kernel
theorem dL_refuses_444 : decode cL_refuses 444 = .ok (.iconst (-1), 1) := by decide +kernel
theorem dL_refuses_445 : decode cL_refuses 445 = .ok (.goto 10, 3) := by decide +kernel
theorem dL_refuses_448 : decode cL_refuses 448 = .ok (.bipush 10, 2) := by decide +kernel
theorem dL_refuses_450 : decode cL_refuses 450 = .ok (.iload_n 1, 1) := by decide +kernel
theorem dL_refuses_451 : decode cL_refuses 451 = .ok (.bipush 9, 2) := by decide +kernel
theorem dL_refuses_453 : decode cL_refuses 453 = .ok (.irem, 1) := by decide +kernel
theorem dL_refuses_454 : decode cL_refuses 454 = .ok (.iadd, 1) := by decide +kernel
theorem dL_refuses_455 : decode cL_refuses 455 = .ok (.invokestatic 198, 3) := by decide +kernel
theorem dL_refuses_458 : decode cL_refuses 458 = .ok (.ldc 18, 2) := by decide +kernel
theorem dL_refuses_460 : decode cL_refuses 460 = .ok (.if_icmp .ne 505, 3) := by decide +kernel
theorem dL_refuses_463 : decode cL_refuses 463 = .ok (.aload_n 0, 1) := by decide +kernel
theorem dL_refuses_464 : decode cL_refuses 464 = .ok (.bipush 11, 2) := by decide +kernel
theorem dL_refuses_466 : decode cL_refuses 466 = .ok (.iload 7, 2) := by decide +kernel
theorem dL_refuses_468 : decode cL_refuses 468 = .ok (.iconst 0, 1) := by decide +kernel
theorem dL_refuses_469 : decode cL_refuses 469 = .ok (.iconst 0, 1) := by decide +kernel
theorem dL_refuses_470 : decode cL_refuses 470 = .ok (.invokestatic 198, 3) := by decide +kernel
theorem dL_refuses_473 : decode cL_refuses 473 = .ok (.ldc 15, 2) := by decide +kernel
theorem dL_refuses_475 : decode cL_refuses 475 = .ok (.if_icmp .ne 490, 3) := by decide +kernel
theorem dL_refuses_478 : decode cL_refuses 478 = .ok (.aload_n 0, 1) := by decide +kernel
theorem dL_refuses_479 : decode cL_refuses 479 = .ok (.bipush 11, 2) := by decide +kernel
theorem dL_refuses_481 : decode cL_refuses 481 = .ok (.iconst 0, 1) := by decide +kernel
theorem dL_refuses_482 : decode cL_refuses 482 = .ok (.iload 8, 2) := by decide +kernel
theorem dL_refuses_484 : decode cL_refuses 484 = .ok (.iconst 0, 1) := by decide +kernel
theorem dL_refuses_485 : decode cL_refuses 485 = .ok (.invokestatic 198, 3) := by decide +kernel
theorem dL_refuses_488 : decode cL_refuses 488 = .ok (.ldc 15, 2) := by decide +kernel
theorem dL_refuses_490 : decode cL_refuses 490 = .ok (.if_icmp .ne 475, 3) := by decide +kernel
theorem dL_refuses_493 : decode cL_refuses 493 = .ok (.aload_n 0, 1) := by decide +kernel
theorem dL_refuses_494 : decode cL_refuses 494 = .ok (.bipush 12, 2) := by decide +kernel
theorem dL_refuses_496 : decode cL_refuses 496 = .ok (.iload 8, 2) := by decide +kernel
theorem dL_refuses_498 : decode cL_refuses 498 = .ok (.iconst 0, 1) := by decide +kernel
theorem dL_refuses_499 : decode cL_refuses 499 = .ok (.iconst 0, 1) := by decide +kernel
theorem dL_refuses_500 : decode cL_refuses 500 = .ok (.invokestatic 198, 3) := by decide +kernel
theorem dL_refuses_503 : decode cL_refuses 503 = .ok (.ldc 15, 2) := by decide +kernel
theorem dL_refuses_505 : decode cL_refuses 505 = .ok (.if_icmp .ne 460, 3) := by decide +kernel
theorem dL_refuses_508 : decode cL_refuses 508 = .ok (.aload_n 0, 1) := by decide +kernel
theorem dL_refuses_509 : decode cL_refuses 509 = .ok (.bipush 13, 2) := by decide +kernel
theorem dL_refuses_511 : decode cL_refuses 511 = .ok (.iload 7, 2) := by decide +kernel
theorem dL_refuses_513 : decode cL_refuses 513 = .ok (.iconst 0, 1) := by decide +kernel
theorem dL_refuses_514 : decode cL_refuses 514 = .ok (.iconst 0, 1) := by decide +kernel
theorem dL_refuses_515 : decode cL_refuses 515 = .ok (.invokestatic 198, 3) := by decide +kernel
theorem dL_refuses_518 : decode cL_refuses 518 = .ok (.ldc 15, 2) := by decide +kernel
theorem dL_refuses_520 : decode cL_refuses 520 = .ok (.if_icmp .ne 445, 3) := by decide +kernel
theorem dL_refuses_523 : decode cL_refuses 523 = .ok (.aload_n 0, 1) := by decide +kernel
theorem dL_refuses_524 : decode cL_refuses 524 = .ok (.bipush 13, 2) := by decide +kernel
theorem dL_refuses_526 : decode cL_refuses 526 = .ok (.iconst 0, 1) := by decide +kernel
theorem dL_refuses_527 : decode cL_refuses 527 = .ok (.iload 9, 2) := by decide +kernel
theorem dL_refuses_529 : decode cL_refuses 529 = .ok (.iconst 0, 1) := by decide +kernel
theorem dL_refuses_530 : decode cL_refuses 530 = .ok (.invokestatic 198, 3) := by decide +kernel
theorem dL_refuses_533 : decode cL_refuses 533 = .ok (.ldc 15, 2) := by decide +kernel
theorem dL_refuses_535 : decode cL_refuses 535 = .ok (.if_icmp .ne 430, 3) := by decide +kernel
theorem dL_refuses_538 : decode cL_refuses 538 = .ok (.aload_n 0, 1) := by decide +kernel
theorem dL_refuses_539 : decode cL_refuses 539 = .ok (.bipush 14, 2) := by decide +kernel
theorem dL_refuses_541 : decode cL_refuses 541 = .ok (.iload 8, 2) := by decide +kernel
theorem dL_refuses_543 : decode cL_refuses 543 = .ok (.bipush 99, 2) := by decide +kernel
theorem dL_refuses_545 : decode cL_refuses 545 = .ok (.iconst 0, 1) := by decide +kernel
theorem dL_refuses_546 : decode cL_refuses 546 = .ok (.invokestatic 198, 3) := by decide +kernel
theorem dL_refuses_549 : decode cL_refuses 549 = .ok (.ldc 15, 2) := by decide +kernel
theorem dL_refuses_551 : decode cL_refuses 551 = .ok (.if_icmp .ne 414, 3) := by decide +kernel
theorem dL_refuses_554 : decode cL_refuses 554 = .ok (.aload_n 0, 1) := by decide +kernel
theorem dL_refuses_555 : decode cL_refuses 555 = .ok (.bipush 14, 2) := by decide +kernel
theorem dL_refuses_557 : decode cL_refuses 557 = .ok (.iconst 0, 1) := by decide +kernel
theorem dL_refuses_558 : decode cL_refuses 558 = .ok (.iload_n 1, 1) := by decide +kernel
theorem dL_refuses_559 : decode cL_refuses 559 = .ok (.iconst 2, 1) := by decide +kernel
theorem dL_refuses_560 : decode cL_refuses 560 = .ok (.irem, 1) := by decide +kernel
theorem dL_refuses_561 : decode cL_refuses 561 = .ok (.ifCond .ne 7, 3) := by decide +kernel
theorem dL_refuses_564 : decode cL_refuses 564 = .ok (.iconst (-1), 1) := by decide +kernel
theorem dL_refuses_565 : decode cL_refuses 565 = .ok (.goto 10, 3) := by decide +kernel
theorem dL_refuses_568 : decode cL_refuses 568 = .ok (.bipush 10, 2) := by decide +kernel
theorem dL_refuses_570 : decode cL_refuses 570 = .ok (.iload_n 1, 1) := by decide +kernel
theorem dL_refuses_571 : decode cL_refuses 571 = .ok (.bipush 9, 2) := by decide +kernel
theorem dL_refuses_573 : decode cL_refuses 573 = .ok (.irem, 1) := by decide +kernel
theorem dL_refuses_574 : decode cL_refuses 574 = .ok (.iadd, 1) := by decide +kernel
theorem dL_refuses_575 : decode cL_refuses 575 = .ok (.iconst 0, 1) := by decide +kernel
theorem dL_refuses_576 : decode cL_refuses 576 = .ok (.invokestatic 198, 3) := by decide +kernel
theorem dL_refuses_579 : decode cL_refuses 579 = .ok (.ldc 18, 2) := by decide +kernel
theorem dL_refuses_581 : decode cL_refuses 581 = .ok (.if_icmp .ne 384, 3) := by decide +kernel
theorem dL_refuses_584 : decode cL_refuses 584 = .ok (.aload_n 0, 1) := by decide +kernel
theorem dL_refuses_585 : decode cL_refuses 585 = .ok (.iload 8, 2) := by decide +kernel
theorem dL_refuses_587 : decode cL_refuses 587 = .ok (.iconst 0, 1) := by decide +kernel
theorem dL_refuses_588 : decode cL_refuses 588 = .ok (.iconst 0, 1) := by decide +kernel
theorem dL_refuses_589 : decode cL_refuses 589 = .ok (.bipush 99, 2) := by decide +kernel
theorem dL_refuses_591 : decode cL_refuses 591 = .ok (.invokestatic 203, 3) := by decide +kernel
theorem dL_refuses_594 : decode cL_refuses 594 = .ok (.ldc 15, 2) := by decide +kernel
theorem dL_refuses_596 : decode cL_refuses 596 = .ok (.if_icmp .ne 369, 3) := by decide +kernel
theorem dL_refuses_599 : decode cL_refuses 599 = .ok (.aload_n 0, 1) := by decide +kernel
theorem dL_refuses_600 : decode cL_refuses 600 = .ok (.iconst 0, 1) := by decide +kernel
theorem dL_refuses_601 : decode cL_refuses 601 = .ok (.iload 8, 2) := by decide +kernel
theorem dL_refuses_603 : decode cL_refuses 603 = .ok (.iconst 0, 1) := by decide +kernel
theorem dL_refuses_604 : decode cL_refuses 604 = .ok (.iconst 0, 1) := by decide +kernel
theorem dL_refuses_605 : decode cL_refuses 605 = .ok (.invokestatic 203, 3) := by decide +kernel
theorem dL_refuses_608 : decode cL_refuses 608 = .ok (.ldc 15, 2) := by decide +kernel
theorem dL_refuses_610 : decode cL_refuses 610 = .ok (.if_icmp .ne 355, 3) := by decide +kernel
theorem dL_refuses_613 : decode cL_refuses 613 = .ok (.aload_n 0, 1) := by decide +kernel
theorem dL_refuses_614 : decode cL_refuses 614 = .ok (.iconst 0, 1) := by decide +kernel
theorem dL_refuses_615 : decode cL_refuses 615 = .ok (.iconst 0, 1) := by decide +kernel
theorem dL_refuses_616 : decode cL_refuses 616 = .ok (.iload 8, 2) := by decide +kernel
theorem dL_refuses_618 : decode cL_refuses 618 = .ok (.iconst 0, 1) := by decide +kernel
theorem dL_refuses_619 : decode cL_refuses 619 = .ok (.invokestatic 203, 3) := by decide +kernel
theorem dL_refuses_622 : decode cL_refuses 622 = .ok (.ldc 15, 2) := by decide +kernel
theorem dL_refuses_624 : decode cL_refuses 624 = .ok (.if_icmp .ne 341, 3) := by decide +kernel
theorem dL_refuses_627 : decode cL_refuses 627 = .ok (.aload_n 0, 1) := by decide +kernel
theorem dL_refuses_628 : decode cL_refuses 628 = .ok (.iconst 0, 1) := by decide +kernel
theorem dL_refuses_629 : decode cL_refuses 629 = .ok (.iconst 0, 1) := by decide +kernel
theorem dL_refuses_630 : decode cL_refuses 630 = .ok (.iconst 0, 1) := by decide +kernel
theorem dL_refuses_631 : decode cL_refuses 631 = .ok (.iconst 0, 1) := by decide +kernel
theorem dL_refuses_632 : decode cL_refuses 632 = .ok (.invokestatic 203, 3) := by decide +kernel
theorem dL_refuses_635 : decode cL_refuses 635 = .ok (.ldc 18, 2) := by decide +kernel
theorem dL_refuses_637 : decode cL_refuses 637 = .ok (.if_icmp .ne 328, 3) := by decide +kernel
theorem dL_refuses_640 : decode cL_refuses 640 = .ok (.aload_n 0, 1) := by decide +kernel
theorem dL_refuses_641 : decode cL_refuses 641 = .ok (.bipush 15, 2) := by decide +kernel
theorem dL_refuses_643 : decode cL_refuses 643 = .ok (.iload_n 1, 1) := by decide +kernel
theorem dL_refuses_644 : decode cL_refuses 644 = .ok (.iconst 2, 1) := by decide +kernel
theorem dL_refuses_645 : decode cL_refuses 645 = .ok (.irem, 1) := by decide +kernel
theorem dL_refuses_646 : decode cL_refuses 646 = .ok (.ifCond .ne 7, 3) := by decide +kernel
theorem dL_refuses_649 : decode cL_refuses 649 = .ok (.iconst 0, 1) := by decide +kernel
theorem dL_refuses_650 : decode cL_refuses 650 = .ok (.goto 10, 3) := by decide +kernel
theorem dL_refuses_653 : decode cL_refuses 653 = .ok (.bipush 61, 2) := by decide +kernel
theorem dL_refuses_655 : decode cL_refuses 655 = .ok (.iload_n 1, 1) := by decide +kernel
theorem dL_refuses_656 : decode cL_refuses 656 = .ok (.bipush 9, 2) := by decide +kernel
theorem dL_refuses_658 : decode cL_refuses 658 = .ok (.irem, 1) := by decide +kernel
theorem dL_refuses_659 : decode cL_refuses 659 = .ok (.iadd, 1) := by decide +kernel
theorem dL_refuses_660 : decode cL_refuses 660 = .ok (.iconst 0, 1) := by decide +kernel
theorem dL_refuses_661 : decode cL_refuses 661 = .ok (.iconst 0, 1) := by decide +kernel
theorem dL_refuses_662 : decode cL_refuses 662 = .ok (.invokestatic 198, 3) := by decide +kernel
theorem dL_refuses_665 : decode cL_refuses 665 = .ok (.ldc 18, 2) := by decide +kernel
theorem dL_refuses_667 : decode cL_refuses 667 = .ok (.if_icmp .ne 298, 3) := by decide +kernel
theorem dL_refuses_670 : decode cL_refuses 670 = .ok (.aload_n 0, 1) := by decide +kernel
theorem dL_refuses_671 : decode cL_refuses 671 = .ok (.bipush 17, 2) := by decide +kernel
theorem dL_refuses_673 : decode cL_refuses 673 = .ok (.iload 8, 2) := by decide +kernel
theorem dL_refuses_675 : decode cL_refuses 675 = .ok (.iconst 0, 1) := by decide +kernel
theorem dL_refuses_676 : decode cL_refuses 676 = .ok (.iconst 0, 1) := by decide +kernel
theorem dL_refuses_677 : decode cL_refuses 677 = .ok (.invokestatic 198, 3) := by decide +kernel
theorem dL_refuses_680 : decode cL_refuses 680 = .ok (.ldc 15, 2) := by decide +kernel
theorem dL_refuses_682 : decode cL_refuses 682 = .ok (.if_icmp .ne 283, 3) := by decide +kernel
theorem dL_refuses_685 : decode cL_refuses 685 = .ok (.aload_n 0, 1) := by decide +kernel
theorem dL_refuses_686 : decode cL_refuses 686 = .ok (.bipush 18, 2) := by decide +kernel
theorem dL_refuses_688 : decode cL_refuses 688 = .ok (.iload 8, 2) := by decide +kernel
theorem dL_refuses_690 : decode cL_refuses 690 = .ok (.sipush 999, 3) := by decide +kernel
theorem dL_refuses_693 : decode cL_refuses 693 = .ok (.iconst 0, 1) := by decide +kernel
theorem dL_refuses_694 : decode cL_refuses 694 = .ok (.invokestatic 198, 3) := by decide +kernel
theorem dL_refuses_697 : decode cL_refuses 697 = .ok (.ldc 15, 2) := by decide +kernel
theorem dL_refuses_699 : decode cL_refuses 699 = .ok (.if_icmp .ne 266, 3) := by decide +kernel
theorem dL_refuses_702 : decode cL_refuses 702 = .ok (.aload_n 0, 1) := by decide +kernel
theorem dL_refuses_703 : decode cL_refuses 703 = .ok (.bipush 18, 2) := by decide +kernel
theorem dL_refuses_705 : decode cL_refuses 705 = .ok (.iconst 0, 1) := by decide +kernel
theorem dL_refuses_706 : decode cL_refuses 706 = .ok (.iload_n 1, 1) := by decide +kernel
theorem dL_refuses_707 : decode cL_refuses 707 = .ok (.iconst 2, 1) := by decide +kernel
theorem dL_refuses_708 : decode cL_refuses 708 = .ok (.irem, 1) := by decide +kernel
theorem dL_refuses_709 : decode cL_refuses 709 = .ok (.ifCond .ne 7, 3) := by decide +kernel
theorem dL_refuses_712 : decode cL_refuses 712 = .ok (.iconst (-1), 1) := by decide +kernel
theorem dL_refuses_713 : decode cL_refuses 713 = .ok (.goto 11, 3) := by decide +kernel
theorem dL_refuses_716 : decode cL_refuses 716 = .ok (.sipush 201, 3) := by decide +kernel
theorem dL_refuses_719 : decode cL_refuses 719 = .ok (.iload_n 1, 1) := by decide +kernel
theorem dL_refuses_720 : decode cL_refuses 720 = .ok (.bipush 9, 2) := by decide +kernel
theorem dL_refuses_722 : decode cL_refuses 722 = .ok (.irem, 1) := by decide +kernel
theorem dL_refuses_723 : decode cL_refuses 723 = .ok (.iadd, 1) := by decide +kernel
theorem dL_refuses_724 : decode cL_refuses 724 = .ok (.iconst 0, 1) := by decide +kernel
theorem dL_refuses_725 : decode cL_refuses 725 = .ok (.invokestatic 198, 3) := by decide +kernel
theorem dL_refuses_728 : decode cL_refuses 728 = .ok (.ldc 18, 2) := by decide +kernel
theorem dL_refuses_730 : decode cL_refuses 730 = .ok (.if_icmp .ne 235, 3) := by decide +kernel
theorem dL_refuses_733 : decode cL_refuses 733 = .ok (.aload_n 0, 1) := by decide +kernel
theorem dL_refuses_734 : decode cL_refuses 734 = .ok (.bipush 19, 2) := by decide +kernel
theorem dL_refuses_736 : decode cL_refuses 736 = .ok (.iload 8, 2) := by decide +kernel
theorem dL_refuses_738 : decode cL_refuses 738 = .ok (.iconst 0, 1) := by decide +kernel
theorem dL_refuses_739 : decode cL_refuses 739 = .ok (.iconst 0, 1) := by decide +kernel
theorem dL_refuses_740 : decode cL_refuses 740 = .ok (.invokestatic 198, 3) := by decide +kernel
theorem dL_refuses_743 : decode cL_refuses 743 = .ok (.ldc 15, 2) := by decide +kernel
theorem dL_refuses_745 : decode cL_refuses 745 = .ok (.if_icmp .ne 220, 3) := by decide +kernel
theorem dL_refuses_748 : decode cL_refuses 748 = .ok (.aload_n 0, 1) := by decide +kernel
theorem dL_refuses_749 : decode cL_refuses 749 = .ok (.bipush 20, 2) := by decide +kernel
theorem dL_refuses_751 : decode cL_refuses 751 = .ok (.iload 6, 2) := by decide +kernel
theorem dL_refuses_753 : decode cL_refuses 753 = .ok (.iconst 0, 1) := by decide +kernel
theorem dL_refuses_754 : decode cL_refuses 754 = .ok (.bipush 9, 2) := by decide +kernel
theorem dL_refuses_756 : decode cL_refuses 756 = .ok (.invokestatic 198, 3) := by decide +kernel
theorem dL_refuses_759 : decode cL_refuses 759 = .ok (.ldc 15, 2) := by decide +kernel
theorem dL_refuses_761 : decode cL_refuses 761 = .ok (.if_icmp .ne 204, 3) := by decide +kernel
theorem dL_refuses_764 : decode cL_refuses 764 = .ok (.aload_n 0, 1) := by decide +kernel
theorem dL_refuses_765 : decode cL_refuses 765 = .ok (.bipush 20, 2) := by decide +kernel
theorem dL_refuses_767 : decode cL_refuses 767 = .ok (.iconst 0, 1) := by decide +kernel
theorem dL_refuses_768 : decode cL_refuses 768 = .ok (.iload 6, 2) := by decide +kernel
theorem dL_refuses_770 : decode cL_refuses 770 = .ok (.bipush 9, 2) := by decide +kernel
theorem dL_refuses_772 : decode cL_refuses 772 = .ok (.invokestatic 198, 3) := by decide +kernel
theorem dL_refuses_775 : decode cL_refuses 775 = .ok (.ldc 15, 2) := by decide +kernel
theorem dL_refuses_777 : decode cL_refuses 777 = .ok (.if_icmp .ne 188, 3) := by decide +kernel
theorem dL_refuses_780 : decode cL_refuses 780 = .ok (.aload_n 0, 1) := by decide +kernel
theorem dL_refuses_781 : decode cL_refuses 781 = .ok (.bipush 20, 2) := by decide +kernel
theorem dL_refuses_783 : decode cL_refuses 783 = .ok (.iconst 0, 1) := by decide +kernel
theorem dL_refuses_784 : decode cL_refuses 784 = .ok (.iconst 0, 1) := by decide +kernel
theorem dL_refuses_785 : decode cL_refuses 785 = .ok (.iconst 2, 1) := by decide +kernel
theorem dL_refuses_786 : decode cL_refuses 786 = .ok (.iload_n 1, 1) := by decide +kernel
theorem dL_refuses_787 : decode cL_refuses 787 = .ok (.bipush 9, 2) := by decide +kernel
theorem dL_refuses_789 : decode cL_refuses 789 = .ok (.irem, 1) := by decide +kernel
theorem dL_refuses_790 : decode cL_refuses 790 = .ok (.iadd, 1) := by decide +kernel
theorem dL_refuses_791 : decode cL_refuses 791 = .ok (.invokestatic 198, 3) := by decide +kernel
theorem dL_refuses_794 : decode cL_refuses 794 = .ok (.ldc 18, 2) := by decide +kernel
theorem dL_refuses_796 : decode cL_refuses 796 = .ok (.if_icmp .ne 169, 3) := by decide +kernel
theorem dL_refuses_799 : decode cL_refuses 799 = .ok (.aload_n 0, 1) := by decide +kernel
theorem dL_refuses_800 : decode cL_refuses 800 = .ok (.bipush 21, 2) := by decide +kernel
theorem dL_refuses_802 : decode cL_refuses 802 = .ok (.iload 6, 2) := by decide +kernel
theorem dL_refuses_804 : decode cL_refuses 804 = .ok (.iconst 0, 1) := by decide +kernel
theorem dL_refuses_805 : decode cL_refuses 805 = .ok (.iconst 0, 1) := by decide +kernel
theorem dL_refuses_806 : decode cL_refuses 806 = .ok (.invokestatic 198, 3) := by decide +kernel
theorem dL_refuses_809 : decode cL_refuses 809 = .ok (.ldc 15, 2) := by decide +kernel
theorem dL_refuses_811 : decode cL_refuses 811 = .ok (.if_icmp .ne 154, 3) := by decide +kernel
theorem dL_refuses_814 : decode cL_refuses 814 = .ok (.aload_n 0, 1) := by decide +kernel
theorem dL_refuses_815 : decode cL_refuses 815 = .ok (.bipush 21, 2) := by decide +kernel
theorem dL_refuses_817 : decode cL_refuses 817 = .ok (.iconst 0, 1) := by decide +kernel
theorem dL_refuses_818 : decode cL_refuses 818 = .ok (.iload 6, 2) := by decide +kernel
theorem dL_refuses_820 : decode cL_refuses 820 = .ok (.iconst 0, 1) := by decide +kernel
theorem dL_refuses_821 : decode cL_refuses 821 = .ok (.invokestatic 198, 3) := by decide +kernel
theorem dL_refuses_824 : decode cL_refuses 824 = .ok (.ldc 15, 2) := by decide +kernel
theorem dL_refuses_826 : decode cL_refuses 826 = .ok (.if_icmp .ne 139, 3) := by decide +kernel
theorem dL_refuses_829 : decode cL_refuses 829 = .ok (.aload_n 0, 1) := by decide +kernel
theorem dL_refuses_830 : decode cL_refuses 830 = .ok (.bipush 22, 2) := by decide +kernel
theorem dL_refuses_832 : decode cL_refuses 832 = .ok (.iload 8, 2) := by decide +kernel
theorem dL_refuses_834 : decode cL_refuses 834 = .ok (.iconst 0, 1) := by decide +kernel
theorem dL_refuses_835 : decode cL_refuses 835 = .ok (.iconst 0, 1) := by decide +kernel
theorem dL_refuses_836 : decode cL_refuses 836 = .ok (.invokestatic 198, 3) := by decide +kernel
theorem dL_refuses_839 : decode cL_refuses 839 = .ok (.ldc 15, 2) := by decide +kernel
theorem dL_refuses_841 : decode cL_refuses 841 = .ok (.if_icmp .ne 124, 3) := by decide +kernel
theorem dL_refuses_844 : decode cL_refuses 844 = .ok (.aload_n 0, 1) := by decide +kernel
theorem dL_refuses_845 : decode cL_refuses 845 = .ok (.bipush 22, 2) := by decide +kernel
theorem dL_refuses_847 : decode cL_refuses 847 = .ok (.iconst 0, 1) := by decide +kernel
theorem dL_refuses_848 : decode cL_refuses 848 = .ok (.iload 6, 2) := by decide +kernel
theorem dL_refuses_850 : decode cL_refuses 850 = .ok (.iconst 0, 1) := by decide +kernel
theorem dL_refuses_851 : decode cL_refuses 851 = .ok (.invokestatic 198, 3) := by decide +kernel
theorem dL_refuses_854 : decode cL_refuses 854 = .ok (.ldc 15, 2) := by decide +kernel
theorem dL_refuses_856 : decode cL_refuses 856 = .ok (.if_icmp .ne 109, 3) := by decide +kernel
theorem dL_refuses_859 : decode cL_refuses 859 = .ok (.aload_n 0, 1) := by decide +kernel
theorem dL_refuses_860 : decode cL_refuses 860 = .ok (.bipush 23, 2) := by decide +kernel
theorem dL_refuses_862 : decode cL_refuses 862 = .ok (.iconst (-1), 1) := by decide +kernel
theorem dL_refuses_863 : decode cL_refuses 863 = .ok (.iload_n 1, 1) := by decide +kernel
theorem dL_refuses_864 : decode cL_refuses 864 = .ok (.bipush 9, 2) := by decide +kernel
theorem dL_refuses_866 : decode cL_refuses 866 = .ok (.irem, 1) := by decide +kernel
theorem dL_refuses_867 : decode cL_refuses 867 = .ok (.isub, 1) := by decide +kernel
theorem dL_refuses_868 : decode cL_refuses 868 = .ok (.iconst 0, 1) := by decide +kernel
theorem dL_refuses_869 : decode cL_refuses 869 = .ok (.iconst 0, 1) := by decide +kernel
theorem dL_refuses_870 : decode cL_refuses 870 = .ok (.invokestatic 198, 3) := by decide +kernel
theorem dL_refuses_873 : decode cL_refuses 873 = .ok (.ldc 15, 2) := by decide +kernel
theorem dL_refuses_875 : decode cL_refuses 875 = .ok (.if_icmp .ne 90, 3) := by decide +kernel
theorem dL_refuses_878 : decode cL_refuses 878 = .ok (.aload_n 0, 1) := by decide +kernel
theorem dL_refuses_879 : decode cL_refuses 879 = .ok (.bipush 24, 2) := by decide +kernel
theorem dL_refuses_881 : decode cL_refuses 881 = .ok (.iconst 2, 1) := by decide +kernel
theorem dL_refuses_882 : decode cL_refuses 882 = .ok (.iload_n 1, 1) := by decide +kernel
theorem dL_refuses_883 : decode cL_refuses 883 = .ok (.bipush 50, 2) := by decide +kernel
theorem dL_refuses_885 : decode cL_refuses 885 = .ok (.irem, 1) := by decide +kernel
theorem dL_refuses_886 : decode cL_refuses 886 = .ok (.iadd, 1) := by decide +kernel
theorem dL_refuses_887 : decode cL_refuses 887 = .ok (.iconst 0, 1) := by decide +kernel
theorem dL_refuses_888 : decode cL_refuses 888 = .ok (.iconst 0, 1) := by decide +kernel
theorem dL_refuses_889 : decode cL_refuses 889 = .ok (.invokestatic 198, 3) := by decide +kernel
theorem dL_refuses_892 : decode cL_refuses 892 = .ok (.ldc 15, 2) := by decide +kernel
theorem dL_refuses_894 : decode cL_refuses 894 = .ok (.if_icmp .ne 71, 3) := by decide +kernel
theorem dL_refuses_897 : decode cL_refuses 897 = .ok (.aload_n 0, 1) := by decide +kernel
theorem dL_refuses_898 : decode cL_refuses 898 = .ok (.bipush 25, 2) := by decide +kernel
theorem dL_refuses_900 : decode cL_refuses 900 = .ok (.iconst (-1), 1) := by decide +kernel
theorem dL_refuses_901 : decode cL_refuses 901 = .ok (.iload_n 1, 1) := by decide +kernel
theorem dL_refuses_902 : decode cL_refuses 902 = .ok (.bipush 9, 2) := by decide +kernel
theorem dL_refuses_904 : decode cL_refuses 904 = .ok (.irem, 1) := by decide +kernel
theorem dL_refuses_905 : decode cL_refuses 905 = .ok (.isub, 1) := by decide +kernel
theorem dL_refuses_906 : decode cL_refuses 906 = .ok (.iconst 0, 1) := by decide +kernel
theorem dL_refuses_907 : decode cL_refuses 907 = .ok (.iconst 0, 1) := by decide +kernel
theorem dL_refuses_908 : decode cL_refuses 908 = .ok (.invokestatic 198, 3) := by decide +kernel
theorem dL_refuses_911 : decode cL_refuses 911 = .ok (.ldc 15, 2) := by decide +kernel
theorem dL_refuses_913 : decode cL_refuses 913 = .ok (.if_icmp .ne 52, 3) := by decide +kernel
theorem dL_refuses_916 : decode cL_refuses 916 = .ok (.aload_n 0, 1) := by decide +kernel
theorem dL_refuses_917 : decode cL_refuses 917 = .ok (.iconst 0, 1) := by decide +kernel
theorem dL_refuses_918 : decode cL_refuses 918 = .ok (.lconst 0, 1) := by decide +kernel
theorem dL_refuses_919 : decode cL_refuses 919 = .ok (.invokestatic 206, 3) := by decide +kernel
theorem dL_refuses_922 : decode cL_refuses 922 = .ok (.ldc 18, 2) := by decide +kernel
theorem dL_refuses_924 : decode cL_refuses 924 = .ok (.if_icmp .ne 41, 3) := by decide +kernel
theorem dL_refuses_927 : decode cL_refuses 927 = .ok (.aload_n 0, 1) := by decide +kernel
theorem dL_refuses_928 : decode cL_refuses 928 = .ok (.iconst 1, 1) := by decide +kernel
theorem dL_refuses_929 : decode cL_refuses 929 = .ok (.ldc2_w 210, 3) := by decide +kernel
theorem dL_refuses_932 : decode cL_refuses 932 = .ok (.iload_n 1, 1) := by decide +kernel
theorem dL_refuses_933 : decode cL_refuses 933 = .ok (.i2l, 1) := by decide +kernel
theorem dL_refuses_934 : decode cL_refuses 934 = .ok (.ladd, 1) := by decide +kernel
theorem dL_refuses_935 : decode cL_refuses 935 = .ok (.invokestatic 206, 3) := by decide +kernel
theorem dL_refuses_938 : decode cL_refuses 938 = .ok (.ldc 18, 2) := by decide +kernel
theorem dL_refuses_940 : decode cL_refuses 940 = .ok (.if_icmp .ne 25, 3) := by decide +kernel
theorem dL_refuses_943 : decode cL_refuses 943 = .ok (.aload_n 0, 1) := by decide +kernel
theorem dL_refuses_944 : decode cL_refuses 944 = .ok (.iload_n 1, 1) := by decide +kernel
theorem dL_refuses_945 : decode cL_refuses 945 = .ok (.i2l, 1) := by decide +kernel
theorem dL_refuses_946 : decode cL_refuses 946 = .ok (.bipush 61, 2) := by decide +kernel
theorem dL_refuses_948 : decode cL_refuses 948 = .ok (.iload_n 1, 1) := by decide +kernel
theorem dL_refuses_949 : decode cL_refuses 949 = .ok (.bipush 9, 2) := by decide +kernel
theorem dL_refuses_951 : decode cL_refuses 951 = .ok (.irem, 1) := by decide +kernel
theorem dL_refuses_952 : decode cL_refuses 952 = .ok (.iadd, 1) := by decide +kernel
theorem dL_refuses_953 : decode cL_refuses 953 = .ok (.invokestatic 212, 3) := by decide +kernel
theorem dL_refuses_956 : decode cL_refuses 956 = .ok (.ldc 18, 2) := by decide +kernel
theorem dL_refuses_958 : decode cL_refuses 958 = .ok (.if_icmp .ne 7, 3) := by decide +kernel
theorem dL_refuses_961 : decode cL_refuses 961 = .ok (.iconst 1, 1) := by decide +kernel
theorem dL_refuses_962 : decode cL_refuses 962 = .ok (.goto 4, 3) := by decide +kernel
theorem dL_refuses_965 : decode cL_refuses 965 = .ok (.iconst 0, 1) := by decide +kernel
theorem dL_refuses_966 : decode cL_refuses 966 = .ok (.istore 10, 2) := by decide +kernel
theorem dL_refuses_968 : decode cL_refuses 968 = .ok (.iload 10, 2) := by decide +kernel
theorem dL_refuses_970 : decode cL_refuses 970 = .ok (.ifCond .eq 110, 3) := by decide +kernel
theorem dL_refuses_973 : decode cL_refuses 973 = .ok (.iload_n 2, 1) := by decide +kernel
theorem dL_refuses_974 : decode cL_refuses 974 = .ok (.bipush 6, 2) := by decide +kernel
theorem dL_refuses_976 : decode cL_refuses 976 = .ok (.if_icmp .lt 17, 3) := by decide +kernel
theorem dL_refuses_979 : decode cL_refuses 979 = .ok (.aload_n 0, 1) := by decide +kernel
theorem dL_refuses_980 : decode cL_refuses 980 = .ok (.bipush 7, 2) := by decide +kernel
theorem dL_refuses_982 : decode cL_refuses 982 = .ok (.iconst 0, 1) := by decide +kernel
theorem dL_refuses_983 : decode cL_refuses 983 = .ok (.iconst 0, 1) := by decide +kernel
theorem dL_refuses_984 : decode cL_refuses 984 = .ok (.iconst 0, 1) := by decide +kernel
theorem dL_refuses_985 : decode cL_refuses 985 = .ok (.invokestatic 198, 3) := by decide +kernel
theorem dL_refuses_988 : decode cL_refuses 988 = .ok (.ldc 33, 2) := by decide +kernel
theorem dL_refuses_990 : decode cL_refuses 990 = .ok (.if_icmp .ne 90, 3) := by decide +kernel
theorem dL_refuses_993 : decode cL_refuses 993 = .ok (.iload 4, 2) := by decide +kernel
theorem dL_refuses_995 : decode cL_refuses 995 = .ok (.iconst 5, 1) := by decide +kernel
theorem dL_refuses_996 : decode cL_refuses 996 = .ok (.if_icmp .lt 17, 3) := by decide +kernel
theorem dL_refuses_999 : decode cL_refuses 999 = .ok (.aload_n 0, 1) := by decide +kernel
theorem dL_refuses_1000 : decode cL_refuses 1000 = .ok (.bipush 9, 2) := by decide +kernel
theorem dL_refuses_1002 : decode cL_refuses 1002 = .ok (.iconst 0, 1) := by decide +kernel
theorem dL_refuses_1003 : decode cL_refuses 1003 = .ok (.iconst 0, 1) := by decide +kernel
theorem dL_refuses_1004 : decode cL_refuses 1004 = .ok (.iconst 0, 1) := by decide +kernel
theorem dL_refuses_1005 : decode cL_refuses 1005 = .ok (.invokestatic 198, 3) := by decide +kernel
theorem dL_refuses_1008 : decode cL_refuses 1008 = .ok (.ldc 33, 2) := by decide +kernel
theorem dL_refuses_1010 : decode cL_refuses 1010 = .ok (.if_icmp .ne 70, 3) := by decide +kernel
theorem dL_refuses_1013 : decode cL_refuses 1013 = .ok (.iload_n 3, 1) := by decide +kernel
theorem dL_refuses_1014 : decode cL_refuses 1014 = .ok (.bipush 10, 2) := by decide +kernel
theorem dL_refuses_1016 : decode cL_refuses 1016 = .ok (.if_icmp .lt 17, 3) := by decide +kernel
theorem dL_refuses_1019 : decode cL_refuses 1019 = .ok (.aload_n 0, 1) := by decide +kernel
theorem dL_refuses_1020 : decode cL_refuses 1020 = .ok (.bipush 8, 2) := by decide +kernel
theorem dL_refuses_1022 : decode cL_refuses 1022 = .ok (.iconst 0, 1) := by decide +kernel
theorem dL_refuses_1023 : decode cL_refuses 1023 = .ok (.iconst 1, 1) := by decide +kernel
theorem dL_refuses_1024 : decode cL_refuses 1024 = .ok (.iconst 5, 1) := by decide +kernel
theorem dL_refuses_1025 : decode cL_refuses 1025 = .ok (.invokestatic 198, 3) := by decide +kernel
theorem dL_refuses_1028 : decode cL_refuses 1028 = .ok (.ldc 33, 2) := by decide +kernel
theorem dL_refuses_1030 : decode cL_refuses 1030 = .ok (.if_icmp .ne 50, 3) := by decide +kernel
theorem dL_refuses_1033 : decode cL_refuses 1033 = .ok (.iload_n 3, 1) := by decide +kernel
theorem dL_refuses_1034 : decode cL_refuses 1034 = .ok (.ifCond .eq 21, 3) := by decide +kernel
theorem dL_refuses_1037 : decode cL_refuses 1037 = .ok (.aload_n 0, 1) := by decide +kernel
theorem dL_refuses_1038 : decode cL_refuses 1038 = .ok (.iconst 3, 1) := by decide +kernel
theorem dL_refuses_1039 : decode cL_refuses 1039 = .ok (.iconst 0, 1) := by decide +kernel
theorem dL_refuses_1040 : decode cL_refuses 1040 = .ok (.iconst 3, 1) := by decide +kernel
theorem dL_refuses_1041 : decode cL_refuses 1041 = .ok (.iload_n 1, 1) := by decide +kernel
theorem dL_refuses_1042 : decode cL_refuses 1042 = .ok (.bipush 9, 2) := by decide +kernel
theorem dL_refuses_1044 : decode cL_refuses 1044 = .ok (.irem, 1) := by decide +kernel
theorem dL_refuses_1045 : decode cL_refuses 1045 = .ok (.iadd, 1) := by decide +kernel
theorem dL_refuses_1046 : decode cL_refuses 1046 = .ok (.iconst 0, 1) := by decide +kernel
theorem dL_refuses_1047 : decode cL_refuses 1047 = .ok (.invokestatic 198, 3) := by decide +kernel
theorem dL_refuses_1050 : decode cL_refuses 1050 = .ok (.ldc 18, 2) := by decide +kernel
theorem dL_refuses_1052 : decode cL_refuses 1052 = .ok (.if_icmp .ne 28, 3) := by decide +kernel
theorem dL_refuses_1055 : decode cL_refuses 1055 = .ok (.iload 5, 2) := by decide +kernel
theorem dL_refuses_1057 : decode cL_refuses 1057 = .ok (.bipush 12, 2) := by decide +kernel
theorem dL_refuses_1059 : decode cL_refuses 1059 = .ok (.if_icmp .lt 17, 3) := by decide +kernel
theorem dL_refuses_1062 : decode cL_refuses 1062 = .ok (.aload_n 0, 1) := by decide +kernel
theorem dL_refuses_1063 : decode cL_refuses 1063 = .ok (.bipush 10, 2) := by decide +kernel
theorem dL_refuses_1065 : decode cL_refuses 1065 = .ok (.iconst 0, 1) := by decide +kernel
theorem dL_refuses_1066 : decode cL_refuses 1066 = .ok (.iconst 5, 1) := by decide +kernel
theorem dL_refuses_1067 : decode cL_refuses 1067 = .ok (.iconst 5, 1) := by decide +kernel
theorem dL_refuses_1068 : decode cL_refuses 1068 = .ok (.invokestatic 198, 3) := by decide +kernel
theorem dL_refuses_1071 : decode cL_refuses 1071 = .ok (.ldc 33, 2) := by decide +kernel
theorem dL_refuses_1073 : decode cL_refuses 1073 = .ok (.if_icmp .ne 7, 3) := by decide +kernel
theorem dL_refuses_1076 : decode cL_refuses 1076 = .ok (.iconst 1, 1) := by decide +kernel
theorem dL_refuses_1077 : decode cL_refuses 1077 = .ok (.goto 4, 3) := by decide +kernel
theorem dL_refuses_1080 : decode cL_refuses 1080 = .ok (.iconst 0, 1) := by decide +kernel
theorem dL_refuses_1081 : decode cL_refuses 1081 = .ok (.ireturn, 1) := by decide +kernel
set_option maxRecDepth 100000 in
set_option maxHeartbeats 4000000 in
theorem c_L_refuses (l : Launch) (G : GT) (n0 : Nat) (h0 : AH) (hl : l.stackTraces = false) (x : Nat) (σ : St) (hS0 : SC x σ h0) (hI : SIs σ) (h3 : 3 ≤ σ.1 0 ∧ 1 ≤ σ.1 2 ∧ 1 ≤ σ.1 4) (X : Nat) (hX : X < 2 ^ 31 - 1) : Ct l yL_refuses cL_refuses 11 (some .boolean) 11 220 1320 G n0 h0 [.ref x, .int (nI X)] (PoS x h0 (nI 1) σ) := by
  have hIv : Iv σ.1 := hI.1
  have i0 := hIv.1
  have hX9 := Nat.mod_lt X (show 0 < 9 by decide)
  have rw5 : ¬ (nI 0 = nI 1 ∨ ¬ (1 ≤ (nI 5).toInt ∧ (nI 5).toInt ≤ 20)) := by decide
  refine Ct_ofZ mL_refuses.z (Nat.le_of_ble_eq_true rfl) ?_
  intro p₀ e₀ s₀ m₀ as₀ bl₀ me₀ c₀ C
  refine V_Le (L' := [(0, .ref x), (1, .int (nI X))]) rfl ?_
  suffices H : ∀ (n : Nat) (h : AH) (hS : SC x σ h) (hF : FX x h0 h), V p₀ l e₀ (rmD 11 220 1320) s₀ m₀ as₀ bl₀ me₀ c₀ (MQ bl₀ (Po G (PoS x h0 (nI 1) σ)) as₀ s₀ 220 1320 (rg G)) G 11 0 0 n h 0 [(0, .ref x), (1, .int (nI X))] [] from H n0 h0 hS0 FX.rf
  have J1055 : ∀ (n : Nat) (h : AH) (hS : SC x σ h) (hF : FX x h0 h), V p₀ l e₀ (rmD 11 220 1320) s₀ m₀ as₀ bl₀ me₀ c₀ (MQ bl₀ (Po G (PoS x h0 (nI 1) σ)) as₀ s₀ 220 1320 (rg G)) G 11 216 1296 n h 1055 [(0, .ref x), (1, .int (nI X)), (2, .int (nI (σ.1 0))), (3, .int (nI (σ.1 1))), (4, .int (nI (σ.1 2))), (5, .int (nI (σ.1 4))), (10, .int (nI 1))] [] := by
    intro  n h hS hF
    refine V_iload 1057 C dL_refuses_1055 rfl rfl ?_
    refine V_bipush 1059 C dL_refuses_1057 rfl bip12 ?_
    refine V_icmp_ltN 1076 1062 C dL_refuses_1059 (by decide) rfl (by omega) (by omega) (fun c1059 => ?_) (fun c1059 => ?_)
    · skip
      refine V_iconst 1077 C dL_refuses_1076 rfl ic1 ?_
      refine V_goto 1081 C dL_refuses_1077 (by decide) ?_
      refine V_ireturn C dL_refuses_1081 rfl nar_1 (by omega) (by omega) ?_
      exact ⟨rfl, hS, hF⟩
    · skip
      refine V_aload_n 1063 C dL_refuses_1062 rfl rfl ?_
      refine V_bipush 1065 C dL_refuses_1063 rfl bip10 ?_
      refine V_iconst 1066 C dL_refuses_1065 rfl ic0 ?_
      refine V_iconst 1067 C dL_refuses_1066 rfl ic5 ?_
      refine V_iconst 1068 C dL_refuses_1067 rfl ic5 ?_
      refine V_q1 1071 (216 + 4) (1296 + 24) C hF dL_refuses_1068 rfl mL_call.z tw250 (k_write l G _ _ hl x σ hS hI _ _ _ _ (a_W (j := 2) (cs := [eI, eA, eS]) (wrW (ix0 (by omega)) ⟨ixn (by omega) (by omega), ixn (by omega) (by omega)⟩ (by omega)) rfl).1 _ (a_W (j := 2) (cs := [eI, eA, eS]) (wrW (ix0 (by omega)) ⟨ixn (by omega) (by omega), ixn (by omega) (by omega)⟩ (by omega)) rfl).2) rfl rfl ⟨Nat.le_of_ble_eq_true rfl, Nat.le_of_ble_eq_true rfl⟩ ⟨by omega, by omega⟩ ⟨by show _ ≤ 220; omega, by show _ ≤ 1320; omega⟩ (Nat.le_of_ble_eq_true rfl) ?_
      clear hS hF n h
      intro n h hS hF
      refine V_ldc 1073 C dL_refuses_1071 rfl tw361 ?_
      refine V_icmp_ne 1080 1076 C dL_refuses_1073 (by decide) rfl  (fun c1073 => by exact absurd rfl c1073) (fun c1073 => ?_)
      refine V_iconst 1077 C dL_refuses_1076 rfl ic1 ?_
      refine V_goto 1081 C dL_refuses_1077 (by decide) ?_
      refine V_ireturn C dL_refuses_1081 rfl nar_1 (by omega) (by omega) ?_
      exact ⟨rfl, hS, hF⟩
  have J1033 : ∀ (n : Nat) (h : AH) (hS : SC x σ h) (hF : FX x h0 h), V p₀ l e₀ (rmD 11 220 1320) s₀ m₀ as₀ bl₀ me₀ c₀ (MQ bl₀ (Po G (PoS x h0 (nI 1) σ)) as₀ s₀ 220 1320 (rg G)) G 11 212 1272 n h 1033 [(0, .ref x), (1, .int (nI X)), (2, .int (nI (σ.1 0))), (3, .int (nI (σ.1 1))), (4, .int (nI (σ.1 2))), (5, .int (nI (σ.1 4))), (10, .int (nI 1))] [] := by
    intro  n h hS hF
    refine V_iload_n 1034 C dL_refuses_1033 rfl rfl ?_
    refine V_if_eqN 1055 1037 C dL_refuses_1034 (by decide) rfl (by omega) (fun c1034 => ?_) (fun c1034 => ?_)
    · skip
      refine V_L [0, 1, 2, 3, 4, 5, 10] rfl ?_
      exact V_wid _ _ (by omega) (by omega) (J1055 _ _ hS hF)
    · skip
      refine V_aload_n 1038 C dL_refuses_1037 rfl rfl ?_
      refine V_iconst 1039 C dL_refuses_1038 rfl ic3 ?_
      refine V_iconst 1040 C dL_refuses_1039 rfl ic0 ?_
      refine V_iconst 1041 C dL_refuses_1040 rfl ic3 ?_
      refine V_iload_n 1042 C dL_refuses_1041 rfl rfl ?_
      refine V_bipush 1044 C dL_refuses_1042 rfl bip9 ?_
      refine V_iremN 1045 C dL_refuses_1044 rfl (by omega) (by omega) (by omega) ?_
      refine V_iaddN 1046 C dL_refuses_1045 rfl  ?_
      refine V_iconst 1047 C dL_refuses_1046 rfl ic0 ?_
      refine V_q1 1050 (212 + 4) (1272 + 24) C hF dL_refuses_1047 rfl mL_call.z tw250 (k_way l G _ _ hl x σ hS hI _ _ _ _ (x_22 (ix0 (by omega)) (nix_big (by omega) (by omega)) rfl)) rfl rfl ⟨Nat.le_of_ble_eq_true rfl, Nat.le_of_ble_eq_true rfl⟩ ⟨by omega, by omega⟩ ⟨by show _ ≤ 220; omega, by show _ ≤ 1320; omega⟩ (Nat.le_of_ble_eq_true rfl) ?_
      clear hS hF n h
      intro n h hS hF
      refine V_ldc 1052 C dL_refuses_1050 rfl tw360 ?_
      refine V_icmp_ne 1080 1055 C dL_refuses_1052 (by decide) rfl  (fun c1052 => by exact absurd rfl c1052) (fun c1052 => ?_)
      refine V_L [0, 1, 2, 3, 4, 5, 10] rfl ?_
      exact V_wid _ _ (by omega) (by omega) (J1055 _ _ hS hF)
  have J1013 : ∀ (n : Nat) (h : AH) (hS : SC x σ h) (hF : FX x h0 h), V p₀ l e₀ (rmD 11 220 1320) s₀ m₀ as₀ bl₀ me₀ c₀ (MQ bl₀ (Po G (PoS x h0 (nI 1) σ)) as₀ s₀ 220 1320 (rg G)) G 11 208 1248 n h 1013 [(0, .ref x), (1, .int (nI X)), (2, .int (nI (σ.1 0))), (3, .int (nI (σ.1 1))), (4, .int (nI (σ.1 2))), (5, .int (nI (σ.1 4))), (10, .int (nI 1))] [] := by
    intro  n h hS hF
    refine V_iload_n 1014 C dL_refuses_1013 rfl rfl ?_
    refine V_bipush 1016 C dL_refuses_1014 rfl bip10 ?_
    refine V_icmp_ltN 1033 1019 C dL_refuses_1016 (by decide) rfl (by omega) (by omega) (fun c1016 => ?_) (fun c1016 => ?_)
    · skip
      refine V_L [0, 1, 2, 3, 4, 5, 10] rfl ?_
      exact V_wid _ _ (by omega) (by omega) (J1033 _ _ hS hF)
    · skip
      refine V_aload_n 1020 C dL_refuses_1019 rfl rfl ?_
      refine V_bipush 1022 C dL_refuses_1020 rfl bip8 ?_
      refine V_iconst 1023 C dL_refuses_1022 rfl ic0 ?_
      refine V_iconst 1024 C dL_refuses_1023 rfl ic1 ?_
      refine V_iconst 1025 C dL_refuses_1024 rfl ic5 ?_
      refine V_q1 1028 (208 + 4) (1248 + 24) C hF dL_refuses_1025 rfl mL_call.z tw250 (k_road l G _ _ hl x σ hS hI _ _ _ _ (a_W (j := 2) (cs := [eI, eA, eS]) (rdW ⟨ix0 (by omega), ixn (by omega) (by omega)⟩ rw5 (by omega)) rfl).1 _ (a_W (j := 2) (cs := [eI, eA, eS]) (rdW ⟨ix0 (by omega), ixn (by omega) (by omega)⟩ rw5 (by omega)) rfl).2) rfl rfl ⟨Nat.le_of_ble_eq_true rfl, Nat.le_of_ble_eq_true rfl⟩ ⟨by omega, by omega⟩ ⟨by show _ ≤ 220; omega, by show _ ≤ 1320; omega⟩ (Nat.le_of_ble_eq_true rfl) ?_
      clear hS hF n h
      intro n h hS hF
      refine V_ldc 1030 C dL_refuses_1028 rfl tw361 ?_
      refine V_icmp_ne 1080 1033 C dL_refuses_1030 (by decide) rfl  (fun c1030 => by exact absurd rfl c1030) (fun c1030 => ?_)
      refine V_L [0, 1, 2, 3, 4, 5, 10] rfl ?_
      exact V_wid _ _ (by omega) (by omega) (J1033 _ _ hS hF)
  have J993 : ∀ (n : Nat) (h : AH) (hS : SC x σ h) (hF : FX x h0 h), V p₀ l e₀ (rmD 11 220 1320) s₀ m₀ as₀ bl₀ me₀ c₀ (MQ bl₀ (Po G (PoS x h0 (nI 1) σ)) as₀ s₀ 220 1320 (rg G)) G 11 204 1224 n h 993 [(0, .ref x), (1, .int (nI X)), (2, .int (nI (σ.1 0))), (3, .int (nI (σ.1 1))), (4, .int (nI (σ.1 2))), (5, .int (nI (σ.1 4))), (10, .int (nI 1))] [] := by
    intro  n h hS hF
    refine V_iload 995 C dL_refuses_993 rfl rfl ?_
    refine V_iconst 996 C dL_refuses_995 rfl ic5 ?_
    refine V_icmp_ltN 1013 999 C dL_refuses_996 (by decide) rfl (by omega) (by omega) (fun c996 => ?_) (fun c996 => ?_)
    · skip
      refine V_L [0, 1, 2, 3, 4, 5, 10] rfl ?_
      exact V_wid _ _ (by omega) (by omega) (J1013 _ _ hS hF)
    · skip
      refine V_aload_n 1000 C dL_refuses_999 rfl rfl ?_
      refine V_bipush 1002 C dL_refuses_1000 rfl bip9 ?_
      refine V_iconst 1003 C dL_refuses_1002 rfl ic0 ?_
      refine V_iconst 1004 C dL_refuses_1003 rfl ic0 ?_
      refine V_iconst 1005 C dL_refuses_1004 rfl ic0 ?_
      refine V_q1 1008 (204 + 4) (1224 + 24) C hF dL_refuses_1005 rfl mL_call.z tw250 (k_runner l G _ _ hl x σ hS hI _ _ _ _ (a_W (j := 1) (cs := [eI, eS]) (ruW (ix0 (by omega)) (by omega)) rfl).1 _ (a_W (j := 1) (cs := [eI, eS]) (ruW (ix0 (by omega)) (by omega)) rfl).2) rfl rfl ⟨Nat.le_of_ble_eq_true rfl, Nat.le_of_ble_eq_true rfl⟩ ⟨by omega, by omega⟩ ⟨by show _ ≤ 220; omega, by show _ ≤ 1320; omega⟩ (Nat.le_of_ble_eq_true rfl) ?_
      clear hS hF n h
      intro n h hS hF
      refine V_ldc 1010 C dL_refuses_1008 rfl tw361 ?_
      refine V_icmp_ne 1080 1013 C dL_refuses_1010 (by decide) rfl  (fun c1010 => by exact absurd rfl c1010) (fun c1010 => ?_)
      refine V_L [0, 1, 2, 3, 4, 5, 10] rfl ?_
      exact V_wid _ _ (by omega) (by omega) (J1013 _ _ hS hF)
  have J968 : ∀ (n : Nat) (h : AH) (hS : SC x σ h) (hF : FX x h0 h), V p₀ l e₀ (rmD 11 220 1320) s₀ m₀ as₀ bl₀ me₀ c₀ (MQ bl₀ (Po G (PoS x h0 (nI 1) σ)) as₀ s₀ 220 1320 (rg G)) G 11 200 1200 n h 968 [(0, .ref x), (1, .int (nI X)), (2, .int (nI (σ.1 0))), (3, .int (nI (σ.1 1))), (4, .int (nI (σ.1 2))), (5, .int (nI (σ.1 4))), (10, .int (nI 1))] [] := by
    intro  n h hS hF
    refine V_iload 970 C dL_refuses_968 rfl rfl ?_
    refine V_if_eqN 1080 973 C dL_refuses_970 (by decide) rfl (by omega) (fun c970 => by omega) (fun c970 => ?_)
    refine V_iload_n 974 C dL_refuses_973 rfl rfl ?_
    refine V_bipush 976 C dL_refuses_974 rfl bip6 ?_
    refine V_icmp_ltN 993 979 C dL_refuses_976 (by decide) rfl (by omega) (by omega) (fun c976 => ?_) (fun c976 => ?_)
    · skip
      refine V_L [0, 1, 2, 3, 4, 5, 10] rfl ?_
      exact V_wid _ _ (by omega) (by omega) (J993 _ _ hS hF)
    · skip
      refine V_aload_n 980 C dL_refuses_979 rfl rfl ?_
      refine V_bipush 982 C dL_refuses_980 rfl bip7 ?_
      refine V_iconst 983 C dL_refuses_982 rfl ic0 ?_
      refine V_iconst 984 C dL_refuses_983 rfl ic0 ?_
      refine V_iconst 985 C dL_refuses_984 rfl ic0 ?_
      refine V_q1 988 (200 + 4) (1200 + 24) C hF dL_refuses_985 rfl mL_call.z tw250 (k_town l G _ _ hl x σ hS hI _ _ _ _ (a_W (j := 0) (cs := [eS]) (twW (by omega)) rfl).1 _ (a_W (j := 0) (cs := [eS]) (twW (by omega)) rfl).2) rfl rfl ⟨Nat.le_of_ble_eq_true rfl, Nat.le_of_ble_eq_true rfl⟩ ⟨by omega, by omega⟩ ⟨by show _ ≤ 220; omega, by show _ ≤ 1320; omega⟩ (Nat.le_of_ble_eq_true rfl) ?_
      clear hS hF n h
      intro n h hS hF
      refine V_ldc 990 C dL_refuses_988 rfl tw361 ?_
      refine V_icmp_ne 1080 993 C dL_refuses_990 (by decide) rfl  (fun c990 => by exact absurd rfl c990) (fun c990 => ?_)
      refine V_L [0, 1, 2, 3, 4, 5, 10] rfl ?_
      exact V_wid _ _ (by omega) (by omega) (J993 _ _ hS hF)
  have J724 : ∀ (no nb nn wy : Int32) (v : Int32) (hno : ¬ ix no (σ.1 0)) (hnb : ¬ ix nb (σ.1 2)) (hnn : ¬ ix nn (σ.1 4)) (hwy : ¬ ix wy (σ.1 1)) (hv : ¬ ix v 201) (n : Nat) (h : AH) (hS : SC x σ h) (hF : FX x h0 h), V p₀ l e₀ (rmD 11 220 1320) s₀ m₀ as₀ bl₀ me₀ c₀ (MQ bl₀ (Po G (PoS x h0 (nI 1) σ)) as₀ s₀ 220 1320 (rg G)) G 11 140 840 n h 724 [(0, .ref x), (1, .int (nI X)), (2, .int (nI (σ.1 0))), (3, .int (nI (σ.1 1))), (4, .int (nI (σ.1 2))), (5, .int (nI (σ.1 4))), (6, .int no), (7, .int nb), (8, .int nn), (9, .int wy)] [.int v, .int (nI 0), .int (nI 18), .ref x] := by
    intro no nb nn wy v hno hnb hnn hwy hv n h hS hF
    refine V_iconst 725 C dL_refuses_724 rfl ic0 ?_
    refine V_q1 728 (140 + 4) (840 + 24) C hF dL_refuses_725 rfl mL_call.z tw250 (k_later l G _ _ hl x σ hS hI _ _ _ _ (x_22 (ix0 (by omega)) hv rfl)) rfl rfl ⟨Nat.le_of_ble_eq_true rfl, Nat.le_of_ble_eq_true rfl⟩ ⟨by omega, by omega⟩ ⟨by show _ ≤ 220; omega, by show _ ≤ 1320; omega⟩ (Nat.le_of_ble_eq_true rfl) ?_
    clear hS hF n h
    intro n h hS hF
    refine V_ldc 730 C dL_refuses_728 rfl tw360 ?_
    refine V_icmp_ne 965 733 C dL_refuses_730 (by decide) rfl  (fun c730 => by exact absurd rfl c730) (fun c730 => ?_)
    refine V_aload_n 734 C dL_refuses_733 rfl rfl ?_
    refine V_bipush 736 C dL_refuses_734 rfl bip19 ?_
    refine V_iload 738 C dL_refuses_736 rfl rfl ?_
    refine V_iconst 739 C dL_refuses_738 rfl ic0 ?_
    refine V_iconst 740 C dL_refuses_739 rfl ic0 ?_
    refine V_q1 743 (140 + 8) (840 + 48) C hF dL_refuses_740 rfl mL_call.z tw250 (k_right l G _ _ hl x σ hS hI _ _ _ _ (x_1 hnn rfl)) rfl rfl ⟨Nat.le_of_ble_eq_true rfl, Nat.le_of_ble_eq_true rfl⟩ ⟨by omega, by omega⟩ ⟨by show _ ≤ 220; omega, by show _ ≤ 1320; omega⟩ (Nat.le_of_ble_eq_true rfl) ?_
    clear hS hF n h
    intro n h hS hF
    refine V_ldc 745 C dL_refuses_743 rfl tw593 ?_
    refine V_icmp_ne 965 748 C dL_refuses_745 (by decide) rfl  (fun c745 => by exact absurd rfl c745) (fun c745 => ?_)
    refine V_aload_n 749 C dL_refuses_748 rfl rfl ?_
    refine V_bipush 751 C dL_refuses_749 rfl bip20 ?_
    refine V_iload 753 C dL_refuses_751 rfl rfl ?_
    refine V_iconst 754 C dL_refuses_753 rfl ic0 ?_
    refine V_bipush 756 C dL_refuses_754 rfl bip9 ?_
    refine V_q1 759 (140 + 12) (840 + 72) C hF dL_refuses_756 rfl mL_call.z tw250 (k_route l G _ _ hl x σ hS hI _ _ _ _ (x_21 (fun e => hno e.1) rfl)) rfl rfl ⟨Nat.le_of_ble_eq_true rfl, Nat.le_of_ble_eq_true rfl⟩ ⟨by omega, by omega⟩ ⟨by show _ ≤ 220; omega, by show _ ≤ 1320; omega⟩ (Nat.le_of_ble_eq_true rfl) ?_
    clear hS hF n h
    intro n h hS hF
    refine V_ldc 761 C dL_refuses_759 rfl tw593 ?_
    refine V_icmp_ne 965 764 C dL_refuses_761 (by decide) rfl  (fun c761 => by exact absurd rfl c761) (fun c761 => ?_)
    refine V_aload_n 765 C dL_refuses_764 rfl rfl ?_
    refine V_bipush 767 C dL_refuses_765 rfl bip20 ?_
    refine V_iconst 768 C dL_refuses_767 rfl ic0 ?_
    refine V_iload 770 C dL_refuses_768 rfl rfl ?_
    refine V_bipush 772 C dL_refuses_770 rfl bip9 ?_
    refine V_q1 775 (140 + 16) (840 + 96) C hF dL_refuses_772 rfl mL_call.z tw250 (k_route l G _ _ hl x σ hS hI _ _ _ _ (x_21 (fun e => hno e.2) rfl)) rfl rfl ⟨Nat.le_of_ble_eq_true rfl, Nat.le_of_ble_eq_true rfl⟩ ⟨by omega, by omega⟩ ⟨by show _ ≤ 220; omega, by show _ ≤ 1320; omega⟩ (Nat.le_of_ble_eq_true rfl) ?_
    clear hS hF n h
    intro n h hS hF
    refine V_ldc 777 C dL_refuses_775 rfl tw593 ?_
    refine V_icmp_ne 965 780 C dL_refuses_777 (by decide) rfl  (fun c777 => by exact absurd rfl c777) (fun c777 => ?_)
    refine V_aload_n 781 C dL_refuses_780 rfl rfl ?_
    refine V_bipush 783 C dL_refuses_781 rfl bip20 ?_
    refine V_iconst 784 C dL_refuses_783 rfl ic0 ?_
    refine V_iconst 785 C dL_refuses_784 rfl ic0 ?_
    refine V_iconst 786 C dL_refuses_785 rfl ic2 ?_
    refine V_iload_n 787 C dL_refuses_786 rfl rfl ?_
    refine V_bipush 789 C dL_refuses_787 rfl bip9 ?_
    refine V_iremN 790 C dL_refuses_789 rfl (by omega) (by omega) (by omega) ?_
    refine V_iaddN 791 C dL_refuses_790 rfl  ?_
    refine V_q1 794 (140 + 20) (840 + 120) C hF dL_refuses_791 rfl mL_call.z tw250 (k_route l G _ _ hl x σ hS hI _ _ _ _ (x_22 ⟨ix0 (by omega), ix0 (by omega)⟩ (nix_big (by omega) (by omega)) rfl)) rfl rfl ⟨Nat.le_of_ble_eq_true rfl, Nat.le_of_ble_eq_true rfl⟩ ⟨by omega, by omega⟩ ⟨by show _ ≤ 220; omega, by show _ ≤ 1320; omega⟩ (Nat.le_of_ble_eq_true rfl) ?_
    clear hS hF n h
    intro n h hS hF
    refine V_ldc 796 C dL_refuses_794 rfl tw360 ?_
    refine V_icmp_ne 965 799 C dL_refuses_796 (by decide) rfl  (fun c796 => by exact absurd rfl c796) (fun c796 => ?_)
    refine V_aload_n 800 C dL_refuses_799 rfl rfl ?_
    refine V_bipush 802 C dL_refuses_800 rfl bip21 ?_
    refine V_iload 804 C dL_refuses_802 rfl rfl ?_
    refine V_iconst 805 C dL_refuses_804 rfl ic0 ?_
    refine V_iconst 806 C dL_refuses_805 rfl ic0 ?_
    refine V_q1 809 (140 + 24) (840 + 144) C hF dL_refuses_806 rfl mL_call.z tw250 (k_next l G _ _ hl x σ hS hI _ _ _ _ (x_1 (fun e => hno e.1) rfl)) rfl rfl ⟨Nat.le_of_ble_eq_true rfl, Nat.le_of_ble_eq_true rfl⟩ ⟨by omega, by omega⟩ ⟨by show _ ≤ 220; omega, by show _ ≤ 1320; omega⟩ (Nat.le_of_ble_eq_true rfl) ?_
    clear hS hF n h
    intro n h hS hF
    refine V_ldc 811 C dL_refuses_809 rfl tw593 ?_
    refine V_icmp_ne 965 814 C dL_refuses_811 (by decide) rfl  (fun c811 => by exact absurd rfl c811) (fun c811 => ?_)
    refine V_aload_n 815 C dL_refuses_814 rfl rfl ?_
    refine V_bipush 817 C dL_refuses_815 rfl bip21 ?_
    refine V_iconst 818 C dL_refuses_817 rfl ic0 ?_
    refine V_iload 820 C dL_refuses_818 rfl rfl ?_
    refine V_iconst 821 C dL_refuses_820 rfl ic0 ?_
    refine V_q1 824 (140 + 28) (840 + 168) C hF dL_refuses_821 rfl mL_call.z tw250 (k_next l G _ _ hl x σ hS hI _ _ _ _ (x_1 (fun e => hno e.2) rfl)) rfl rfl ⟨Nat.le_of_ble_eq_true rfl, Nat.le_of_ble_eq_true rfl⟩ ⟨by omega, by omega⟩ ⟨by show _ ≤ 220; omega, by show _ ≤ 1320; omega⟩ (Nat.le_of_ble_eq_true rfl) ?_
    clear hS hF n h
    intro n h hS hF
    refine V_ldc 826 C dL_refuses_824 rfl tw593 ?_
    refine V_icmp_ne 965 829 C dL_refuses_826 (by decide) rfl  (fun c826 => by exact absurd rfl c826) (fun c826 => ?_)
    refine V_aload_n 830 C dL_refuses_829 rfl rfl ?_
    refine V_bipush 832 C dL_refuses_830 rfl bip22 ?_
    refine V_iload 834 C dL_refuses_832 rfl rfl ?_
    refine V_iconst 835 C dL_refuses_834 rfl ic0 ?_
    refine V_iconst 836 C dL_refuses_835 rfl ic0 ?_
    refine V_q1 839 (140 + 32) (840 + 192) C hF dL_refuses_836 rfl mL_call.z tw250 (k_bring l G _ _ hl x σ hS hI _ _ _ _ (x_1 (fun e => hnn e.1) rfl)) rfl rfl ⟨Nat.le_of_ble_eq_true rfl, Nat.le_of_ble_eq_true rfl⟩ ⟨by omega, by omega⟩ ⟨by show _ ≤ 220; omega, by show _ ≤ 1320; omega⟩ (Nat.le_of_ble_eq_true rfl) ?_
    clear hS hF n h
    intro n h hS hF
    refine V_ldc 841 C dL_refuses_839 rfl tw593 ?_
    refine V_icmp_ne 965 844 C dL_refuses_841 (by decide) rfl  (fun c841 => by exact absurd rfl c841) (fun c841 => ?_)
    refine V_aload_n 845 C dL_refuses_844 rfl rfl ?_
    refine V_bipush 847 C dL_refuses_845 rfl bip22 ?_
    refine V_iconst 848 C dL_refuses_847 rfl ic0 ?_
    refine V_iload 850 C dL_refuses_848 rfl rfl ?_
    refine V_iconst 851 C dL_refuses_850 rfl ic0 ?_
    refine V_q1 854 (140 + 36) (840 + 216) C hF dL_refuses_851 rfl mL_call.z tw250 (k_bring l G _ _ hl x σ hS hI _ _ _ _ (x_1 (fun e => hno e.2) rfl)) rfl rfl ⟨Nat.le_of_ble_eq_true rfl, Nat.le_of_ble_eq_true rfl⟩ ⟨by omega, by omega⟩ ⟨by show _ ≤ 220; omega, by show _ ≤ 1320; omega⟩ (Nat.le_of_ble_eq_true rfl) ?_
    clear hS hF n h
    intro n h hS hF
    refine V_ldc 856 C dL_refuses_854 rfl tw593 ?_
    refine V_icmp_ne 965 859 C dL_refuses_856 (by decide) rfl  (fun c856 => by exact absurd rfl c856) (fun c856 => ?_)
    refine V_aload_n 860 C dL_refuses_859 rfl rfl ?_
    refine V_bipush 862 C dL_refuses_860 rfl bip23 ?_
    refine V_iconst 863 C dL_refuses_862 rfl icm1 ?_
    refine V_iload_n 864 C dL_refuses_863 rfl rfl ?_
    refine V_bipush 866 C dL_refuses_864 rfl bip9 ?_
    refine V_iremN 867 C dL_refuses_866 rfl (by omega) (by omega) (by omega) ?_
    refine V_isub 868 C dL_refuses_867 rfl  ?_
    refine V_iconst 869 C dL_refuses_868 rfl ic0 ?_
    refine V_iconst 870 C dL_refuses_869 rfl ic0 ?_
    refine V_q1 873 (140 + 40) (840 + 240) C hF dL_refuses_870 rfl mL_call.z tw250 (k_best l G _ _ hl x σ hS hI _ _ _ _ (x_1 (nix_neg (by omega)) rfl)) rfl rfl ⟨Nat.le_of_ble_eq_true rfl, Nat.le_of_ble_eq_true rfl⟩ ⟨by omega, by omega⟩ ⟨by show _ ≤ 220; omega, by show _ ≤ 1320; omega⟩ (Nat.le_of_ble_eq_true rfl) ?_
    clear hS hF n h
    intro n h hS hF
    refine V_ldc 875 C dL_refuses_873 rfl tw593 ?_
    refine V_icmp_ne 965 878 C dL_refuses_875 (by decide) rfl  (fun c875 => by exact absurd rfl c875) (fun c875 => ?_)
    refine V_aload_n 879 C dL_refuses_878 rfl rfl ?_
    refine V_bipush 881 C dL_refuses_879 rfl bip24 ?_
    refine V_iconst 882 C dL_refuses_881 rfl ic2 ?_
    refine V_iload_n 883 C dL_refuses_882 rfl rfl ?_
    refine V_bipush 885 C dL_refuses_883 rfl bip50 ?_
    refine V_iremN 886 C dL_refuses_885 rfl (by omega) (by omega) (by omega) ?_
    refine V_iaddN 887 C dL_refuses_886 rfl  ?_
    refine V_iconst 888 C dL_refuses_887 rfl ic0 ?_
    refine V_iconst 889 C dL_refuses_888 rfl ic0 ?_
    refine V_q1 892 (140 + 44) (840 + 264) C hF dL_refuses_889 rfl mL_call.z tw250 (k_keep l G _ _ hl x σ hS hI _ _ _ _ (x_1 (nix_big (by omega) (by omega)) rfl) _ (kp_x (nix_big (by omega) (by omega)))) rfl rfl ⟨Nat.le_of_ble_eq_true rfl, Nat.le_of_ble_eq_true rfl⟩ ⟨by omega, by omega⟩ ⟨by show _ ≤ 220; omega, by show _ ≤ 1320; omega⟩ (Nat.le_of_ble_eq_true rfl) ?_
    clear hS hF n h
    intro n h hS hF
    refine V_ldc 894 C dL_refuses_892 rfl tw593 ?_
    refine V_icmp_ne 965 897 C dL_refuses_894 (by decide) rfl  (fun c894 => by exact absurd rfl c894) (fun c894 => ?_)
    refine V_aload_n 898 C dL_refuses_897 rfl rfl ?_
    refine V_bipush 900 C dL_refuses_898 rfl bip25 ?_
    refine V_iconst 901 C dL_refuses_900 rfl icm1 ?_
    refine V_iload_n 902 C dL_refuses_901 rfl rfl ?_
    refine V_bipush 904 C dL_refuses_902 rfl bip9 ?_
    refine V_iremN 905 C dL_refuses_904 rfl (by omega) (by omega) (by omega) ?_
    refine V_isub 906 C dL_refuses_905 rfl  ?_
    refine V_iconst 907 C dL_refuses_906 rfl ic0 ?_
    refine V_iconst 908 C dL_refuses_907 rfl ic0 ?_
    refine V_q1 911 (140 + 48) (840 + 288) C hF dL_refuses_908 rfl mL_call.z tw250 (k_back l G _ _ hl x σ hS hI _ _ _ _ (x_21 (nix_neg (by omega)) rfl) _ (bk_x (nix_neg (by omega)))) rfl rfl ⟨Nat.le_of_ble_eq_true rfl, Nat.le_of_ble_eq_true rfl⟩ ⟨by omega, by omega⟩ ⟨by show _ ≤ 220; omega, by show _ ≤ 1320; omega⟩ (Nat.le_of_ble_eq_true rfl) ?_
    clear hS hF n h
    intro n h hS hF
    refine V_ldc 913 C dL_refuses_911 rfl tw593 ?_
    refine V_icmp_ne 965 916 C dL_refuses_913 (by decide) rfl  (fun c913 => by exact absurd rfl c913) (fun c913 => ?_)
    refine V_aload_n 917 C dL_refuses_916 rfl rfl ?_
    refine V_iconst 918 C dL_refuses_917 rfl ic0 ?_
    refine V_lconst (v := lN 0) 919 C dL_refuses_918 rfl rfl ?_
    refine V_w1 922 (140 + 52) (840 + 312) C hF dL_refuses_919 rfl mL_doScript tw881 (k_doScript l G _ _ hl x σ hS hI _ _ _ (x_1 sc0 rfl)) rfl rfl ⟨Nat.le_of_ble_eq_true rfl, Nat.le_of_ble_eq_true rfl⟩ ⟨by omega, by omega⟩ ⟨by show _ ≤ 220; omega, by show _ ≤ 1320; omega⟩ (Nat.le_of_ble_eq_true rfl) ?_
    clear hS hF n h
    intro n h hS hF
    refine V_ldc 924 C dL_refuses_922 rfl tw360 ?_
    refine V_icmp_ne 965 927 C dL_refuses_924 (by decide) rfl  (fun c924 => by exact absurd rfl c924) (fun c924 => ?_)
    refine V_aload_n 928 C dL_refuses_927 rfl rfl ?_
    refine V_iconst 929 C dL_refuses_928 rfl ic1 ?_
    refine V_ldc2 932 C dL_refuses_929 rfl tw911 ?_
    refine V_iload_n 933 C dL_refuses_932 rfl rfl ?_
    refine V_i2l 934 C dL_refuses_933 rfl  ?_
    refine V_ladd 935 C dL_refuses_934 rfl  ?_
    refine V_w1 938 (140 + 56) (840 + 336) C hF dL_refuses_935 rfl mL_doScript tw881 (k_doScript l G _ _ hl x σ hS hI _ _ _ (x_1 (sc1 (by omega)) rfl)) rfl rfl ⟨Nat.le_of_ble_eq_true rfl, Nat.le_of_ble_eq_true rfl⟩ ⟨by omega, by omega⟩ ⟨by show _ ≤ 220; omega, by show _ ≤ 1320; omega⟩ (Nat.le_of_ble_eq_true rfl) ?_
    clear hS hF n h
    intro n h hS hF
    refine V_ldc 940 C dL_refuses_938 rfl tw360 ?_
    refine V_icmp_ne 965 943 C dL_refuses_940 (by decide) rfl  (fun c940 => by exact absurd rfl c940) (fun c940 => ?_)
    refine V_aload_n 944 C dL_refuses_943 rfl rfl ?_
    refine V_iload_n 945 C dL_refuses_944 rfl rfl ?_
    refine V_i2l 946 C dL_refuses_945 rfl  ?_
    refine V_bipush 948 C dL_refuses_946 rfl bip61 ?_
    refine V_iload_n 949 C dL_refuses_948 rfl rfl ?_
    refine V_bipush 951 C dL_refuses_949 rfl bip9 ?_
    refine V_iremN 952 C dL_refuses_951 rfl (by omega) (by omega) (by omega) ?_
    refine V_iaddN 953 C dL_refuses_952 rfl  ?_
    refine V_w1 956 (140 + 60) (840 + 360) C hF dL_refuses_953 rfl mL_doSimulate tw912 (k_doSimulate l G _ _ hl x σ hS hI _ _ _ (x_1 (nrng (hi := 60) (by omega) (by omega)) rfl)) rfl rfl ⟨Nat.le_of_ble_eq_true rfl, Nat.le_of_ble_eq_true rfl⟩ ⟨by omega, by omega⟩ ⟨by show _ ≤ 220; omega, by show _ ≤ 1320; omega⟩ (Nat.le_of_ble_eq_true rfl) ?_
    clear hS hF n h
    intro n h hS hF
    refine V_ldc 958 C dL_refuses_956 rfl tw360 ?_
    refine V_icmp_ne 965 961 C dL_refuses_958 (by decide) rfl  (fun c958 => by exact absurd rfl c958) (fun c958 => ?_)
    refine V_iconst 962 C dL_refuses_961 rfl ic1 ?_
    refine V_goto 966 C dL_refuses_962 (by decide) ?_
    refine V_istore 968 C dL_refuses_966 rfl (by decide) (L' := [(0, _), (1, _), (2, _), (3, _), (4, _), (5, _), (6, _), (7, _), (8, _), (9, _), (10, _)]) rfl ?_
    refine V_L [0, 1, 2, 3, 4, 5, 10] rfl ?_
    exact V_wid _ _ (by omega) (by omega) (J968 _ _ hS hF)
  have J660 : ∀ (no nb nn wy : Int32) (v : Int32) (hno : ¬ ix no (σ.1 0)) (hnb : ¬ ix nb (σ.1 2)) (hnn : ¬ ix nn (σ.1 4)) (hwy : ¬ ix wy (σ.1 1)) (hv : ¬ (1 ≤ v.toInt ∧ v.toInt ≤ 60)) (n : Nat) (h : AH) (hS : SC x σ h) (hF : FX x h0 h), V p₀ l e₀ (rmD 11 220 1320) s₀ m₀ as₀ bl₀ me₀ c₀ (MQ bl₀ (Po G (PoS x h0 (nI 1) σ)) as₀ s₀ 220 1320 (rg G)) G 11 128 768 n h 660 [(0, .ref x), (1, .int (nI X)), (2, .int (nI (σ.1 0))), (3, .int (nI (σ.1 1))), (4, .int (nI (σ.1 2))), (5, .int (nI (σ.1 4))), (6, .int no), (7, .int nb), (8, .int nn), (9, .int wy)] [.int v, .int (nI 15), .ref x] := by
    intro no nb nn wy v hno hnb hnn hwy hv n h hS hF
    refine V_iconst 661 C dL_refuses_660 rfl ic0 ?_
    refine V_iconst 662 C dL_refuses_661 rfl ic0 ?_
    refine V_q1 665 (128 + 4) (768 + 24) C hF dL_refuses_662 rfl mL_call.z tw250 (k_hours l G _ _ hl x σ hS hI _ _ _ _ (a_R1 (cs := []) (hrR hv)).1 _ (a_R1 (cs := []) (hrR hv)).2) rfl rfl ⟨Nat.le_of_ble_eq_true rfl, Nat.le_of_ble_eq_true rfl⟩ ⟨by omega, by omega⟩ ⟨by show _ ≤ 220; omega, by show _ ≤ 1320; omega⟩ (Nat.le_of_ble_eq_true rfl) ?_
    clear hS hF n h
    intro n h hS hF
    refine V_ldc 667 C dL_refuses_665 rfl tw360 ?_
    refine V_icmp_ne 965 670 C dL_refuses_667 (by decide) rfl  (fun c667 => by exact absurd rfl c667) (fun c667 => ?_)
    refine V_aload_n 671 C dL_refuses_670 rfl rfl ?_
    refine V_bipush 673 C dL_refuses_671 rfl bip17 ?_
    refine V_iload 675 C dL_refuses_673 rfl rfl ?_
    refine V_iconst 676 C dL_refuses_675 rfl ic0 ?_
    refine V_iconst 677 C dL_refuses_676 rfl ic0 ?_
    refine V_q1 680 (128 + 8) (768 + 48) C hF dL_refuses_677 rfl mL_call.z tw250 (k_why l G _ _ hl x σ hS hI _ _ _ _ (x_1 hnn rfl)) rfl rfl ⟨Nat.le_of_ble_eq_true rfl, Nat.le_of_ble_eq_true rfl⟩ ⟨by omega, by omega⟩ ⟨by show _ ≤ 220; omega, by show _ ≤ 1320; omega⟩ (Nat.le_of_ble_eq_true rfl) ?_
    clear hS hF n h
    intro n h hS hF
    refine V_ldc 682 C dL_refuses_680 rfl tw593 ?_
    refine V_icmp_ne 965 685 C dL_refuses_682 (by decide) rfl  (fun c682 => by exact absurd rfl c682) (fun c682 => ?_)
    refine V_aload_n 686 C dL_refuses_685 rfl rfl ?_
    refine V_bipush 688 C dL_refuses_686 rfl bip18 ?_
    refine V_iload 690 C dL_refuses_688 rfl rfl ?_
    refine V_sipush 693 C dL_refuses_690 rfl sip999 ?_
    refine V_iconst 694 C dL_refuses_693 rfl ic0 ?_
    refine V_q1 697 (128 + 12) (768 + 72) C hF dL_refuses_694 rfl mL_call.z tw250 (k_later l G _ _ hl x σ hS hI _ _ _ _ (x_21 hnn rfl)) rfl rfl ⟨Nat.le_of_ble_eq_true rfl, Nat.le_of_ble_eq_true rfl⟩ ⟨by omega, by omega⟩ ⟨by show _ ≤ 220; omega, by show _ ≤ 1320; omega⟩ (Nat.le_of_ble_eq_true rfl) ?_
    clear hS hF n h
    intro n h hS hF
    refine V_ldc 699 C dL_refuses_697 rfl tw593 ?_
    refine V_icmp_ne 965 702 C dL_refuses_699 (by decide) rfl  (fun c699 => by exact absurd rfl c699) (fun c699 => ?_)
    refine V_aload_n 703 C dL_refuses_702 rfl rfl ?_
    refine V_bipush 705 C dL_refuses_703 rfl bip18 ?_
    refine V_iconst 706 C dL_refuses_705 rfl ic0 ?_
    refine V_iload_n 707 C dL_refuses_706 rfl rfl ?_
    refine V_iconst 708 C dL_refuses_707 rfl ic2 ?_
    refine V_iremN 709 C dL_refuses_708 rfl (by omega) (by omega) (by omega) ?_
    refine V_if_neN 716 712 C dL_refuses_709 (by decide) rfl (by omega) (fun c709 => ?_) (fun c709 => ?_)
    · skip
      refine V_sipush 719 C dL_refuses_716 rfl sip201 ?_
      refine V_iload_n 720 C dL_refuses_719 rfl rfl ?_
      refine V_bipush 722 C dL_refuses_720 rfl bip9 ?_
      refine V_iremN 723 C dL_refuses_722 rfl (by omega) (by omega) (by omega) ?_
      refine V_iaddN 724 C dL_refuses_723 rfl  ?_
      refine V_L [0, 1, 2, 3, 4, 5, 6, 7, 8, 9] rfl ?_
      exact V_wid _ _ (by omega) (by omega) (J724 no nb nn wy _ hno hnb hnn hwy (nix_big (by omega) (by omega)) _ _ hS hF)
    · skip
      refine V_iconst 713 C dL_refuses_712 rfl icm1 ?_
      refine V_goto 724 C dL_refuses_713 (by decide) ?_
      refine V_L [0, 1, 2, 3, 4, 5, 6, 7, 8, 9] rfl ?_
      exact V_wid _ _ (by omega) (by omega) (J724 no nb nn wy _ hno hnb hnn hwy nix_m1 _ _ hS hF)
  have J575 : ∀ (no nb nn wy : Int32) (v : Int32) (hno : ¬ ix no (σ.1 0)) (hnb : ¬ ix nb (σ.1 2)) (hnn : ¬ ix nn (σ.1 4)) (hwy : ¬ ix wy (σ.1 1)) (hv : ¬ ix v 10) (n : Nat) (h : AH) (hS : SC x σ h) (hF : FX x h0 h), V p₀ l e₀ (rmD 11 220 1320) s₀ m₀ as₀ bl₀ me₀ c₀ (MQ bl₀ (Po G (PoS x h0 (nI 1) σ)) as₀ s₀ 220 1320 (rg G)) G 11 108 648 n h 575 [(0, .ref x), (1, .int (nI X)), (2, .int (nI (σ.1 0))), (3, .int (nI (σ.1 1))), (4, .int (nI (σ.1 2))), (5, .int (nI (σ.1 4))), (6, .int no), (7, .int nb), (8, .int nn), (9, .int wy)] [.int v, .int (nI 0), .int (nI 14), .ref x] := by
    intro no nb nn wy v hno hnb hnn hwy hv n h hS hF
    refine V_iconst 576 C dL_refuses_575 rfl ic0 ?_
    refine V_q1 579 (108 + 4) (648 + 24) C hF dL_refuses_576 rfl mL_call.z tw250 (k_copy l G _ _ hl x σ hS hI _ _ _ _ (a_Rc (c1 := eI) (cs := []) (cpR (ix0 (by omega)) hv)).1 _ (a_Rc (c1 := eI) (cs := []) (cpR (ix0 (by omega)) hv)).2) rfl rfl ⟨Nat.le_of_ble_eq_true rfl, Nat.le_of_ble_eq_true rfl⟩ ⟨by omega, by omega⟩ ⟨by show _ ≤ 220; omega, by show _ ≤ 1320; omega⟩ (Nat.le_of_ble_eq_true rfl) ?_
    clear hS hF n h
    intro n h hS hF
    refine V_ldc 581 C dL_refuses_579 rfl tw360 ?_
    refine V_icmp_ne 965 584 C dL_refuses_581 (by decide) rfl  (fun c581 => by exact absurd rfl c581) (fun c581 => ?_)
    refine V_aload_n 585 C dL_refuses_584 rfl rfl ?_
    refine V_iload 587 C dL_refuses_585 rfl rfl ?_
    refine V_iconst 588 C dL_refuses_587 rfl ic0 ?_
    refine V_iconst 589 C dL_refuses_588 rfl ic0 ?_
    refine V_bipush 591 C dL_refuses_589 rfl bip99 ?_
    refine V_w1 594 (108 + 8) (648 + 48) C hF dL_refuses_591 rfl mL_proofs tw863 (k_proofs l G _ _ hl x σ hS hI _ _ _ _ _ (a_Nc (cs := [eA]) (prN (fun e => hnn e.1))).1 _ (a_Nc (cs := [eA]) (prN (fun e => hnn e.1))).2) rfl rfl ⟨Nat.le_of_ble_eq_true rfl, Nat.le_of_ble_eq_true rfl⟩ ⟨by omega, by omega⟩ ⟨by show _ ≤ 220; omega, by show _ ≤ 1320; omega⟩ (Nat.le_of_ble_eq_true rfl) ?_
    clear hS hF n h
    intro n h hS hF
    refine V_ldc 596 C dL_refuses_594 rfl tw593 ?_
    refine V_icmp_ne 965 599 C dL_refuses_596 (by decide) rfl  (fun c596 => by exact absurd rfl c596) (fun c596 => ?_)
    refine V_aload_n 600 C dL_refuses_599 rfl rfl ?_
    refine V_iconst 601 C dL_refuses_600 rfl ic0 ?_
    refine V_iload 603 C dL_refuses_601 rfl rfl ?_
    refine V_iconst 604 C dL_refuses_603 rfl ic0 ?_
    refine V_iconst 605 C dL_refuses_604 rfl ic0 ?_
    refine V_w1 608 (108 + 12) (648 + 72) C hF dL_refuses_605 rfl mL_proofs tw863 (k_proofs l G _ _ hl x σ hS hI _ _ _ _ _ (a_Nc (cs := [eA]) (prN (fun e => hnn e.2.1))).1 _ (a_Nc (cs := [eA]) (prN (fun e => hnn e.2.1))).2) rfl rfl ⟨Nat.le_of_ble_eq_true rfl, Nat.le_of_ble_eq_true rfl⟩ ⟨by omega, by omega⟩ ⟨by show _ ≤ 220; omega, by show _ ≤ 1320; omega⟩ (Nat.le_of_ble_eq_true rfl) ?_
    clear hS hF n h
    intro n h hS hF
    refine V_ldc 610 C dL_refuses_608 rfl tw593 ?_
    refine V_icmp_ne 965 613 C dL_refuses_610 (by decide) rfl  (fun c610 => by exact absurd rfl c610) (fun c610 => ?_)
    refine V_aload_n 614 C dL_refuses_613 rfl rfl ?_
    refine V_iconst 615 C dL_refuses_614 rfl ic0 ?_
    refine V_iconst 616 C dL_refuses_615 rfl ic0 ?_
    refine V_iload 618 C dL_refuses_616 rfl rfl ?_
    refine V_iconst 619 C dL_refuses_618 rfl ic0 ?_
    refine V_w1 622 (108 + 16) (648 + 96) C hF dL_refuses_619 rfl mL_proofs tw863 (k_proofs l G _ _ hl x σ hS hI _ _ _ _ _ (a_Nc (cs := [eA]) (prN (fun e => hnn e.2.2))).1 _ (a_Nc (cs := [eA]) (prN (fun e => hnn e.2.2))).2) rfl rfl ⟨Nat.le_of_ble_eq_true rfl, Nat.le_of_ble_eq_true rfl⟩ ⟨by omega, by omega⟩ ⟨by show _ ≤ 220; omega, by show _ ≤ 1320; omega⟩ (Nat.le_of_ble_eq_true rfl) ?_
    clear hS hF n h
    intro n h hS hF
    refine V_ldc 624 C dL_refuses_622 rfl tw593 ?_
    refine V_icmp_ne 965 627 C dL_refuses_624 (by decide) rfl  (fun c624 => by exact absurd rfl c624) (fun c624 => ?_)
    refine V_aload_n 628 C dL_refuses_627 rfl rfl ?_
    refine V_iconst 629 C dL_refuses_628 rfl ic0 ?_
    refine V_iconst 630 C dL_refuses_629 rfl ic0 ?_
    refine V_iconst 631 C dL_refuses_630 rfl ic0 ?_
    refine V_iconst 632 C dL_refuses_631 rfl ic0 ?_
    refine V_w1 635 (108 + 20) (648 + 120) C hF dL_refuses_632 rfl mL_proofs tw863 (k_proofs l G _ _ hl x σ hS hI _ _ _ _ _ (a_Rc (c1 := eI) (cs := []) (prR ⟨ix0 (by omega), ix0 (by omega), ix0 (by omega)⟩ rfl)).1 _ (a_Rc (c1 := eI) (cs := []) (prR ⟨ix0 (by omega), ix0 (by omega), ix0 (by omega)⟩ rfl)).2) rfl rfl ⟨Nat.le_of_ble_eq_true rfl, Nat.le_of_ble_eq_true rfl⟩ ⟨by omega, by omega⟩ ⟨by show _ ≤ 220; omega, by show _ ≤ 1320; omega⟩ (Nat.le_of_ble_eq_true rfl) ?_
    clear hS hF n h
    intro n h hS hF
    refine V_ldc 637 C dL_refuses_635 rfl tw360 ?_
    refine V_icmp_ne 965 640 C dL_refuses_637 (by decide) rfl  (fun c637 => by exact absurd rfl c637) (fun c637 => ?_)
    refine V_aload_n 641 C dL_refuses_640 rfl rfl ?_
    refine V_bipush 643 C dL_refuses_641 rfl bip15 ?_
    refine V_iload_n 644 C dL_refuses_643 rfl rfl ?_
    refine V_iconst 645 C dL_refuses_644 rfl ic2 ?_
    refine V_iremN 646 C dL_refuses_645 rfl (by omega) (by omega) (by omega) ?_
    refine V_if_neN 653 649 C dL_refuses_646 (by decide) rfl (by omega) (fun c646 => ?_) (fun c646 => ?_)
    · skip
      refine V_bipush 655 C dL_refuses_653 rfl bip61 ?_
      refine V_iload_n 656 C dL_refuses_655 rfl rfl ?_
      refine V_bipush 658 C dL_refuses_656 rfl bip9 ?_
      refine V_iremN 659 C dL_refuses_658 rfl (by omega) (by omega) (by omega) ?_
      refine V_iaddN 660 C dL_refuses_659 rfl  ?_
      refine V_L [0, 1, 2, 3, 4, 5, 6, 7, 8, 9] rfl ?_
      exact V_wid _ _ (by omega) (by omega) (J660 no nb nn wy _ hno hnb hnn hwy (nrng (hi := 60) (by omega) (by omega)) _ _ hS hF)
    · skip
      refine V_iconst 650 C dL_refuses_649 rfl ic0 ?_
      refine V_goto 660 C dL_refuses_650 (by decide) ?_
      refine V_L [0, 1, 2, 3, 4, 5, 6, 7, 8, 9] rfl ?_
      exact V_wid _ _ (by omega) (by omega) (J660 no nb nn wy _ hno hnb hnn hwy n0r _ _ hS hF)
  have J455 : ∀ (no nb nn wy : Int32) (v : Int32) (hno : ¬ ix no (σ.1 0)) (hnb : ¬ ix nb (σ.1 2)) (hnn : ¬ ix nn (σ.1 4)) (hwy : ¬ ix wy (σ.1 1)) (hv : ¬ ix v 10) (n : Nat) (h : AH) (hS : SC x σ h) (hF : FX x h0 h), V p₀ l e₀ (rmD 11 220 1320) s₀ m₀ as₀ bl₀ me₀ c₀ (MQ bl₀ (Po G (PoS x h0 (nI 1) σ)) as₀ s₀ 220 1320 (rg G)) G 11 80 480 n h 455 [(0, .ref x), (1, .int (nI X)), (2, .int (nI (σ.1 0))), (3, .int (nI (σ.1 1))), (4, .int (nI (σ.1 2))), (5, .int (nI (σ.1 4))), (6, .int no), (7, .int nb), (8, .int nn), (9, .int wy)] [.int v, .int (nI 5), .int (nI 0), .int (nI 10), .ref x] := by
    intro no nb nn wy v hno hnb hnn hwy hv n h hS hF
    refine V_q1 458 (80 + 4) (480 + 24) C hF dL_refuses_455 rfl mL_call.z tw250 (k_write l G _ _ hl x σ hS hI _ _ _ _ (a_R (c1 := eI) (cs := [eS]) (wrR (ix0 (by omega)) (fun e => hv e.2))).1 _ (a_R (c1 := eI) (cs := [eS]) (wrR (ix0 (by omega)) (fun e => hv e.2))).2) rfl rfl ⟨Nat.le_of_ble_eq_true rfl, Nat.le_of_ble_eq_true rfl⟩ ⟨by omega, by omega⟩ ⟨by show _ ≤ 220; omega, by show _ ≤ 1320; omega⟩ (Nat.le_of_ble_eq_true rfl) ?_
    clear hS hF n h
    intro n h hS hF
    refine V_ldc 460 C dL_refuses_458 rfl tw360 ?_
    refine V_icmp_ne 965 463 C dL_refuses_460 (by decide) rfl  (fun c460 => by exact absurd rfl c460) (fun c460 => ?_)
    refine V_aload_n 464 C dL_refuses_463 rfl rfl ?_
    refine V_bipush 466 C dL_refuses_464 rfl bip11 ?_
    refine V_iload 468 C dL_refuses_466 rfl rfl ?_
    refine V_iconst 469 C dL_refuses_468 rfl ic0 ?_
    refine V_iconst 470 C dL_refuses_469 rfl ic0 ?_
    refine V_q1 473 (80 + 8) (480 + 48) C hF dL_refuses_470 rfl mL_call.z tw250 (k_take l G _ _ hl x σ hS hI _ _ _ _ (a_N (cs := [eS]) (tkN (fun e => hnb e.1))).1 _ (a_N (cs := [eS]) (tkN (fun e => hnb e.1))).2) rfl rfl ⟨Nat.le_of_ble_eq_true rfl, Nat.le_of_ble_eq_true rfl⟩ ⟨by omega, by omega⟩ ⟨by show _ ≤ 220; omega, by show _ ≤ 1320; omega⟩ (Nat.le_of_ble_eq_true rfl) ?_
    clear hS hF n h
    intro n h hS hF
    refine V_ldc 475 C dL_refuses_473 rfl tw593 ?_
    refine V_icmp_ne 965 478 C dL_refuses_475 (by decide) rfl  (fun c475 => by exact absurd rfl c475) (fun c475 => ?_)
    refine V_aload_n 479 C dL_refuses_478 rfl rfl ?_
    refine V_bipush 481 C dL_refuses_479 rfl bip11 ?_
    refine V_iconst 482 C dL_refuses_481 rfl ic0 ?_
    refine V_iload 484 C dL_refuses_482 rfl rfl ?_
    refine V_iconst 485 C dL_refuses_484 rfl ic0 ?_
    refine V_q1 488 (80 + 12) (480 + 72) C hF dL_refuses_485 rfl mL_call.z tw250 (k_take l G _ _ hl x σ hS hI _ _ _ _ (a_N (cs := [eS]) (tkN (fun e => hnn e.2))).1 _ (a_N (cs := [eS]) (tkN (fun e => hnn e.2))).2) rfl rfl ⟨Nat.le_of_ble_eq_true rfl, Nat.le_of_ble_eq_true rfl⟩ ⟨by omega, by omega⟩ ⟨by show _ ≤ 220; omega, by show _ ≤ 1320; omega⟩ (Nat.le_of_ble_eq_true rfl) ?_
    clear hS hF n h
    intro n h hS hF
    refine V_ldc 490 C dL_refuses_488 rfl tw593 ?_
    refine V_icmp_ne 965 493 C dL_refuses_490 (by decide) rfl  (fun c490 => by exact absurd rfl c490) (fun c490 => ?_)
    refine V_aload_n 494 C dL_refuses_493 rfl rfl ?_
    refine V_bipush 496 C dL_refuses_494 rfl bip12 ?_
    refine V_iload 498 C dL_refuses_496 rfl rfl ?_
    refine V_iconst 499 C dL_refuses_498 rfl ic0 ?_
    refine V_iconst 500 C dL_refuses_499 rfl ic0 ?_
    refine V_q1 503 (80 + 16) (480 + 96) C hF dL_refuses_500 rfl mL_call.z tw250 (k_lay l G _ _ hl x σ hS hI _ _ _ _ (a_N (cs := [eS]) (lyN hnn)).1 _ (a_N (cs := [eS]) (lyN hnn)).2) rfl rfl ⟨Nat.le_of_ble_eq_true rfl, Nat.le_of_ble_eq_true rfl⟩ ⟨by omega, by omega⟩ ⟨by show _ ≤ 220; omega, by show _ ≤ 1320; omega⟩ (Nat.le_of_ble_eq_true rfl) ?_
    clear hS hF n h
    intro n h hS hF
    refine V_ldc 505 C dL_refuses_503 rfl tw593 ?_
    refine V_icmp_ne 965 508 C dL_refuses_505 (by decide) rfl  (fun c505 => by exact absurd rfl c505) (fun c505 => ?_)
    refine V_aload_n 509 C dL_refuses_508 rfl rfl ?_
    refine V_bipush 511 C dL_refuses_509 rfl bip13 ?_
    refine V_iload 513 C dL_refuses_511 rfl rfl ?_
    refine V_iconst 514 C dL_refuses_513 rfl ic0 ?_
    refine V_iconst 515 C dL_refuses_514 rfl ic0 ?_
    refine V_q1 518 (80 + 20) (480 + 120) C hF dL_refuses_515 rfl mL_call.z tw250 (k_go l G _ _ hl x σ hS hI _ _ _ _ (a_N (cs := [eS]) (goN (fun e => hnb e.1))).1 _ (a_N (cs := [eS]) (goN (fun e => hnb e.1))).2) rfl rfl ⟨Nat.le_of_ble_eq_true rfl, Nat.le_of_ble_eq_true rfl⟩ ⟨by omega, by omega⟩ ⟨by show _ ≤ 220; omega, by show _ ≤ 1320; omega⟩ (Nat.le_of_ble_eq_true rfl) ?_
    clear hS hF n h
    intro n h hS hF
    refine V_ldc 520 C dL_refuses_518 rfl tw593 ?_
    refine V_icmp_ne 965 523 C dL_refuses_520 (by decide) rfl  (fun c520 => by exact absurd rfl c520) (fun c520 => ?_)
    refine V_aload_n 524 C dL_refuses_523 rfl rfl ?_
    refine V_bipush 526 C dL_refuses_524 rfl bip13 ?_
    refine V_iconst 527 C dL_refuses_526 rfl ic0 ?_
    refine V_iload 529 C dL_refuses_527 rfl rfl ?_
    refine V_iconst 530 C dL_refuses_529 rfl ic0 ?_
    refine V_q1 533 (80 + 24) (480 + 144) C hF dL_refuses_530 rfl mL_call.z tw250 (k_go l G _ _ hl x σ hS hI _ _ _ _ (a_N (cs := [eS]) (goN (fun e => hwy e.2))).1 _ (a_N (cs := [eS]) (goN (fun e => hwy e.2))).2) rfl rfl ⟨Nat.le_of_ble_eq_true rfl, Nat.le_of_ble_eq_true rfl⟩ ⟨by omega, by omega⟩ ⟨by show _ ≤ 220; omega, by show _ ≤ 1320; omega⟩ (Nat.le_of_ble_eq_true rfl) ?_
    clear hS hF n h
    intro n h hS hF
    refine V_ldc 535 C dL_refuses_533 rfl tw593 ?_
    refine V_icmp_ne 965 538 C dL_refuses_535 (by decide) rfl  (fun c535 => by exact absurd rfl c535) (fun c535 => ?_)
    refine V_aload_n 539 C dL_refuses_538 rfl rfl ?_
    refine V_bipush 541 C dL_refuses_539 rfl bip14 ?_
    refine V_iload 543 C dL_refuses_541 rfl rfl ?_
    refine V_bipush 545 C dL_refuses_543 rfl bip99 ?_
    refine V_iconst 546 C dL_refuses_545 rfl ic0 ?_
    refine V_q1 549 (80 + 28) (480 + 168) C hF dL_refuses_546 rfl mL_call.z tw250 (k_copy l G _ _ hl x σ hS hI _ _ _ _ (a_Nc (cs := [eA]) (cpN hnn)).1 _ (a_Nc (cs := [eA]) (cpN hnn)).2) rfl rfl ⟨Nat.le_of_ble_eq_true rfl, Nat.le_of_ble_eq_true rfl⟩ ⟨by omega, by omega⟩ ⟨by show _ ≤ 220; omega, by show _ ≤ 1320; omega⟩ (Nat.le_of_ble_eq_true rfl) ?_
    clear hS hF n h
    intro n h hS hF
    refine V_ldc 551 C dL_refuses_549 rfl tw593 ?_
    refine V_icmp_ne 965 554 C dL_refuses_551 (by decide) rfl  (fun c551 => by exact absurd rfl c551) (fun c551 => ?_)
    refine V_aload_n 555 C dL_refuses_554 rfl rfl ?_
    refine V_bipush 557 C dL_refuses_555 rfl bip14 ?_
    refine V_iconst 558 C dL_refuses_557 rfl ic0 ?_
    refine V_iload_n 559 C dL_refuses_558 rfl rfl ?_
    refine V_iconst 560 C dL_refuses_559 rfl ic2 ?_
    refine V_iremN 561 C dL_refuses_560 rfl (by omega) (by omega) (by omega) ?_
    refine V_if_neN 568 564 C dL_refuses_561 (by decide) rfl (by omega) (fun c561 => ?_) (fun c561 => ?_)
    · skip
      refine V_bipush 570 C dL_refuses_568 rfl bip10 ?_
      refine V_iload_n 571 C dL_refuses_570 rfl rfl ?_
      refine V_bipush 573 C dL_refuses_571 rfl bip9 ?_
      refine V_iremN 574 C dL_refuses_573 rfl (by omega) (by omega) (by omega) ?_
      refine V_iaddN 575 C dL_refuses_574 rfl  ?_
      refine V_L [0, 1, 2, 3, 4, 5, 6, 7, 8, 9] rfl ?_
      exact V_wid _ _ (by omega) (by omega) (J575 no nb nn wy _ hno hnb hnn hwy (nix_big (by omega) (by omega)) _ _ hS hF)
    · skip
      refine V_iconst 565 C dL_refuses_564 rfl icm1 ?_
      refine V_goto 575 C dL_refuses_565 (by decide) ?_
      refine V_L [0, 1, 2, 3, 4, 5, 6, 7, 8, 9] rfl ?_
      exact V_wid _ _ (by omega) (by omega) (J575 no nb nn wy _ hno hnb hnn hwy nix_m1 _ _ hS hF)
  have J424 : ∀ (no nb nn wy : Int32) (v : Int32) (hno : ¬ ix no (σ.1 0)) (hnb : ¬ ix nb (σ.1 2)) (hnn : ¬ ix nn (σ.1 4)) (hwy : ¬ ix wy (σ.1 1)) (hv : ¬ ix v 1000000) (n : Nat) (h : AH) (hS : SC x σ h) (hF : FX x h0 h), V p₀ l e₀ (rmD 11 220 1320) s₀ m₀ as₀ bl₀ me₀ c₀ (MQ bl₀ (Po G (PoS x h0 (nI 1) σ)) as₀ s₀ 220 1320 (rg G)) G 11 76 456 n h 424 [(0, .ref x), (1, .int (nI X)), (2, .int (nI (σ.1 0))), (3, .int (nI (σ.1 1))), (4, .int (nI (σ.1 2))), (5, .int (nI (σ.1 4))), (6, .int no), (7, .int nb), (8, .int nn), (9, .int wy)] [.int v, .int (nI 0), .int (nI 10), .ref x] := by
    intro no nb nn wy v hno hnb hnn hwy hv n h hS hF
    refine V_iconst 425 C dL_refuses_424 rfl ic0 ?_
    refine V_q1 428 (76 + 4) (456 + 24) C hF dL_refuses_425 rfl mL_call.z tw250 (k_write l G _ _ hl x σ hS hI _ _ _ _ (a_R (c1 := eI) (cs := [eS]) (wrR (ix0 (by omega)) (fun e => hv e.1))).1 _ (a_R (c1 := eI) (cs := [eS]) (wrR (ix0 (by omega)) (fun e => hv e.1))).2) rfl rfl ⟨Nat.le_of_ble_eq_true rfl, Nat.le_of_ble_eq_true rfl⟩ ⟨by omega, by omega⟩ ⟨by show _ ≤ 220; omega, by show _ ≤ 1320; omega⟩ (Nat.le_of_ble_eq_true rfl) ?_
    clear hS hF n h
    intro n h hS hF
    refine V_ldc 430 C dL_refuses_428 rfl tw360 ?_
    refine V_icmp_ne 965 433 C dL_refuses_430 (by decide) rfl  (fun c430 => by exact absurd rfl c430) (fun c430 => ?_)
    refine V_aload_n 434 C dL_refuses_433 rfl rfl ?_
    refine V_bipush 436 C dL_refuses_434 rfl bip10 ?_
    refine V_iconst 437 C dL_refuses_436 rfl ic0 ?_
    refine V_iconst 438 C dL_refuses_437 rfl ic5 ?_
    refine V_iload_n 439 C dL_refuses_438 rfl rfl ?_
    refine V_iconst 440 C dL_refuses_439 rfl ic2 ?_
    refine V_iremN 441 C dL_refuses_440 rfl (by omega) (by omega) (by omega) ?_
    refine V_if_neN 448 444 C dL_refuses_441 (by decide) rfl (by omega) (fun c441 => ?_) (fun c441 => ?_)
    · skip
      refine V_bipush 450 C dL_refuses_448 rfl bip10 ?_
      refine V_iload_n 451 C dL_refuses_450 rfl rfl ?_
      refine V_bipush 453 C dL_refuses_451 rfl bip9 ?_
      refine V_iremN 454 C dL_refuses_453 rfl (by omega) (by omega) (by omega) ?_
      refine V_iaddN 455 C dL_refuses_454 rfl  ?_
      refine V_L [0, 1, 2, 3, 4, 5, 6, 7, 8, 9] rfl ?_
      exact V_wid _ _ (by omega) (by omega) (J455 no nb nn wy _ hno hnb hnn hwy (nix_big (by omega) (by omega)) _ _ hS hF)
    · skip
      refine V_iconst 445 C dL_refuses_444 rfl icm1 ?_
      refine V_goto 455 C dL_refuses_445 (by decide) ?_
      refine V_L [0, 1, 2, 3, 4, 5, 6, 7, 8, 9] rfl ?_
      exact V_wid _ _ (by omega) (by omega) (J455 no nb nn wy _ hno hnb hnn hwy nix_m1 _ _ hS hF)
  have J360 : ∀ (no nb nn wy : Int32) (v : Int32) (hno : ¬ ix no (σ.1 0)) (hnb : ¬ ix nb (σ.1 2)) (hnn : ¬ ix nn (σ.1 4)) (hwy : ¬ ix wy (σ.1 1)) (hv : ¬ (1 ≤ v.toInt ∧ v.toInt ≤ 20)) (n : Nat) (h : AH) (hS : SC x σ h) (hF : FX x h0 h), V p₀ l e₀ (rmD 11 220 1320) s₀ m₀ as₀ bl₀ me₀ c₀ (MQ bl₀ (Po G (PoS x h0 (nI 1) σ)) as₀ s₀ 220 1320 (rg G)) G 11 64 384 n h 360 [(0, .ref x), (1, .int (nI X)), (2, .int (nI (σ.1 0))), (3, .int (nI (σ.1 1))), (4, .int (nI (σ.1 2))), (5, .int (nI (σ.1 4))), (6, .int no), (7, .int nb), (8, .int nn), (9, .int wy)] [.int v, .int (nI 1), .int (nI 0), .int (nI 8), .ref x] := by
    intro no nb nn wy v hno hnb hnn hwy hv n h hS hF
    refine V_q1 363 (64 + 4) (384 + 24) C hF dL_refuses_360 rfl mL_call.z tw250 (k_road l G _ _ hl x σ hS hI _ _ _ _ (a_R (c1 := eI) (cs := [eS]) (rdR ⟨ix0 (by omega), ixn (by omega) (by omega)⟩ (Or.inr hv))).1 _ (a_R (c1 := eI) (cs := [eS]) (rdR ⟨ix0 (by omega), ixn (by omega) (by omega)⟩ (Or.inr hv))).2) rfl rfl ⟨Nat.le_of_ble_eq_true rfl, Nat.le_of_ble_eq_true rfl⟩ ⟨by omega, by omega⟩ ⟨by show _ ≤ 220; omega, by show _ ≤ 1320; omega⟩ (Nat.le_of_ble_eq_true rfl) ?_
    clear hS hF n h
    intro n h hS hF
    refine V_ldc 365 C dL_refuses_363 rfl tw360 ?_
    refine V_icmp_ne 965 368 C dL_refuses_365 (by decide) rfl  (fun c365 => by exact absurd rfl c365) (fun c365 => ?_)
    refine V_aload_n 369 C dL_refuses_368 rfl rfl ?_
    refine V_bipush 371 C dL_refuses_369 rfl bip9 ?_
    refine V_iload 373 C dL_refuses_371 rfl rfl ?_
    refine V_iconst 374 C dL_refuses_373 rfl ic0 ?_
    refine V_iconst 375 C dL_refuses_374 rfl ic0 ?_
    refine V_q1 378 (64 + 8) (384 + 48) C hF dL_refuses_375 rfl mL_call.z tw250 (k_runner l G _ _ hl x σ hS hI _ _ _ _ (a_N (cs := [eS]) (ruN hno)).1 _ (a_N (cs := [eS]) (ruN hno)).2) rfl rfl ⟨Nat.le_of_ble_eq_true rfl, Nat.le_of_ble_eq_true rfl⟩ ⟨by omega, by omega⟩ ⟨by show _ ≤ 220; omega, by show _ ≤ 1320; omega⟩ (Nat.le_of_ble_eq_true rfl) ?_
    clear hS hF n h
    intro n h hS hF
    refine V_ldc 380 C dL_refuses_378 rfl tw593 ?_
    refine V_icmp_ne 965 383 C dL_refuses_380 (by decide) rfl  (fun c380 => by exact absurd rfl c380) (fun c380 => ?_)
    refine V_aload_n 384 C dL_refuses_383 rfl rfl ?_
    refine V_bipush 386 C dL_refuses_384 rfl bip10 ?_
    refine V_iload 388 C dL_refuses_386 rfl rfl ?_
    refine V_iconst 389 C dL_refuses_388 rfl ic0 ?_
    refine V_iconst 390 C dL_refuses_389 rfl ic0 ?_
    refine V_q1 393 (64 + 12) (384 + 72) C hF dL_refuses_390 rfl mL_call.z tw250 (k_write l G _ _ hl x σ hS hI _ _ _ _ (a_N (cs := [eA, eS]) (wrN hno)).1 _ (a_N (cs := [eA, eS]) (wrN hno)).2) rfl rfl ⟨Nat.le_of_ble_eq_true rfl, Nat.le_of_ble_eq_true rfl⟩ ⟨by omega, by omega⟩ ⟨by show _ ≤ 220; omega, by show _ ≤ 1320; omega⟩ (Nat.le_of_ble_eq_true rfl) ?_
    clear hS hF n h
    intro n h hS hF
    refine V_ldc 395 C dL_refuses_393 rfl tw593 ?_
    refine V_icmp_ne 965 398 C dL_refuses_395 (by decide) rfl  (fun c395 => by exact absurd rfl c395) (fun c395 => ?_)
    refine V_aload_n 399 C dL_refuses_398 rfl rfl ?_
    refine V_bipush 401 C dL_refuses_399 rfl bip10 ?_
    refine V_iconst 402 C dL_refuses_401 rfl ic0 ?_
    refine V_iload_n 403 C dL_refuses_402 rfl rfl ?_
    refine V_iconst 404 C dL_refuses_403 rfl ic2 ?_
    refine V_iremN 405 C dL_refuses_404 rfl (by omega) (by omega) (by omega) ?_
    refine V_if_neN 417 408 C dL_refuses_405 (by decide) rfl (by omega) (fun c405 => ?_) (fun c405 => ?_)
    · skip
      refine V_ldc 419 C dL_refuses_417 rfl tw862 ?_
      refine V_st (st' := .int (nI 1000000) :: _) rfl ?_
      refine V_iload_n 420 C dL_refuses_419 rfl rfl ?_
      refine V_bipush 422 C dL_refuses_420 rfl bip9 ?_
      refine V_iremN 423 C dL_refuses_422 rfl (by omega) (by omega) (by omega) ?_
      refine V_iaddN 424 C dL_refuses_423 rfl  ?_
      refine V_L [0, 1, 2, 3, 4, 5, 6, 7, 8, 9] rfl ?_
      exact V_wid _ _ (by omega) (by omega) (J424 no nb nn wy _ hno hnb hnn hwy (nix_big (by omega) (by omega)) _ _ hS hF)
    · skip
      refine V_iconst 409 C dL_refuses_408 rfl icm1 ?_
      refine V_iload_n 410 C dL_refuses_409 rfl rfl ?_
      refine V_bipush 412 C dL_refuses_410 rfl bip9 ?_
      refine V_iremN 413 C dL_refuses_412 rfl (by omega) (by omega) (by omega) ?_
      refine V_isub 414 C dL_refuses_413 rfl  ?_
      refine V_goto 424 C dL_refuses_414 (by decide) ?_
      refine V_L [0, 1, 2, 3, 4, 5, 6, 7, 8, 9] rfl ?_
      exact V_wid _ _ (by omega) (by omega) (J424 no nb nn wy _ hno hnb hnn hwy (nix_neg (by omega)) _ _ hS hF)
  have J157 : ∀ (no nb nn wy : Int32) (v : Int32) (hno : ¬ ix no (σ.1 0)) (hnb : ¬ ix nb (σ.1 2)) (hnn : ¬ ix nn (σ.1 4)) (hwy : ¬ ix wy (σ.1 1)) (hv : ¬ ix v 256) (n : Nat) (h : AH) (hS : SC x σ h) (hF : FX x h0 h), V p₀ l e₀ (rmD 11 220 1320) s₀ m₀ as₀ bl₀ me₀ c₀ (MQ bl₀ (Po G (PoS x h0 (nI 1) σ)) as₀ s₀ 220 1320 (rg G)) G 11 16 96 n h 157 [(0, .ref x), (1, .int (nI X)), (2, .int (nI (σ.1 0))), (3, .int (nI (σ.1 1))), (4, .int (nI (σ.1 2))), (5, .int (nI (σ.1 4))), (6, .int no), (7, .int nb), (8, .int nn), (9, .int wy)] [.int v, .int (nI 0), .ref x] := by
    intro no nb nn wy v hno hnb hnn hwy hv n h hS hF
    refine V_iconst 158 C dL_refuses_157 rfl ic0 ?_
    refine V_iconst 159 C dL_refuses_158 rfl ic0 ?_
    refine V_q1 162 (16 + 4) (96 + 24) C hF dL_refuses_159 rfl mL_call.z tw250 (k_append l G _ _ hl x σ hS hI _ _ _ hv _ (x_21 hv rfl)) rfl rfl ⟨Nat.le_of_ble_eq_true rfl, Nat.le_of_ble_eq_true rfl⟩ ⟨by omega, by omega⟩ ⟨by show _ ≤ 220; omega, by show _ ≤ 1320; omega⟩ (Nat.le_of_ble_eq_true rfl) ?_
    clear hS hF n h
    intro n h hS hF
    refine V_ldc 164 C dL_refuses_162 rfl tw360 ?_
    refine V_icmp_ne 965 167 C dL_refuses_164 (by decide) rfl  (fun c164 => by exact absurd rfl c164) (fun c164 => ?_)
    refine V_aload_n 168 C dL_refuses_167 rfl rfl ?_
    refine V_iconst 169 C dL_refuses_168 rfl ic2 ?_
    refine V_bipush 171 C dL_refuses_169 rfl bip10 ?_
    refine V_iload_n 172 C dL_refuses_171 rfl rfl ?_
    refine V_bipush 174 C dL_refuses_172 rfl bip50 ?_
    refine V_iremN 175 C dL_refuses_174 rfl (by omega) (by omega) (by omega) ?_
    refine V_iaddN 176 C dL_refuses_175 rfl  ?_
    refine V_iconst 177 C dL_refuses_176 rfl ic0 ?_
    refine V_iconst 178 C dL_refuses_177 rfl ic0 ?_
    refine V_q1 181 (16 + 8) (96 + 48) C hF dL_refuses_178 rfl mL_call.z tw250 (k_about l G _ _ hl x σ hS hI _ _ _ _ (x_1 (nix_big (by omega) (by omega)) rfl)) rfl rfl ⟨Nat.le_of_ble_eq_true rfl, Nat.le_of_ble_eq_true rfl⟩ ⟨by omega, by omega⟩ ⟨by show _ ≤ 220; omega, by show _ ≤ 1320; omega⟩ (Nat.le_of_ble_eq_true rfl) ?_
    clear hS hF n h
    intro n h hS hF
    refine V_ldc 183 C dL_refuses_181 rfl tw360 ?_
    refine V_icmp_ne 965 186 C dL_refuses_183 (by decide) rfl  (fun c183 => by exact absurd rfl c183) (fun c183 => ?_)
    refine V_aload_n 187 C dL_refuses_186 rfl rfl ?_
    refine V_iconst 188 C dL_refuses_187 rfl ic3 ?_
    refine V_iload 190 C dL_refuses_188 rfl rfl ?_
    refine V_bipush 192 C dL_refuses_190 rfl bip99 ?_
    refine V_iconst 193 C dL_refuses_192 rfl ic0 ?_
    refine V_q1 196 (16 + 12) (96 + 72) C hF dL_refuses_193 rfl mL_call.z tw250 (k_way l G _ _ hl x σ hS hI _ _ _ _ (x_21 hwy rfl)) rfl rfl ⟨Nat.le_of_ble_eq_true rfl, Nat.le_of_ble_eq_true rfl⟩ ⟨by omega, by omega⟩ ⟨by show _ ≤ 220; omega, by show _ ≤ 1320; omega⟩ (Nat.le_of_ble_eq_true rfl) ?_
    clear hS hF n h
    intro n h hS hF
    refine V_ldc 198 C dL_refuses_196 rfl tw593 ?_
    refine V_icmp_ne 965 201 C dL_refuses_198 (by decide) rfl  (fun c198 => by exact absurd rfl c198) (fun c198 => ?_)
    refine V_aload_n 202 C dL_refuses_201 rfl rfl ?_
    refine V_iconst 203 C dL_refuses_202 rfl ic4 ?_
    refine V_iload 205 C dL_refuses_203 rfl rfl ?_
    refine V_bipush 207 C dL_refuses_205 rfl bip99 ?_
    refine V_iconst 208 C dL_refuses_207 rfl ic0 ?_
    refine V_q1 211 (16 + 16) (96 + 96) C hF dL_refuses_208 rfl mL_call.z tw250 (k_carrier l G _ _ hl x σ hS hI _ _ _ _ (x_21 hnb rfl)) rfl rfl ⟨Nat.le_of_ble_eq_true rfl, Nat.le_of_ble_eq_true rfl⟩ ⟨by omega, by omega⟩ ⟨by show _ ≤ 220; omega, by show _ ≤ 1320; omega⟩ (Nat.le_of_ble_eq_true rfl) ?_
    clear hS hF n h
    intro n h hS hF
    refine V_ldc 213 C dL_refuses_211 rfl tw593 ?_
    refine V_icmp_ne 965 216 C dL_refuses_213 (by decide) rfl  (fun c213 => by exact absurd rfl c213) (fun c213 => ?_)
    refine V_aload_n 217 C dL_refuses_216 rfl rfl ?_
    refine V_iconst 218 C dL_refuses_217 rfl ic4 ?_
    refine V_iconst 219 C dL_refuses_218 rfl ic0 ?_
    refine V_iconst 220 C dL_refuses_219 rfl ic4 ?_
    refine V_iload_n 221 C dL_refuses_220 rfl rfl ?_
    refine V_bipush 223 C dL_refuses_221 rfl bip9 ?_
    refine V_iremN 224 C dL_refuses_223 rfl (by omega) (by omega) (by omega) ?_
    refine V_iaddN 225 C dL_refuses_224 rfl  ?_
    refine V_iconst 226 C dL_refuses_225 rfl ic0 ?_
    refine V_q1 229 (16 + 20) (96 + 120) C hF dL_refuses_226 rfl mL_call.z tw250 (k_carrier l G _ _ hl x σ hS hI _ _ _ _ (x_22 (ix0 (by omega)) (nix_big (by omega) (by omega)) rfl)) rfl rfl ⟨Nat.le_of_ble_eq_true rfl, Nat.le_of_ble_eq_true rfl⟩ ⟨by omega, by omega⟩ ⟨by show _ ≤ 220; omega, by show _ ≤ 1320; omega⟩ (Nat.le_of_ble_eq_true rfl) ?_
    clear hS hF n h
    intro n h hS hF
    refine V_ldc 231 C dL_refuses_229 rfl tw360 ?_
    refine V_icmp_ne 965 234 C dL_refuses_231 (by decide) rfl  (fun c231 => by exact absurd rfl c231) (fun c231 => ?_)
    refine V_aload_n 235 C dL_refuses_234 rfl rfl ?_
    refine V_iconst 236 C dL_refuses_235 rfl ic5 ?_
    refine V_iload 238 C dL_refuses_236 rfl rfl ?_
    refine V_bipush 240 C dL_refuses_238 rfl bip99 ?_
    refine V_iconst 241 C dL_refuses_240 rfl ic0 ?_
    refine V_q1 244 (16 + 24) (96 + 144) C hF dL_refuses_241 rfl mL_call.z tw250 (k_sheet l G _ _ hl x σ hS hI _ _ _ _ (x_21 hnn rfl)) rfl rfl ⟨Nat.le_of_ble_eq_true rfl, Nat.le_of_ble_eq_true rfl⟩ ⟨by omega, by omega⟩ ⟨by show _ ≤ 220; omega, by show _ ≤ 1320; omega⟩ (Nat.le_of_ble_eq_true rfl) ?_
    clear hS hF n h
    intro n h hS hF
    refine V_ldc 246 C dL_refuses_244 rfl tw593 ?_
    refine V_icmp_ne 965 249 C dL_refuses_246 (by decide) rfl  (fun c246 => by exact absurd rfl c246) (fun c246 => ?_)
    refine V_aload_n 250 C dL_refuses_249 rfl rfl ?_
    refine V_iconst 251 C dL_refuses_250 rfl ic5 ?_
    refine V_iconst 252 C dL_refuses_251 rfl ic0 ?_
    refine V_bipush 254 C dL_refuses_252 rfl bip8 ?_
    refine V_iload_n 255 C dL_refuses_254 rfl rfl ?_
    refine V_bipush 257 C dL_refuses_255 rfl bip9 ?_
    refine V_iremN 258 C dL_refuses_257 rfl (by omega) (by omega) (by omega) ?_
    refine V_iaddN 259 C dL_refuses_258 rfl  ?_
    refine V_iconst 260 C dL_refuses_259 rfl ic0 ?_
    refine V_q1 263 (16 + 28) (96 + 168) C hF dL_refuses_260 rfl mL_call.z tw250 (k_sheet l G _ _ hl x σ hS hI _ _ _ _ (x_22 (ix0 (by omega)) (nix_big (by omega) (by omega)) rfl)) rfl rfl ⟨Nat.le_of_ble_eq_true rfl, Nat.le_of_ble_eq_true rfl⟩ ⟨by omega, by omega⟩ ⟨by show _ ≤ 220; omega, by show _ ≤ 1320; omega⟩ (Nat.le_of_ble_eq_true rfl) ?_
    clear hS hF n h
    intro n h hS hF
    refine V_ldc 265 C dL_refuses_263 rfl tw360 ?_
    refine V_icmp_ne 965 268 C dL_refuses_265 (by decide) rfl  (fun c265 => by exact absurd rfl c265) (fun c265 => ?_)
    refine V_aload_n 269 C dL_refuses_268 rfl rfl ?_
    refine V_bipush 271 C dL_refuses_269 rfl bip6 ?_
    refine V_aload_n 272 C dL_refuses_271 rfl rfl ?_
    refine V_iconst 273 C dL_refuses_272 rfl ic2 ?_
    refine V_iconst 274 C dL_refuses_273 rfl ic3 ?_
    refine V_iconst 275 C dL_refuses_274 rfl ic0 ?_
    refine V_iconst 276 C dL_refuses_275 rfl ic0 ?_
    refine V_q1 279 (16 + 32) (96 + 192) C hF dL_refuses_276 rfl mL_call.z tw250 (k_about l G _ _ hl x σ hS hI _ _ _ _ (v_ab (j := 3) (w := σ.1 3) (by omega) rfl)) rfl rfl ⟨Nat.le_of_ble_eq_true rfl, Nat.le_of_ble_eq_true rfl⟩ ⟨by omega, by omega⟩ ⟨by show _ ≤ 220; omega, by show _ ≤ 1320; omega⟩ (Nat.le_of_ble_eq_true rfl) ?_
    clear hS hF n h
    intro n h hS hF
    refine V_iload_n 280 C dL_refuses_279 rfl rfl ?_
    refine V_bipush 282 C dL_refuses_280 rfl bip9 ?_
    refine V_iremN 283 C dL_refuses_282 rfl (by omega) (by omega) (by omega) ?_
    refine V_iaddN 284 C dL_refuses_283 rfl  ?_
    refine V_iconst 285 C dL_refuses_284 rfl ic0 ?_
    refine V_iconst 286 C dL_refuses_285 rfl ic0 ?_
    refine V_q1 289 (16 + 36) (96 + 216) C hF dL_refuses_286 rfl mL_call.z tw250 (k_told l G _ _ hl x σ hS hI _ _ _ _ (x_1 (nix_big (by omega) (by omega)) rfl)) rfl rfl ⟨Nat.le_of_ble_eq_true rfl, Nat.le_of_ble_eq_true rfl⟩ ⟨by omega, by omega⟩ ⟨by show _ ≤ 220; omega, by show _ ≤ 1320; omega⟩ (Nat.le_of_ble_eq_true rfl) ?_
    clear hS hF n h
    intro n h hS hF
    refine V_ldc 291 C dL_refuses_289 rfl tw593 ?_
    refine V_icmp_ne 965 294 C dL_refuses_291 (by decide) rfl  (fun c291 => by exact absurd rfl c291) (fun c291 => ?_)
    refine V_aload_n 295 C dL_refuses_294 rfl rfl ?_
    refine V_bipush 297 C dL_refuses_295 rfl bip8 ?_
    refine V_iload 299 C dL_refuses_297 rfl rfl ?_
    refine V_iconst 300 C dL_refuses_299 rfl ic0 ?_
    refine V_iconst 301 C dL_refuses_300 rfl ic0 ?_
    refine V_q1 304 (16 + 40) (96 + 240) C hF dL_refuses_301 rfl mL_call.z tw250 (k_road l G _ _ hl x σ hS hI _ _ _ _ (a_N (cs := [eA, eS]) (rdN (fun e => hno e.1))).1 _ (a_N (cs := [eA, eS]) (rdN (fun e => hno e.1))).2) rfl rfl ⟨Nat.le_of_ble_eq_true rfl, Nat.le_of_ble_eq_true rfl⟩ ⟨by omega, by omega⟩ ⟨by show _ ≤ 220; omega, by show _ ≤ 1320; omega⟩ (Nat.le_of_ble_eq_true rfl) ?_
    clear hS hF n h
    intro n h hS hF
    refine V_ldc 306 C dL_refuses_304 rfl tw593 ?_
    refine V_icmp_ne 965 309 C dL_refuses_306 (by decide) rfl  (fun c306 => by exact absurd rfl c306) (fun c306 => ?_)
    refine V_aload_n 310 C dL_refuses_309 rfl rfl ?_
    refine V_bipush 312 C dL_refuses_310 rfl bip8 ?_
    refine V_iconst 313 C dL_refuses_312 rfl ic0 ?_
    refine V_iload 315 C dL_refuses_313 rfl rfl ?_
    refine V_iconst 316 C dL_refuses_315 rfl ic0 ?_
    refine V_q1 319 (16 + 44) (96 + 264) C hF dL_refuses_316 rfl mL_call.z tw250 (k_road l G _ _ hl x σ hS hI _ _ _ _ (a_N (cs := [eA, eS]) (rdN (fun e => hno e.2))).1 _ (a_N (cs := [eA, eS]) (rdN (fun e => hno e.2))).2) rfl rfl ⟨Nat.le_of_ble_eq_true rfl, Nat.le_of_ble_eq_true rfl⟩ ⟨by omega, by omega⟩ ⟨by show _ ≤ 220; omega, by show _ ≤ 1320; omega⟩ (Nat.le_of_ble_eq_true rfl) ?_
    clear hS hF n h
    intro n h hS hF
    refine V_ldc 321 C dL_refuses_319 rfl tw593 ?_
    refine V_icmp_ne 965 324 C dL_refuses_321 (by decide) rfl  (fun c321 => by exact absurd rfl c321) (fun c321 => ?_)
    refine V_aload_n 325 C dL_refuses_324 rfl rfl ?_
    refine V_bipush 327 C dL_refuses_325 rfl bip8 ?_
    refine V_iconst 328 C dL_refuses_327 rfl ic0 ?_
    refine V_iconst 329 C dL_refuses_328 rfl ic0 ?_
    refine V_iconst 330 C dL_refuses_329 rfl ic5 ?_
    refine V_q1 333 (16 + 48) (96 + 288) C hF dL_refuses_330 rfl mL_call.z tw250 (k_road l G _ _ hl x σ hS hI _ _ _ _ (a_R (c1 := eI) (cs := [eS]) (rdR ⟨ix0 (by omega), ix0 (by omega)⟩ (Or.inl rfl))).1 _ (a_R (c1 := eI) (cs := [eS]) (rdR ⟨ix0 (by omega), ix0 (by omega)⟩ (Or.inl rfl))).2) rfl rfl ⟨Nat.le_of_ble_eq_true rfl, Nat.le_of_ble_eq_true rfl⟩ ⟨by omega, by omega⟩ ⟨by show _ ≤ 220; omega, by show _ ≤ 1320; omega⟩ (Nat.le_of_ble_eq_true rfl) ?_
    clear hS hF n h
    intro n h hS hF
    refine V_ldc 335 C dL_refuses_333 rfl tw360 ?_
    refine V_icmp_ne 965 338 C dL_refuses_335 (by decide) rfl  (fun c335 => by exact absurd rfl c335) (fun c335 => ?_)
    refine V_aload_n 339 C dL_refuses_338 rfl rfl ?_
    refine V_bipush 341 C dL_refuses_339 rfl bip8 ?_
    refine V_iconst 342 C dL_refuses_341 rfl ic0 ?_
    refine V_iconst 343 C dL_refuses_342 rfl ic1 ?_
    refine V_iload_n 344 C dL_refuses_343 rfl rfl ?_
    refine V_iconst 345 C dL_refuses_344 rfl ic2 ?_
    refine V_iremN 346 C dL_refuses_345 rfl (by omega) (by omega) (by omega) ?_
    refine V_if_neN 353 349 C dL_refuses_346 (by decide) rfl (by omega) (fun c346 => ?_) (fun c346 => ?_)
    · skip
      refine V_bipush 355 C dL_refuses_353 rfl bip21 ?_
      refine V_iload_n 356 C dL_refuses_355 rfl rfl ?_
      refine V_bipush 358 C dL_refuses_356 rfl bip9 ?_
      refine V_iremN 359 C dL_refuses_358 rfl (by omega) (by omega) (by omega) ?_
      refine V_iaddN 360 C dL_refuses_359 rfl  ?_
      refine V_L [0, 1, 2, 3, 4, 5, 6, 7, 8, 9] rfl ?_
      exact V_wid _ _ (by omega) (by omega) (J360 no nb nn wy _ hno hnb hnn hwy (nrng (hi := 20) (by omega) (by omega)) _ _ hS hF)
    · skip
      refine V_iconst 350 C dL_refuses_349 rfl ic0 ?_
      refine V_goto 360 C dL_refuses_350 (by decide) ?_
      refine V_L [0, 1, 2, 3, 4, 5, 6, 7, 8, 9] rfl ?_
      exact V_wid _ _ (by omega) (by omega) (J360 no nb nn wy _ hno hnb hnn hwy n0r _ _ hS hF)
  have J132 : ∀ (no nb nn wy : Int32) (hno : ¬ ix no (σ.1 0)) (hnb : ¬ ix nb (σ.1 2)) (hnn : ¬ ix nn (σ.1 4)) (hwy : ¬ ix wy (σ.1 1)) (n : Nat) (h : AH) (hS : SC x σ h) (hF : FX x h0 h), V p₀ l e₀ (rmD 11 220 1320) s₀ m₀ as₀ bl₀ me₀ c₀ (MQ bl₀ (Po G (PoS x h0 (nI 1) σ)) as₀ s₀ 220 1320 (rg G)) G 11 16 96 n h 132 [(0, .ref x), (1, .int (nI X)), (2, .int (nI (σ.1 0))), (3, .int (nI (σ.1 1))), (4, .int (nI (σ.1 2))), (5, .int (nI (σ.1 4))), (6, .int no), (7, .int nb), (8, .int nn), (9, .int wy)] [] := by
    intro no nb nn wy hno hnb hnn hwy n h hS hF
    refine V_aload_n 133 C dL_refuses_132 rfl rfl ?_
    refine V_iconst 134 C dL_refuses_133 rfl ic0 ?_
    refine V_iload_n 135 C dL_refuses_134 rfl rfl ?_
    refine V_iconst 136 C dL_refuses_135 rfl ic2 ?_
    refine V_iremN 137 C dL_refuses_136 rfl (by omega) (by omega) (by omega) ?_
    refine V_if_neN 149 140 C dL_refuses_137 (by decide) rfl (by omega) (fun c137 => ?_) (fun c137 => ?_)
    · skip
      refine V_sipush 152 C dL_refuses_149 rfl sip256 ?_
      refine V_iload_n 153 C dL_refuses_152 rfl rfl ?_
      refine V_bipush 155 C dL_refuses_153 rfl bip9 ?_
      refine V_iremN 156 C dL_refuses_155 rfl (by omega) (by omega) (by omega) ?_
      refine V_iaddN 157 C dL_refuses_156 rfl  ?_
      refine V_L [0, 1, 2, 3, 4, 5, 6, 7, 8, 9] rfl ?_
      exact V_wid _ _ (by omega) (by omega) (J157 no nb nn wy _ hno hnb hnn hwy (nix_big (by omega) (by omega)) _ _ hS hF)
    · skip
      refine V_iconst 141 C dL_refuses_140 rfl icm1 ?_
      refine V_iload_n 142 C dL_refuses_141 rfl rfl ?_
      refine V_bipush 144 C dL_refuses_142 rfl bip9 ?_
      refine V_iremN 145 C dL_refuses_144 rfl (by omega) (by omega) (by omega) ?_
      refine V_isub 146 C dL_refuses_145 rfl  ?_
      refine V_goto 157 C dL_refuses_146 (by decide) ?_
      refine V_L [0, 1, 2, 3, 4, 5, 6, 7, 8, 9] rfl ?_
      exact V_wid _ _ (by omega) (by omega) (J157 no nb nn wy _ hno hnb hnn hwy (nix_neg (by omega)) _ _ hS hF)
  intro n h hS hF
  by_cases ep : X % 2 = 0
  · skip
    refine V_aload_n 1 C dL_refuses_0 rfl rfl ?_
    refine V_iconst 2 C dL_refuses_1 rfl ic2 ?_
    refine V_iconst 3 C dL_refuses_2 rfl ic0 ?_
    refine V_iconst 4 C dL_refuses_3 rfl ic0 ?_
    refine V_iconst 5 C dL_refuses_4 rfl ic0 ?_
    refine V_q1 8 (4) (24) C hF dL_refuses_5 rfl mL_call.z tw250 (k_about l G _ _ hl x σ hS hI _ _ _ _ (v_ab (j := 0) (w := σ.1 0) (by omega) rfl)) rfl rfl ⟨Nat.le_of_ble_eq_true rfl, Nat.le_of_ble_eq_true rfl⟩ ⟨by omega, by omega⟩ ⟨by show _ ≤ 220; omega, by show _ ≤ 1320; omega⟩ (Nat.le_of_ble_eq_true rfl) ?_
    clear hS hF n h
    intro n h hS hF
    refine V_istore_n 9 C dL_refuses_8 rfl (by decide) (L' := [(0, _), (1, _), (2, _)]) rfl ?_
    refine V_aload_n 10 C dL_refuses_9 rfl rfl ?_
    refine V_iconst 11 C dL_refuses_10 rfl ic2 ?_
    refine V_iconst 12 C dL_refuses_11 rfl ic1 ?_
    refine V_iconst 13 C dL_refuses_12 rfl ic0 ?_
    refine V_iconst 14 C dL_refuses_13 rfl ic0 ?_
    refine V_q1 17 (8) (48) C hF dL_refuses_14 rfl mL_call.z tw250 (k_about l G _ _ hl x σ hS hI _ _ _ _ (v_ab (j := 1) (w := σ.1 1) (by omega) rfl)) rfl rfl ⟨Nat.le_of_ble_eq_true rfl, Nat.le_of_ble_eq_true rfl⟩ ⟨by omega, by omega⟩ ⟨by show _ ≤ 220; omega, by show _ ≤ 1320; omega⟩ (Nat.le_of_ble_eq_true rfl) ?_
    clear hS hF n h
    intro n h hS hF
    refine V_istore_n 18 C dL_refuses_17 rfl (by decide) (L' := [(0, _), (1, _), (2, _), (3, _)]) rfl ?_
    refine V_aload_n 19 C dL_refuses_18 rfl rfl ?_
    refine V_iconst 20 C dL_refuses_19 rfl ic2 ?_
    refine V_iconst 21 C dL_refuses_20 rfl ic2 ?_
    refine V_iconst 22 C dL_refuses_21 rfl ic0 ?_
    refine V_iconst 23 C dL_refuses_22 rfl ic0 ?_
    refine V_q1 26 (12) (72) C hF dL_refuses_23 rfl mL_call.z tw250 (k_about l G _ _ hl x σ hS hI _ _ _ _ (v_ab (j := 2) (w := σ.1 2) (by omega) rfl)) rfl rfl ⟨Nat.le_of_ble_eq_true rfl, Nat.le_of_ble_eq_true rfl⟩ ⟨by omega, by omega⟩ ⟨by show _ ≤ 220; omega, by show _ ≤ 1320; omega⟩ (Nat.le_of_ble_eq_true rfl) ?_
    clear hS hF n h
    intro n h hS hF
    refine V_istore 28 C dL_refuses_26 rfl (by decide) (L' := [(0, _), (1, _), (2, _), (3, _), (4, _)]) rfl ?_
    refine V_aload_n 29 C dL_refuses_28 rfl rfl ?_
    refine V_iconst 30 C dL_refuses_29 rfl ic2 ?_
    refine V_iconst 31 C dL_refuses_30 rfl ic4 ?_
    refine V_iconst 32 C dL_refuses_31 rfl ic0 ?_
    refine V_iconst 33 C dL_refuses_32 rfl ic0 ?_
    refine V_q1 36 (16) (96) C hF dL_refuses_33 rfl mL_call.z tw250 (k_about l G _ _ hl x σ hS hI _ _ _ _ (v_ab (j := 4) (w := σ.1 4) (by omega) rfl)) rfl rfl ⟨Nat.le_of_ble_eq_true rfl, Nat.le_of_ble_eq_true rfl⟩ ⟨by omega, by omega⟩ ⟨by show _ ≤ 220; omega, by show _ ≤ 1320; omega⟩ (Nat.le_of_ble_eq_true rfl) ?_
    clear hS hF n h
    intro n h hS hF
    refine V_istore 38 C dL_refuses_36 rfl (by decide) (L' := [(0, _), (1, _), (2, _), (3, _), (4, _), (5, _)]) rfl ?_
    refine V_iload_n 39 C dL_refuses_38 rfl rfl ?_
    refine V_iconst 40 C dL_refuses_39 rfl ic2 ?_
    refine V_iremN 41 C dL_refuses_40 rfl (by omega) (by omega) (by omega) ?_
    refine V_if_neN 53 44 C dL_refuses_41 (by decide) rfl (by omega) (fun c41 => by omega) (fun c41 => ?_)
    refine V_iconst 45 C dL_refuses_44 rfl icm1 ?_
    refine V_iload_n 46 C dL_refuses_45 rfl rfl ?_
    refine V_bipush 48 C dL_refuses_46 rfl bip99 ?_
    refine V_iremN 49 C dL_refuses_48 rfl (by omega) (by omega) (by omega) ?_
    refine V_isub 50 C dL_refuses_49 rfl  ?_
    refine V_goto 59 C dL_refuses_50 (by decide) ?_
    refine V_istore 61 C dL_refuses_59 rfl (by decide) (L' := [(0, _), (1, _), (2, _), (3, _), (4, _), (5, _), (6, _)]) rfl ?_
    refine V_iload_n 62 C dL_refuses_61 rfl rfl ?_
    refine V_iconst 63 C dL_refuses_62 rfl ic2 ?_
    refine V_iremN 64 C dL_refuses_63 rfl (by omega) (by omega) (by omega) ?_
    refine V_if_neN 76 67 C dL_refuses_64 (by decide) rfl (by omega) (fun c64 => by omega) (fun c64 => ?_)
    refine V_iconst 68 C dL_refuses_67 rfl icm1 ?_
    refine V_iload_n 69 C dL_refuses_68 rfl rfl ?_
    refine V_bipush 71 C dL_refuses_69 rfl bip99 ?_
    refine V_iremN 72 C dL_refuses_71 rfl (by omega) (by omega) (by omega) ?_
    refine V_isub 73 C dL_refuses_72 rfl  ?_
    refine V_goto 83 C dL_refuses_73 (by decide) ?_
    refine V_istore 85 C dL_refuses_83 rfl (by decide) (L' := [(0, _), (1, _), (2, _), (3, _), (4, _), (5, _), (6, _), (7, _)]) rfl ?_
    refine V_iload_n 86 C dL_refuses_85 rfl rfl ?_
    refine V_iconst 87 C dL_refuses_86 rfl ic2 ?_
    refine V_iremN 88 C dL_refuses_87 rfl (by omega) (by omega) (by omega) ?_
    refine V_if_neN 100 91 C dL_refuses_88 (by decide) rfl (by omega) (fun c88 => by omega) (fun c88 => ?_)
    refine V_iconst 92 C dL_refuses_91 rfl icm1 ?_
    refine V_iload_n 93 C dL_refuses_92 rfl rfl ?_
    refine V_bipush 95 C dL_refuses_93 rfl bip99 ?_
    refine V_iremN 96 C dL_refuses_95 rfl (by omega) (by omega) (by omega) ?_
    refine V_isub 97 C dL_refuses_96 rfl  ?_
    refine V_goto 107 C dL_refuses_97 (by decide) ?_
    refine V_istore 109 C dL_refuses_107 rfl (by decide) (L' := [(0, _), (1, _), (2, _), (3, _), (4, _), (5, _), (6, _), (7, _), (8, _)]) rfl ?_
    refine V_iload_n 110 C dL_refuses_109 rfl rfl ?_
    refine V_iconst 111 C dL_refuses_110 rfl ic2 ?_
    refine V_iremN 112 C dL_refuses_111 rfl (by omega) (by omega) (by omega) ?_
    refine V_if_neN 124 115 C dL_refuses_112 (by decide) rfl (by omega) (fun c112 => by omega) (fun c112 => ?_)
    refine V_iconst 116 C dL_refuses_115 rfl icm1 ?_
    refine V_iload_n 117 C dL_refuses_116 rfl rfl ?_
    refine V_bipush 119 C dL_refuses_117 rfl bip99 ?_
    refine V_iremN 120 C dL_refuses_119 rfl (by omega) (by omega) (by omega) ?_
    refine V_isub 121 C dL_refuses_120 rfl  ?_
    refine V_goto 130 C dL_refuses_121 (by decide) ?_
    refine V_istore 132 C dL_refuses_130 rfl (by decide) (L' := [(0, _), (1, _), (2, _), (3, _), (4, _), (5, _), (6, _), (7, _), (8, _), (9, _)]) rfl ?_
    refine V_L [0, 1, 2, 3, 4, 5, 6, 7, 8, 9] rfl ?_
    exact V_wid _ _ (by omega) (by omega) (J132 _ _ _ _ (nix_neg (by omega)) (nix_neg (by omega)) (nix_neg (by omega)) (nix_neg (by omega)) _ _ hS hF)
  · skip
    refine V_aload_n 1 C dL_refuses_0 rfl rfl ?_
    refine V_iconst 2 C dL_refuses_1 rfl ic2 ?_
    refine V_iconst 3 C dL_refuses_2 rfl ic0 ?_
    refine V_iconst 4 C dL_refuses_3 rfl ic0 ?_
    refine V_iconst 5 C dL_refuses_4 rfl ic0 ?_
    refine V_q1 8 (4) (24) C hF dL_refuses_5 rfl mL_call.z tw250 (k_about l G _ _ hl x σ hS hI _ _ _ _ (v_ab (j := 0) (w := σ.1 0) (by omega) rfl)) rfl rfl ⟨Nat.le_of_ble_eq_true rfl, Nat.le_of_ble_eq_true rfl⟩ ⟨by omega, by omega⟩ ⟨by show _ ≤ 220; omega, by show _ ≤ 1320; omega⟩ (Nat.le_of_ble_eq_true rfl) ?_
    clear hS hF n h
    intro n h hS hF
    refine V_istore_n 9 C dL_refuses_8 rfl (by decide) (L' := [(0, _), (1, _), (2, _)]) rfl ?_
    refine V_aload_n 10 C dL_refuses_9 rfl rfl ?_
    refine V_iconst 11 C dL_refuses_10 rfl ic2 ?_
    refine V_iconst 12 C dL_refuses_11 rfl ic1 ?_
    refine V_iconst 13 C dL_refuses_12 rfl ic0 ?_
    refine V_iconst 14 C dL_refuses_13 rfl ic0 ?_
    refine V_q1 17 (8) (48) C hF dL_refuses_14 rfl mL_call.z tw250 (k_about l G _ _ hl x σ hS hI _ _ _ _ (v_ab (j := 1) (w := σ.1 1) (by omega) rfl)) rfl rfl ⟨Nat.le_of_ble_eq_true rfl, Nat.le_of_ble_eq_true rfl⟩ ⟨by omega, by omega⟩ ⟨by show _ ≤ 220; omega, by show _ ≤ 1320; omega⟩ (Nat.le_of_ble_eq_true rfl) ?_
    clear hS hF n h
    intro n h hS hF
    refine V_istore_n 18 C dL_refuses_17 rfl (by decide) (L' := [(0, _), (1, _), (2, _), (3, _)]) rfl ?_
    refine V_aload_n 19 C dL_refuses_18 rfl rfl ?_
    refine V_iconst 20 C dL_refuses_19 rfl ic2 ?_
    refine V_iconst 21 C dL_refuses_20 rfl ic2 ?_
    refine V_iconst 22 C dL_refuses_21 rfl ic0 ?_
    refine V_iconst 23 C dL_refuses_22 rfl ic0 ?_
    refine V_q1 26 (12) (72) C hF dL_refuses_23 rfl mL_call.z tw250 (k_about l G _ _ hl x σ hS hI _ _ _ _ (v_ab (j := 2) (w := σ.1 2) (by omega) rfl)) rfl rfl ⟨Nat.le_of_ble_eq_true rfl, Nat.le_of_ble_eq_true rfl⟩ ⟨by omega, by omega⟩ ⟨by show _ ≤ 220; omega, by show _ ≤ 1320; omega⟩ (Nat.le_of_ble_eq_true rfl) ?_
    clear hS hF n h
    intro n h hS hF
    refine V_istore 28 C dL_refuses_26 rfl (by decide) (L' := [(0, _), (1, _), (2, _), (3, _), (4, _)]) rfl ?_
    refine V_aload_n 29 C dL_refuses_28 rfl rfl ?_
    refine V_iconst 30 C dL_refuses_29 rfl ic2 ?_
    refine V_iconst 31 C dL_refuses_30 rfl ic4 ?_
    refine V_iconst 32 C dL_refuses_31 rfl ic0 ?_
    refine V_iconst 33 C dL_refuses_32 rfl ic0 ?_
    refine V_q1 36 (16) (96) C hF dL_refuses_33 rfl mL_call.z tw250 (k_about l G _ _ hl x σ hS hI _ _ _ _ (v_ab (j := 4) (w := σ.1 4) (by omega) rfl)) rfl rfl ⟨Nat.le_of_ble_eq_true rfl, Nat.le_of_ble_eq_true rfl⟩ ⟨by omega, by omega⟩ ⟨by show _ ≤ 220; omega, by show _ ≤ 1320; omega⟩ (Nat.le_of_ble_eq_true rfl) ?_
    clear hS hF n h
    intro n h hS hF
    refine V_istore 38 C dL_refuses_36 rfl (by decide) (L' := [(0, _), (1, _), (2, _), (3, _), (4, _), (5, _)]) rfl ?_
    refine V_iload_n 39 C dL_refuses_38 rfl rfl ?_
    refine V_iconst 40 C dL_refuses_39 rfl ic2 ?_
    refine V_iremN 41 C dL_refuses_40 rfl (by omega) (by omega) (by omega) ?_
    refine V_if_neN 53 44 C dL_refuses_41 (by decide) rfl (by omega) (fun c41 => ?_) (fun c41 => by omega)
    refine V_iload_n 54 C dL_refuses_53 rfl rfl ?_
    refine V_iload_n 55 C dL_refuses_54 rfl rfl ?_
    refine V_bipush 57 C dL_refuses_55 rfl bip99 ?_
    refine V_iremN 58 C dL_refuses_57 rfl (by omega) (by omega) (by omega) ?_
    refine V_iaddN 59 C dL_refuses_58 rfl  ?_
    refine V_istore 61 C dL_refuses_59 rfl (by decide) (L' := [(0, _), (1, _), (2, _), (3, _), (4, _), (5, _), (6, _)]) rfl ?_
    refine V_iload_n 62 C dL_refuses_61 rfl rfl ?_
    refine V_iconst 63 C dL_refuses_62 rfl ic2 ?_
    refine V_iremN 64 C dL_refuses_63 rfl (by omega) (by omega) (by omega) ?_
    refine V_if_neN 76 67 C dL_refuses_64 (by decide) rfl (by omega) (fun c64 => ?_) (fun c64 => by omega)
    refine V_iload 78 C dL_refuses_76 rfl rfl ?_
    refine V_iload_n 79 C dL_refuses_78 rfl rfl ?_
    refine V_bipush 81 C dL_refuses_79 rfl bip99 ?_
    refine V_iremN 82 C dL_refuses_81 rfl (by omega) (by omega) (by omega) ?_
    refine V_iaddN 83 C dL_refuses_82 rfl  ?_
    refine V_istore 85 C dL_refuses_83 rfl (by decide) (L' := [(0, _), (1, _), (2, _), (3, _), (4, _), (5, _), (6, _), (7, _)]) rfl ?_
    refine V_iload_n 86 C dL_refuses_85 rfl rfl ?_
    refine V_iconst 87 C dL_refuses_86 rfl ic2 ?_
    refine V_iremN 88 C dL_refuses_87 rfl (by omega) (by omega) (by omega) ?_
    refine V_if_neN 100 91 C dL_refuses_88 (by decide) rfl (by omega) (fun c88 => ?_) (fun c88 => by omega)
    refine V_iload 102 C dL_refuses_100 rfl rfl ?_
    refine V_iload_n 103 C dL_refuses_102 rfl rfl ?_
    refine V_bipush 105 C dL_refuses_103 rfl bip99 ?_
    refine V_iremN 106 C dL_refuses_105 rfl (by omega) (by omega) (by omega) ?_
    refine V_iaddN 107 C dL_refuses_106 rfl  ?_
    refine V_istore 109 C dL_refuses_107 rfl (by decide) (L' := [(0, _), (1, _), (2, _), (3, _), (4, _), (5, _), (6, _), (7, _), (8, _)]) rfl ?_
    refine V_iload_n 110 C dL_refuses_109 rfl rfl ?_
    refine V_iconst 111 C dL_refuses_110 rfl ic2 ?_
    refine V_iremN 112 C dL_refuses_111 rfl (by omega) (by omega) (by omega) ?_
    refine V_if_neN 124 115 C dL_refuses_112 (by decide) rfl (by omega) (fun c112 => ?_) (fun c112 => by omega)
    refine V_iload_n 125 C dL_refuses_124 rfl rfl ?_
    refine V_iload_n 126 C dL_refuses_125 rfl rfl ?_
    refine V_bipush 128 C dL_refuses_126 rfl bip99 ?_
    refine V_iremN 129 C dL_refuses_128 rfl (by omega) (by omega) (by omega) ?_
    refine V_iaddN 130 C dL_refuses_129 rfl  ?_
    refine V_istore 132 C dL_refuses_130 rfl (by decide) (L' := [(0, _), (1, _), (2, _), (3, _), (4, _), (5, _), (6, _), (7, _), (8, _), (9, _)]) rfl ?_
    refine V_L [0, 1, 2, 3, 4, 5, 6, 7, 8, 9] rfl ?_
    exact V_wid _ _ (by omega) (by omega) (J132 _ _ _ _ (nix_big (by omega) (by omega)) (nix_big (by omega) (by omega)) (nix_big (by omega) (by omega)) (nix_big (by omega) (by omega)) _ _ hS hF)

