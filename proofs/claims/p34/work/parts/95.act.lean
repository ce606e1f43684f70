/-! THE LAW'S ACTS -/
theorem kA_t {A : Ar} {y : Nat → Nat} {i1 i2 i3 v : Nat} (h : A.1 = nI v) (hv : v < 2 ^ 31) : A.2 = y ∨ kA i1 i2 i3 A.1 = 0 := Or.inr (by rw [h]; exact kA_0 (nIc hv))
theorem ok_tw {y : Nat → Nat} (hI : Iv y) (i1 i2 i3 : Nat) : (aTw y).2 = y ∨ kA i1 i2 i3 (aTw y).1 = 0 := by
  have := hI.1
  unfold aTw
  split
  · exact kA_t (v := y 0) rfl (by omega)
  · exact Or.inl rfl
theorem ok_rd {y : Nat → Nat} (hI : Iv y) (a b w : Int32) (i1 i2 i3 : Nat) : (aRd y a b w).2 = y ∨ kA i1 i2 i3 (aRd y a b w).1 = 0 := by
  have := hI.1
  unfold aRd
  split
  · split
    · exact Or.inl rfl
    · split
      · exact kA_t (v := y 1) rfl (by omega)
      · exact Or.inl rfl
  · exact Or.inl rfl
theorem ok_ru {y : Nat → Nat} (hI : Iv y) (t : Int32) (i1 i2 i3 : Nat) : (aRu y t).2 = y ∨ kA i1 i2 i3 (aRu y t).1 = 0 := by
  have := hI.1
  unfold aRu
  split
  · split
    · exact kA_t (v := y 2) rfl (by omega)
    · exact Or.inl rfl
  · exact Or.inl rfl
theorem ok_wr {y : Nat → Nat} (hI : Iv y) (t d f : Int32) (i1 i2 i3 : Nat) : (aWr y t d f).2 = y ∨ kA i1 i2 i3 (aWr y t d f).1 = 0 := by
  have := hI.1
  unfold aWr
  split
  · split
    · split
      · exact kA_t (v := y 3) rfl (by omega)
      · exact Or.inl rfl
    · exact Or.inl rfl
  · exact Or.inl rfl
theorem ok_tk {y : Nat → Nat} (r s : Int32) (i1 i2 i3 : Nat) : (aTk y r s).2 = y ∨ kA i1 i2 i3 (aTk y r s).1 = 0 := by
  unfold aTk
  split
  · split
    · next c => exact kA_t (v := car y (z r) + 1) rfl (by have := c.2.2.2; omega)
    · exact Or.inl rfl
  · exact Or.inl rfl
theorem ok_ly {y : Nat → Nat} (hI : Iv y) (s : Int32) (i1 i2 i3 : Nat) : (aLy y s).2 = y ∨ kA i1 i2 i3 (aLy y s).1 = 0 := by
  unfold aLy
  split
  · next g =>
    split
    · next c => exact kA_t (v := pof y (z s)) rfl (pof_31 hI (z_ix g) c.1)
    · exact Or.inl rfl
  · exact Or.inl rfl
theorem ok_go {y : Nat → Nat} (hI : Iv y) (r w : Int32) (i1 i2 i3 : Nat) : (aGo y r w).2 = y ∨ kA i1 i2 i3 (aGo y r w).1 = 0 := by
  have := hI.1
  unfold aGo
  split
  · next g =>
    split
    · next c => exact kA_t (v := goT y (z r) (z w)) rfl (by have := goT_b hI (z r) (z_ix g.2); omega)
    · exact Or.inl rfl
  · exact Or.inl rfl
theorem ok_hr {y : Nat → Nat} (hI : Iv y) (k : Int32) (i1 i2 i3 : Nat) : (aHr y k).2 = y ∨ kA i1 i2 i3 (aHr y k).1 = 0 := by
  unfold aHr
  split
  · next c =>
    have hz : z k ≤ 60 := by unfold z; omega
    exact kA_t (v := coms y (z k)) rfl (by have := coms_le hI (z k); omega)
  · exact Or.inl rfl
theorem ok_cp {y : Nat → Nat} (s f : Int32) (i1 i2 i3 : Nat) : cnt (aCp y s f) = y ∨ kA i1 i2 i3 (aCp y s f).1 = 0 := by
  unfold aCp
  split
  · split
    · exact Or.inr (kA_0 (nIc (by have := crs_le y (z s); omega)))
    · exact Or.inl (cnt_r (Or.inr rfl))
  · exact Or.inl (cnt_r (Or.inl rfl))
theorem ok_pr {y : Nat → Nat} (a b c f : Int32) (i1 i2 i3 : Nat) : cnt (aPr y a b c f) = y ∨ kA i1 i2 i3 (aPr y a b c f).1 = 0 := by
  unfold aPr
  split
  · split
    · exact Or.inr (kA_0 (nIc (by have := prs_le y (z a) (z b) (z c); omega)))
    · exact Or.inl (cnt_r (Or.inr rfl))
  · exact Or.inl (cnt_r (Or.inl rfl))
theorem JS_act {B : Nat} {σ : St} {y' : Nat → Nat} {kk : Nat} (hJ : JS B σ) (hE : EV (B + 60) y' ∧ MN σ.1 y') (h : y' = σ.1 ∨ kk = 0) : JS (B + 60) (y', aK kk σ.2.1, aD kk σ.2.1 σ.2.2.1 σ.1, σ.2.2.2.1, σ.2.2.2.2) := by
  by_cases e : kk = 0
  · subst e
    exact JS_psh hJ (by omega) (JV.mn hJ.1 hE)
  · have h := h.resolve_right e
    subst h
    have e1 : aK kk σ.2.1 = σ.2.1 := if_neg e
    have e2 : aD kk σ.2.1 σ.2.2.1 σ.1 = σ.2.2.1 := if_neg e
    rw [e1, e2]
    exact hJ.up (by omega)
theorem JS_undo {B : Nat} {σ : St} (hJ : JS B σ) (h5 : 2 ≤ σ.1 5) : JS B ((if σ.2.1 = 0 then σ.1 else σ.2.2.1 (σ.2.1 - 1)), σ.2.1 - 1, σ.2.2.1, σ.2.2.2.1, σ.2.2.2.2) := by
  by_cases e : σ.2.1 = 0
  · rw [if_pos e, show σ.2.1 - 1 = σ.2.1 from by omega]
    exact hJ
  · rw [if_neg e]
    exact JS_pop hJ (by omega) (by omega)
theorem JS_keep {B : Nat} {σ : St} (hJ : JS B σ) (kk j : Nat) : JS B (σ.1, σ.2.1, σ.2.2.1, sA kk j σ.1 σ.2.2.2.1, sB kk j σ.2.2.2.2) := by
  refine ⟨hJ.1, hJ.2.1, hJ.2.2.1, hJ.2.2.2.1, ?_⟩
  show ∀ i, i < 2 → sB kk j σ.2.2.2.2 i = true → JV B (sA kk j σ.1 σ.2.2.2.1 i)
  intro i hi hs
  unfold sA
  unfold sB at hs
  by_cases e : kk = 0
  · rw [if_pos e] at hs ⊢
    have hs : (if i = j then true else σ.2.2.2.2 i) = true := hs
    show JV B (if i = j then σ.1 else σ.2.2.2.1 i)
    by_cases e2 : i = j
    · rw [if_pos e2]; exact hJ.1
    · rw [if_neg e2] at hs ⊢; exact hJ.2.2.2.2 i hi hs
  · rw [if_neg e] at hs ⊢
    exact hJ.2.2.2.2 i hi hs
theorem JS_back {B : Nat} {σ : St} {p : Int32} (hJ : JS B σ) : JS B ((if (if ix p 2 then (if σ.2.2.2.2 (z p) = true then 0 else 2) else 1) = 0 then σ.2.2.2.1 (z p) else σ.1), (if (if ix p 2 then (if σ.2.2.2.2 (z p) = true then 0 else 2) else 1) = 0 then 0 else σ.2.1), σ.2.2.1, σ.2.2.2.1, σ.2.2.2.2) := by
  by_cases e : ix p 2
  · by_cases e2 : σ.2.2.2.2 (z p) = true
    · rw [if_pos e, if_pos e2, if_pos rfl, if_pos rfl]
      exact ⟨hJ.2.2.2.2 _ (z_ix e) e2, Nat.zero_le _, fun i hi => absurd hi (Nat.not_lt_zero i), fun i hi => absurd hi (Nat.not_lt_zero i), hJ.2.2.2.2⟩
    · rw [if_pos e, if_neg e2, if_neg (by decide), if_neg (by decide)]
      exact hJ
  · rw [if_neg e, if_neg (by decide), if_neg (by decide)]
    exact hJ
theorem dL_act_0 : decode cL_act 0 = .ok (.iload_n 1, 1) := by decide +kernel
theorem dL_act_1 : decode cL_act 1 = .ok (.bipush 16, 2) := by decide +kernel
theorem dL_act_3 : decode cL_act 3 = .ok (.idiv, 1) := by decide +kernel
theorem dL_act_4 : decode cL_act 4 = .ok (.istore_n 2, 1) := by decide +kernel
theorem dL_act_5 : decode cL_act 5 = .ok (.aload_n 0, 1) := by decide +kernel
theorem dL_act_6 : decode cL_act 6 = .ok (.iconst 2, 1) := by decide +kernel
theorem dL_act_7 : decode cL_act 7 = .ok (.iconst 0, 1) := by decide +kernel
theorem dL_act_8 : decode cL_act 8 = .ok (.iconst 0, 1) := by decide +kernel
theorem dL_act_9 : decode cL_act 9 = .ok (.iconst 0, 1) := by decide +kernel
theorem dL_act_10 : decode cL_act 10 = .ok (.invokestatic 198, 3) := by decide +kernel
theorem dL_act_13 : decode cL_act 13 = .ok (.istore_n 3, 1) := by decide +kernel
theorem dL_act_14 : decode cL_act 14 = .ok (.aload_n 0, 1) := by decide +kernel
theorem dL_act_15 : decode cL_act 15 = .ok (.iconst 2, 1) := by decide +kernel
theorem dL_act_16 : decode cL_act 16 = .ok (.iconst 1, 1) := by decide +kernel
theorem dL_act_17 : decode cL_act 17 = .ok (.iconst 0, 1) := by decide +kernel
theorem dL_act_18 : decode cL_act 18 = .ok (.iconst 0, 1) := by decide +kernel
theorem dL_act_19 : decode cL_act 19 = .ok (.invokestatic 198, 3) := by decide +kernel
theorem dL_act_22 : decode cL_act 22 = .ok (.istore 4, 2) := by decide +kernel
theorem dL_act_24 : decode cL_act 24 = .ok (.aload_n 0, 1) := by decide +kernel
theorem dL_act_25 : decode cL_act 25 = .ok (.iconst 2, 1) := by decide +kernel
theorem dL_act_26 : decode cL_act 26 = .ok (.iconst 2, 1) := by decide +kernel
theorem dL_act_27 : decode cL_act 27 = .ok (.iconst 0, 1) := by decide +kernel
theorem dL_act_28 : decode cL_act 28 = .ok (.iconst 0, 1) := by decide +kernel
theorem dL_act_29 : decode cL_act 29 = .ok (.invokestatic 198, 3) := by decide +kernel
theorem dL_act_32 : decode cL_act 32 = .ok (.istore 5, 2) := by decide +kernel
theorem dL_act_34 : decode cL_act 34 = .ok (.aload_n 0, 1) := by decide +kernel
theorem dL_act_35 : decode cL_act 35 = .ok (.iconst 2, 1) := by decide +kernel
theorem dL_act_36 : decode cL_act 36 = .ok (.iconst 4, 1) := by decide +kernel
theorem dL_act_37 : decode cL_act 37 = .ok (.iconst 0, 1) := by decide +kernel
theorem dL_act_38 : decode cL_act 38 = .ok (.iconst 0, 1) := by decide +kernel
theorem dL_act_39 : decode cL_act 39 = .ok (.invokestatic 198, 3) := by decide +kernel
theorem dL_act_42 : decode cL_act 42 = .ok (.istore 6, 2) := by decide +kernel
theorem dL_act_44 : decode cL_act 44 = .ok (.iload_n 2, 1) := by decide +kernel
theorem dL_act_45 : decode cL_act 45 = .ok (.iload_n 3, 1) := by decide +kernel
theorem dL_act_46 : decode cL_act 46 = .ok (.irem, 1) := by decide +kernel
theorem dL_act_47 : decode cL_act 47 = .ok (.istore 7, 2) := by decide +kernel
theorem dL_act_49 : decode cL_act 49 = .ok (.iload_n 2, 1) := by decide +kernel
theorem dL_act_50 : decode cL_act 50 = .ok (.bipush 6, 2) := by decide +kernel
theorem dL_act_52 : decode cL_act 52 = .ok (.idiv, 1) := by decide +kernel
theorem dL_act_53 : decode cL_act 53 = .ok (.iload 6, 2) := by decide +kernel
theorem dL_act_55 : decode cL_act 55 = .ok (.irem, 1) := by decide +kernel
theorem dL_act_56 : decode cL_act 56 = .ok (.istore 8, 2) := by decide +kernel
theorem dL_act_58 : decode cL_act 58 = .ok (.iload_n 2, 1) := by decide +kernel
theorem dL_act_59 : decode cL_act 59 = .ok (.bipush 72, 2) := by decide +kernel
theorem dL_act_61 : decode cL_act 61 = .ok (.idiv, 1) := by decide +kernel
theorem dL_act_62 : decode cL_act 62 = .ok (.iload 5, 2) := by decide +kernel
theorem dL_act_64 : decode cL_act 64 = .ok (.irem, 1) := by decide +kernel
theorem dL_act_65 : decode cL_act 65 = .ok (.istore 9, 2) := by decide +kernel
theorem dL_act_67 : decode cL_act 67 = .ok (.iload_n 1, 1) := by decide +kernel
theorem dL_act_68 : decode cL_act 68 = .ok (.bipush 16, 2) := by decide +kernel
theorem dL_act_70 : decode cL_act 70 = .ok (.irem, 1) := by decide +kernel
theorem dL_act_71 : decode cL_act 71 = .ok (.tableswitch 282 0 12 #[65, 94, 118, 138, 138, 150, 161, 161, 184, 184, 198, 220, 246], 65) := by decide +kernel
theorem dL_act_136 : decode cL_act 136 = .ok (.iload_n 2, 1) := by decide +kernel
theorem dL_act_137 : decode cL_act 137 = .ok (.iconst 3, 1) := by decide +kernel
theorem dL_act_138 : decode cL_act 138 = .ok (.irem, 1) := by decide +kernel
theorem dL_act_139 : decode cL_act 139 = .ok (.ifCond .ne 15, 3) := by decide +kernel
theorem dL_act_142 : decode cL_act 142 = .ok (.aload_n 0, 1) := by decide +kernel
theorem dL_act_143 : decode cL_act 143 = .ok (.bipush 7, 2) := by decide +kernel
theorem dL_act_145 : decode cL_act 145 = .ok (.iconst 0, 1) := by decide +kernel
theorem dL_act_146 : decode cL_act 146 = .ok (.iconst 0, 1) := by decide +kernel
theorem dL_act_147 : decode cL_act 147 = .ok (.iconst 0, 1) := by decide +kernel
theorem dL_act_148 : decode cL_act 148 = .ok (.invokestatic 198, 3) := by decide +kernel
theorem dL_act_151 : decode cL_act 151 = .ok (.goto 13, 3) := by decide +kernel
theorem dL_act_154 : decode cL_act 154 = .ok (.aload_n 0, 1) := by decide +kernel
theorem dL_act_155 : decode cL_act 155 = .ok (.bipush 9, 2) := by decide +kernel
theorem dL_act_157 : decode cL_act 157 = .ok (.iload 7, 2) := by decide +kernel
theorem dL_act_159 : decode cL_act 159 = .ok (.iconst 0, 1) := by decide +kernel
theorem dL_act_160 : decode cL_act 160 = .ok (.iconst 0, 1) := by decide +kernel
theorem dL_act_161 : decode cL_act 161 = .ok (.invokestatic 198, 3) := by decide +kernel
theorem dL_act_164 : decode cL_act 164 = .ok (.ireturn, 1) := by decide +kernel
theorem dL_act_165 : decode cL_act 165 = .ok (.aload_n 0, 1) := by decide +kernel
theorem dL_act_166 : decode cL_act 166 = .ok (.bipush 8, 2) := by decide +kernel
theorem dL_act_168 : decode cL_act 168 = .ok (.iload 7, 2) := by decide +kernel
theorem dL_act_170 : decode cL_act 170 = .ok (.iload_n 2, 1) := by decide +kernel
theorem dL_act_171 : decode cL_act 171 = .ok (.bipush 6, 2) := by decide +kernel
theorem dL_act_173 : decode cL_act 173 = .ok (.idiv, 1) := by decide +kernel
theorem dL_act_174 : decode cL_act 174 = .ok (.iload_n 3, 1) := by decide +kernel
theorem dL_act_175 : decode cL_act 175 = .ok (.irem, 1) := by decide +kernel
theorem dL_act_176 : decode cL_act 176 = .ok (.iconst 1, 1) := by decide +kernel
theorem dL_act_177 : decode cL_act 177 = .ok (.iload_n 2, 1) := by decide +kernel
theorem dL_act_178 : decode cL_act 178 = .ok (.bipush 36, 2) := by decide +kernel
theorem dL_act_180 : decode cL_act 180 = .ok (.idiv, 1) := by decide +kernel
theorem dL_act_181 : decode cL_act 181 = .ok (.bipush 20, 2) := by decide +kernel
theorem dL_act_183 : decode cL_act 183 = .ok (.irem, 1) := by decide +kernel
theorem dL_act_184 : decode cL_act 184 = .ok (.iadd, 1) := by decide +kernel
theorem dL_act_185 : decode cL_act 185 = .ok (.invokestatic 198, 3) := by decide +kernel
theorem dL_act_188 : decode cL_act 188 = .ok (.ireturn, 1) := by decide +kernel
theorem dL_act_189 : decode cL_act 189 = .ok (.aload_n 0, 1) := by decide +kernel
theorem dL_act_190 : decode cL_act 190 = .ok (.bipush 10, 2) := by decide +kernel
theorem dL_act_192 : decode cL_act 192 = .ok (.iload 7, 2) := by decide +kernel
theorem dL_act_194 : decode cL_act 194 = .ok (.iload_n 2, 1) := by decide +kernel
theorem dL_act_195 : decode cL_act 195 = .ok (.bipush 6, 2) := by decide +kernel
theorem dL_act_197 : decode cL_act 197 = .ok (.idiv, 1) := by decide +kernel
theorem dL_act_198 : decode cL_act 198 = .ok (.ldc 202, 2) := by decide +kernel
theorem dL_act_200 : decode cL_act 200 = .ok (.irem, 1) := by decide +kernel
theorem dL_act_201 : decode cL_act 201 = .ok (.iload_n 2, 1) := by decide +kernel
theorem dL_act_202 : decode cL_act 202 = .ok (.bipush 10, 2) := by decide +kernel
theorem dL_act_204 : decode cL_act 204 = .ok (.irem, 1) := by decide +kernel
theorem dL_act_205 : decode cL_act 205 = .ok (.invokestatic 198, 3) := by decide +kernel
theorem dL_act_208 : decode cL_act 208 = .ok (.ireturn, 1) := by decide +kernel
theorem dL_act_209 : decode cL_act 209 = .ok (.aload_n 0, 1) := by decide +kernel
theorem dL_act_210 : decode cL_act 210 = .ok (.bipush 11, 2) := by decide +kernel
theorem dL_act_212 : decode cL_act 212 = .ok (.iload 9, 2) := by decide +kernel
theorem dL_act_214 : decode cL_act 214 = .ok (.iload 8, 2) := by decide +kernel
theorem dL_act_216 : decode cL_act 216 = .ok (.iconst 0, 1) := by decide +kernel
theorem dL_act_217 : decode cL_act 217 = .ok (.invokestatic 198, 3) := by decide +kernel
theorem dL_act_220 : decode cL_act 220 = .ok (.ireturn, 1) := by decide +kernel
theorem dL_act_221 : decode cL_act 221 = .ok (.aload_n 0, 1) := by decide +kernel
theorem dL_act_222 : decode cL_act 222 = .ok (.bipush 12, 2) := by decide +kernel
theorem dL_act_224 : decode cL_act 224 = .ok (.iload 8, 2) := by decide +kernel
theorem dL_act_226 : decode cL_act 226 = .ok (.iconst 0, 1) := by decide +kernel
theorem dL_act_227 : decode cL_act 227 = .ok (.iconst 0, 1) := by decide +kernel
theorem dL_act_228 : decode cL_act 228 = .ok (.invokestatic 198, 3) := by decide +kernel
theorem dL_act_231 : decode cL_act 231 = .ok (.ireturn, 1) := by decide +kernel
theorem dL_act_232 : decode cL_act 232 = .ok (.iload 4, 2) := by decide +kernel
theorem dL_act_234 : decode cL_act 234 = .ok (.ifCond .ne 7, 3) := by decide +kernel
theorem dL_act_237 : decode cL_act 237 = .ok (.iconst (-1), 1) := by decide +kernel
theorem dL_act_238 : decode cL_act 238 = .ok (.goto 16, 3) := by decide +kernel
theorem dL_act_241 : decode cL_act 241 = .ok (.aload_n 0, 1) := by decide +kernel
theorem dL_act_242 : decode cL_act 242 = .ok (.bipush 13, 2) := by decide +kernel
theorem dL_act_244 : decode cL_act 244 = .ok (.iload 9, 2) := by decide +kernel
theorem dL_act_246 : decode cL_act 246 = .ok (.iload_n 2, 1) := by decide +kernel
theorem dL_act_247 : decode cL_act 247 = .ok (.iload 4, 2) := by decide +kernel
theorem dL_act_249 : decode cL_act 249 = .ok (.irem, 1) := by decide +kernel
theorem dL_act_250 : decode cL_act 250 = .ok (.iconst 0, 1) := by decide +kernel
theorem dL_act_251 : decode cL_act 251 = .ok (.invokestatic 198, 3) := by decide +kernel
theorem dL_act_254 : decode cL_act 254 = .ok (.ireturn, 1) := by decide +kernel
theorem dL_act_255 : decode cL_act 255 = .ok (.aload_n 0, 1) := by decide +kernel
theorem dL_act_256 : decode cL_act 256 = .ok (.bipush 14, 2) := by decide +kernel
theorem dL_act_258 : decode cL_act 258 = .ok (.iload 8, 2) := by decide +kernel
theorem dL_act_260 : decode cL_act 260 = .ok (.iload_n 2, 1) := by decide +kernel
theorem dL_act_261 : decode cL_act 261 = .ok (.bipush 10, 2) := by decide +kernel
theorem dL_act_263 : decode cL_act 263 = .ok (.irem, 1) := by decide +kernel
theorem dL_act_264 : decode cL_act 264 = .ok (.iconst 0, 1) := by decide +kernel
theorem dL_act_265 : decode cL_act 265 = .ok (.invokestatic 198, 3) := by decide +kernel
theorem dL_act_268 : decode cL_act 268 = .ok (.ireturn, 1) := by decide +kernel
theorem dL_act_269 : decode cL_act 269 = .ok (.aload_n 0, 1) := by decide +kernel
theorem dL_act_270 : decode cL_act 270 = .ok (.iload 8, 2) := by decide +kernel
theorem dL_act_272 : decode cL_act 272 = .ok (.iload_n 2, 1) := by decide +kernel
theorem dL_act_273 : decode cL_act 273 = .ok (.iload 6, 2) := by decide +kernel
theorem dL_act_275 : decode cL_act 275 = .ok (.irem, 1) := by decide +kernel
theorem dL_act_276 : decode cL_act 276 = .ok (.iload_n 2, 1) := by decide +kernel
theorem dL_act_277 : decode cL_act 277 = .ok (.bipush 72, 2) := by decide +kernel
theorem dL_act_279 : decode cL_act 279 = .ok (.idiv, 1) := by decide +kernel
theorem dL_act_280 : decode cL_act 280 = .ok (.iload 6, 2) := by decide +kernel
theorem dL_act_282 : decode cL_act 282 = .ok (.irem, 1) := by decide +kernel
theorem dL_act_283 : decode cL_act 283 = .ok (.iload_n 2, 1) := by decide +kernel
theorem dL_act_284 : decode cL_act 284 = .ok (.bipush 10, 2) := by decide +kernel
theorem dL_act_286 : decode cL_act 286 = .ok (.irem, 1) := by decide +kernel
theorem dL_act_287 : decode cL_act 287 = .ok (.invokestatic 203, 3) := by decide +kernel
theorem dL_act_290 : decode cL_act 290 = .ok (.ireturn, 1) := by decide +kernel
theorem dL_act_291 : decode cL_act 291 = .ok (.aload_n 0, 1) := by decide +kernel
theorem dL_act_292 : decode cL_act 292 = .ok (.iconst 2, 1) := by decide +kernel
theorem dL_act_293 : decode cL_act 293 = .ok (.iconst 5, 1) := by decide +kernel
theorem dL_act_294 : decode cL_act 294 = .ok (.iconst 0, 1) := by decide +kernel
theorem dL_act_295 : decode cL_act 295 = .ok (.iconst 0, 1) := by decide +kernel
theorem dL_act_296 : decode cL_act 296 = .ok (.invokestatic 198, 3) := by decide +kernel
theorem dL_act_299 : decode cL_act 299 = .ok (.iconst 2, 1) := by decide +kernel
theorem dL_act_300 : decode cL_act 300 = .ok (.if_icmp .ge 7, 3) := by decide +kernel
theorem dL_act_303 : decode cL_act 303 = .ok (.iconst (-1), 1) := by decide +kernel
theorem dL_act_304 : decode cL_act 304 = .ok (.goto 12, 3) := by decide +kernel
theorem dL_act_307 : decode cL_act 307 = .ok (.aload_n 0, 1) := by decide +kernel
theorem dL_act_308 : decode cL_act 308 = .ok (.bipush 16, 2) := by decide +kernel
theorem dL_act_310 : decode cL_act 310 = .ok (.iconst 0, 1) := by decide +kernel
theorem dL_act_311 : decode cL_act 311 = .ok (.iconst 0, 1) := by decide +kernel
theorem dL_act_312 : decode cL_act 312 = .ok (.iconst 0, 1) := by decide +kernel
theorem dL_act_313 : decode cL_act 313 = .ok (.invokestatic 198, 3) := by decide +kernel
theorem dL_act_316 : decode cL_act 316 = .ok (.ireturn, 1) := by decide +kernel
theorem dL_act_317 : decode cL_act 317 = .ok (.iload_n 2, 1) := by decide +kernel
theorem dL_act_318 : decode cL_act 318 = .ok (.iconst 2, 1) := by decide +kernel
theorem dL_act_319 : decode cL_act 319 = .ok (.irem, 1) := by decide +kernel
theorem dL_act_320 : decode cL_act 320 = .ok (.ifCond .ne 19, 3) := by decide +kernel
theorem dL_act_323 : decode cL_act 323 = .ok (.aload_n 0, 1) := by decide +kernel
theorem dL_act_324 : decode cL_act 324 = .ok (.bipush 24, 2) := by decide +kernel
theorem dL_act_326 : decode cL_act 326 = .ok (.iload_n 2, 1) := by decide +kernel
theorem dL_act_327 : decode cL_act 327 = .ok (.iconst 2, 1) := by decide +kernel
theorem dL_act_328 : decode cL_act 328 = .ok (.idiv, 1) := by decide +kernel
theorem dL_act_329 : decode cL_act 329 = .ok (.iconst 2, 1) := by decide +kernel
theorem dL_act_330 : decode cL_act 330 = .ok (.irem, 1) := by decide +kernel
theorem dL_act_331 : decode cL_act 331 = .ok (.iconst 0, 1) := by decide +kernel
theorem dL_act_332 : decode cL_act 332 = .ok (.iconst 0, 1) := by decide +kernel
theorem dL_act_333 : decode cL_act 333 = .ok (.invokestatic 198, 3) := by decide +kernel
theorem dL_act_336 : decode cL_act 336 = .ok (.goto 16, 3) := by decide +kernel
theorem dL_act_339 : decode cL_act 339 = .ok (.aload_n 0, 1) := by decide +kernel
theorem dL_act_340 : decode cL_act 340 = .ok (.bipush 25, 2) := by decide +kernel
theorem dL_act_342 : decode cL_act 342 = .ok (.iload_n 2, 1) := by decide +kernel
theorem dL_act_343 : decode cL_act 343 = .ok (.iconst 2, 1) := by decide +kernel
theorem dL_act_344 : decode cL_act 344 = .ok (.idiv, 1) := by decide +kernel
theorem dL_act_345 : decode cL_act 345 = .ok (.iconst 2, 1) := by decide +kernel
theorem dL_act_346 : decode cL_act 346 = .ok (.irem, 1) := by decide +kernel
theorem dL_act_347 : decode cL_act 347 = .ok (.iconst 0, 1) := by decide +kernel
theorem dL_act_348 : decode cL_act 348 = .ok (.iconst 0, 1) := by decide +kernel
theorem dL_act_349 : decode cL_act 349 = .ok (.invokestatic 198, 3) := by decide +kernel
theorem dL_act_352 : decode cL_act 352 = .ok (.ireturn, 1) := by decide +kernel
theorem dL_act_353 : decode cL_act 353 = .ok (.aload_n 0, 1) := by decide +kernel
theorem dL_act_354 : decode cL_act 354 = .ok (.bipush 15, 2) := by decide +kernel
theorem dL_act_356 : decode cL_act 356 = .ok (.iconst 1, 1) := by decide +kernel
theorem dL_act_357 : decode cL_act 357 = .ok (.iload_n 2, 1) := by decide +kernel
theorem dL_act_358 : decode cL_act 358 = .ok (.bipush 12, 2) := by decide +kernel
theorem dL_act_360 : decode cL_act 360 = .ok (.irem, 1) := by decide +kernel
theorem dL_act_361 : decode cL_act 361 = .ok (.iadd, 1) := by decide +kernel
theorem dL_act_362 : decode cL_act 362 = .ok (.iconst 0, 1) := by decide +kernel
theorem dL_act_363 : decode cL_act 363 = .ok (.iconst 0, 1) := by decide +kernel
theorem dL_act_364 : decode cL_act 364 = .ok (.invokestatic 198, 3) := by decide +kernel
theorem dL_act_367 : decode cL_act 367 = .ok (.ireturn, 1) := by decide +kernel
set_option maxRecDepth 100000 in
set_option maxHeartbeats 4000000 in
theorem c_act_0a (l : Launch) (G : GT) (n0 : Nat) (h0 : AH) (hl : l.stackTraces = false) (x : Nat) (σ : St) (hS0 : SC x σ h0) (hI : SIs σ) (h3 : 3 ≤ σ.1 0 ∧ 1 ≤ σ.1 2 ∧ 1 ≤ σ.1 4) (hb5 : σ.1 5 < 2 ^ 31) (X : Nat) (hX : X < 2 ^ 31) (h16 : X % 16 = 0) (hc : X / 16 % 3 = 0) (v9 : Int32) (hv9 : rv (kA 1 1 1 (aTw σ.1).1) ((aTw σ.1).1) [eS] = v9) (σ9 : St) (hs9 : ((aTw σ.1).2, (aK (kA 1 1 1 (aTw σ.1).1) σ.2.1), (aD (kA 1 1 1 (aTw σ.1).1) σ.2.1 σ.2.2.1 σ.1), σ.2.2.2.1, σ.2.2.2.2) = σ9) : Ct l yL_act cL_act 10 (some .int) 11 24 144 G n0 h0 [.ref x, .int (nI X)] (PoS x h0 v9 σ9) := by
  have hIv : Iv σ.1 := hI.1
  have i0 := hIv.1
  refine Ct_ofZ mL_act.z (Nat.le_of_ble_eq_true rfl) ?_
  intro p₀ e₀ s₀ m₀ as₀ bl₀ me₀ c₀ C
  refine V_Le (L' := [(0, .ref x), (1, .int (nI X))]) rfl ?_
  suffices H : ∀ (n : Nat) (h : AH) (hS : SC x σ h) (hF : FX x h0 h), V p₀ l e₀ (rmD 11 24 144) s₀ m₀ as₀ bl₀ me₀ c₀ (MQ bl₀ (Po G (PoS x h0 v9 σ9)) as₀ s₀ 24 144 (rg G)) G 10 0 0 n h 0 [(0, .ref x), (1, .int (nI X))] [] from H n0 h0 hS0 FX.rf
  intro n h hS hF
  refine V_iload_n 1 C dL_act_0 rfl rfl ?_
  refine V_bipush 3 C dL_act_1 rfl bip16 ?_
  refine V_idivN 4 C dL_act_3 rfl (by omega) (by omega) (by omega) ?_
  refine V_istore_n 5 C dL_act_4 rfl (by decide) (L' := [(0, _), (1, _), (2, _)]) rfl ?_
  refine V_aload_n 6 C dL_act_5 rfl rfl ?_
  refine V_iconst 7 C dL_act_6 rfl ic2 ?_
  refine V_iconst 8 C dL_act_7 rfl ic0 ?_
  refine V_iconst 9 C dL_act_8 rfl ic0 ?_
  refine V_iconst 10 C dL_act_9 rfl ic0 ?_
  refine V_q1 13 (4) (24) C hF dL_act_10 rfl mL_call.z tw250 (k_about l G _ _ hl x σ hS hI _ _ _ _ (v_ab (j := 0) (w := σ.1 0) (by omega) rfl)) rfl rfl ⟨Nat.le_of_ble_eq_true rfl, Nat.le_of_ble_eq_true rfl⟩ ⟨by omega, by omega⟩ ⟨by show _ ≤ 24; omega, by show _ ≤ 144; omega⟩ (Nat.le_of_ble_eq_true rfl) ?_
  clear hS hF n h
  intro n h hS hF
  refine V_istore_n 14 C dL_act_13 rfl (by decide) (L' := [(0, _), (1, _), (2, _), (3, _)]) rfl ?_
  refine V_aload_n 15 C dL_act_14 rfl rfl ?_
  refine V_iconst 16 C dL_act_15 rfl ic2 ?_
  refine V_iconst 17 C dL_act_16 rfl ic1 ?_
  refine V_iconst 18 C dL_act_17 rfl ic0 ?_
  refine V_iconst 19 C dL_act_18 rfl ic0 ?_
  refine V_q1 22 (8) (48) C hF dL_act_19 rfl mL_call.z tw250 (k_about l G _ _ hl x σ hS hI _ _ _ _ (v_ab (j := 1) (w := σ.1 1) (by omega) rfl)) rfl rfl ⟨Nat.le_of_ble_eq_true rfl, Nat.le_of_ble_eq_true rfl⟩ ⟨by omega, by omega⟩ ⟨by show _ ≤ 24; omega, by show _ ≤ 144; omega⟩ (Nat.le_of_ble_eq_true rfl) ?_
  clear hS hF n h
  intro n h hS hF
  refine V_istore 24 C dL_act_22 rfl (by decide) (L' := [(0, _), (1, _), (2, _), (3, _), (4, _)]) rfl ?_
  refine V_aload_n 25 C dL_act_24 rfl rfl ?_
  refine V_iconst 26 C dL_act_25 rfl ic2 ?_
  refine V_iconst 27 C dL_act_26 rfl ic2 ?_
  refine V_iconst 28 C dL_act_27 rfl ic0 ?_
  refine V_iconst 29 C dL_act_28 rfl ic0 ?_
  refine V_q1 32 (12) (72) C hF dL_act_29 rfl mL_call.z tw250 (k_about l G _ _ hl x σ hS hI _ _ _ _ (v_ab (j := 2) (w := σ.1 2) (by omega) rfl)) rfl rfl ⟨Nat.le_of_ble_eq_true rfl, Nat.le_of_ble_eq_true rfl⟩ ⟨by omega, by omega⟩ ⟨by show _ ≤ 24; omega, by show _ ≤ 144; omega⟩ (Nat.le_of_ble_eq_true rfl) ?_
  clear hS hF n h
  intro n h hS hF
  refine V_istore 34 C dL_act_32 rfl (by decide) (L' := [(0, _), (1, _), (2, _), (3, _), (4, _), (5, _)]) rfl ?_
  refine V_aload_n 35 C dL_act_34 rfl rfl ?_
  refine V_iconst 36 C dL_act_35 rfl ic2 ?_
  refine V_iconst 37 C dL_act_36 rfl ic4 ?_
  refine V_iconst 38 C dL_act_37 rfl ic0 ?_
  refine V_iconst 39 C dL_act_38 rfl ic0 ?_
  refine V_q1 42 (16) (96) C hF dL_act_39 rfl mL_call.z tw250 (k_about l G _ _ hl x σ hS hI _ _ _ _ (v_ab (j := 4) (w := σ.1 4) (by omega) rfl)) rfl rfl ⟨Nat.le_of_ble_eq_true rfl, Nat.le_of_ble_eq_true rfl⟩ ⟨by omega, by omega⟩ ⟨by show _ ≤ 24; omega, by show _ ≤ 144; omega⟩ (Nat.le_of_ble_eq_true rfl) ?_
  clear hS hF n h
  intro n h hS hF
  refine V_istore 44 C dL_act_42 rfl (by decide) (L' := [(0, _), (1, _), (2, _), (3, _), (4, _), (5, _), (6, _)]) rfl ?_
  refine V_iload_n 45 C dL_act_44 rfl rfl ?_
  refine V_iload_n 46 C dL_act_45 rfl rfl ?_
  refine V_iremN 47 C dL_act_46 rfl (by omega) (by omega) (by omega) ?_
  refine V_istore 49 C dL_act_47 rfl (by decide) (L' := [(0, _), (1, _), (2, _), (3, _), (4, _), (5, _), (6, _), (7, _)]) rfl ?_
  refine V_iload_n 50 C dL_act_49 rfl rfl ?_
  refine V_bipush 52 C dL_act_50 rfl bip6 ?_
  refine V_idivN 53 C dL_act_52 rfl (by omega) (by omega) (by omega) ?_
  refine V_iload 55 C dL_act_53 rfl rfl ?_
  refine V_iremN 56 C dL_act_55 rfl (by omega) (by omega) (by omega) ?_
  refine V_istore 58 C dL_act_56 rfl (by decide) (L' := [(0, _), (1, _), (2, _), (3, _), (4, _), (5, _), (6, _), (7, _), (8, _)]) rfl ?_
  refine V_iload_n 59 C dL_act_58 rfl rfl ?_
  refine V_bipush 61 C dL_act_59 rfl bip72 ?_
  refine V_idivN 62 C dL_act_61 rfl (by omega) (by omega) (by omega) ?_
  refine V_iload 64 C dL_act_62 rfl rfl ?_
  refine V_iremN 65 C dL_act_64 rfl (by omega) (by omega) (by omega) ?_
  refine V_istore 67 C dL_act_65 rfl (by decide) (L' := [(0, _), (1, _), (2, _), (3, _), (4, _), (5, _), (6, _), (7, _), (8, _), (9, _)]) rfl ?_
  refine V_iload_n 68 C dL_act_67 rfl rfl ?_
  refine V_bipush 70 C dL_act_68 rfl bip16 ?_
  refine V_iremN 71 C dL_act_70 rfl (by omega) (by omega) (by omega) ?_
  refine V_tsI 136 C dL_act_71 (j := 0) h16 (by decide) (by decide) (by decide) rfl (by decide) ?_
  refine V_iload_n 137 C dL_act_136 rfl rfl ?_
  refine V_iconst 138 C dL_act_137 rfl ic3 ?_
  refine V_iremN 139 C dL_act_138 rfl (by omega) (by omega) (by omega) ?_
  refine V_if_neN 154 142 C dL_act_139 (by decide) rfl (by omega) (fun c139 => by omega) (fun c139 => ?_)
  refine V_aload_n 143 C dL_act_142 rfl rfl ?_
  refine V_bipush 145 C dL_act_143 rfl bip7 ?_
  refine V_iconst 146 C dL_act_145 rfl ic0 ?_
  refine V_iconst 147 C dL_act_146 rfl ic0 ?_
  refine V_iconst 148 C dL_act_147 rfl ic0 ?_
  refine V_q1 151 (20) (120) C hF dL_act_148 rfl mL_call.z tw250 (k_town l G _ _ hl x σ hS hI _ _ _ _ hv9 _ hs9) rfl rfl ⟨Nat.le_of_ble_eq_true rfl, Nat.le_of_ble_eq_true rfl⟩ ⟨by omega, by omega⟩ ⟨by show _ ≤ 24; omega, by show _ ≤ 144; omega⟩ (Nat.le_of_ble_eq_true rfl) ?_
  clear hS hF n h
  intro n h hS hF
  refine V_goto 164 C dL_act_151 (by decide) ?_
  refine V_ireturn C dL_act_164 rfl rfl (by omega) (by omega) ?_
  exact ⟨rfl, hS, hF⟩

set_option maxRecDepth 100000 in
set_option maxHeartbeats 4000000 in
theorem c_act_0b (l : Launch) (G : GT) (n0 : Nat) (h0 : AH) (hl : l.stackTraces = false) (x : Nat) (σ : St) (hS0 : SC x σ h0) (hI : SIs σ) (h3 : 3 ≤ σ.1 0 ∧ 1 ≤ σ.1 2 ∧ 1 ≤ σ.1 4) (hb5 : σ.1 5 < 2 ^ 31) (X : Nat) (hX : X < 2 ^ 31) (h16 : X % 16 = 0) (hc : ¬ X / 16 % 3 = 0) (v9 : Int32) (hv9 : rv (kA 1 1 2 (aRu σ.1 (nI (X / 16 % σ.1 0))).1) ((aRu σ.1 (nI (X / 16 % σ.1 0))).1) [eI, eS] = v9) (σ9 : St) (hs9 : ((aRu σ.1 (nI (X / 16 % σ.1 0))).2, (aK (kA 1 1 2 (aRu σ.1 (nI (X / 16 % σ.1 0))).1) σ.2.1), (aD (kA 1 1 2 (aRu σ.1 (nI (X / 16 % σ.1 0))).1) σ.2.1 σ.2.2.1 σ.1), σ.2.2.2.1, σ.2.2.2.2) = σ9) : Ct l yL_act cL_act 10 (some .int) 11 24 144 G n0 h0 [.ref x, .int (nI X)] (PoS x h0 v9 σ9) := by
  have hIv : Iv σ.1 := hI.1
  have i0 := hIv.1
  refine Ct_ofZ mL_act.z (Nat.le_of_ble_eq_true rfl) ?_
  intro p₀ e₀ s₀ m₀ as₀ bl₀ me₀ c₀ C
  refine V_Le (L' := [(0, .ref x), (1, .int (nI X))]) rfl ?_
  suffices H : ∀ (n : Nat) (h : AH) (hS : SC x σ h) (hF : FX x h0 h), V p₀ l e₀ (rmD 11 24 144) s₀ m₀ as₀ bl₀ me₀ c₀ (MQ bl₀ (Po G (PoS x h0 v9 σ9)) as₀ s₀ 24 144 (rg G)) G 10 0 0 n h 0 [(0, .ref x), (1, .int (nI X))] [] from H n0 h0 hS0 FX.rf
  intro n h hS hF
  refine V_iload_n 1 C dL_act_0 rfl rfl ?_
  refine V_bipush 3 C dL_act_1 rfl bip16 ?_
  refine V_idivN 4 C dL_act_3 rfl (by omega) (by omega) (by omega) ?_
  refine V_istore_n 5 C dL_act_4 rfl (by decide) (L' := [(0, _), (1, _), (2, _)]) rfl ?_
  refine V_aload_n 6 C dL_act_5 rfl rfl ?_
  refine V_iconst 7 C dL_act_6 rfl ic2 ?_
  refine V_iconst 8 C dL_act_7 rfl ic0 ?_
  refine V_iconst 9 C dL_act_8 rfl ic0 ?_
  refine V_iconst 10 C dL_act_9 rfl ic0 ?_
  refine V_q1 13 (4) (24) C hF dL_act_10 rfl mL_call.z tw250 (k_about l G _ _ hl x σ hS hI _ _ _ _ (v_ab (j := 0) (w := σ.1 0) (by omega) rfl)) rfl rfl ⟨Nat.le_of_ble_eq_true rfl, Nat.le_of_ble_eq_true rfl⟩ ⟨by omega, by omega⟩ ⟨by show _ ≤ 24; omega, by show _ ≤ 144; omega⟩ (Nat.le_of_ble_eq_true rfl) ?_
  clear hS hF n h
  intro n h hS hF
  refine V_istore_n 14 C dL_act_13 rfl (by decide) (L' := [(0, _), (1, _), (2, _), (3, _)]) rfl ?_
  refine V_aload_n 15 C dL_act_14 rfl rfl ?_
  refine V_iconst 16 C dL_act_15 rfl ic2 ?_
  refine V_iconst 17 C dL_act_16 rfl ic1 ?_
  refine V_iconst 18 C dL_act_17 rfl ic0 ?_
  refine V_iconst 19 C dL_act_18 rfl ic0 ?_
  refine V_q1 22 (8) (48) C hF dL_act_19 rfl mL_call.z tw250 (k_about l G _ _ hl x σ hS hI _ _ _ _ (v_ab (j := 1) (w := σ.1 1) (by omega) rfl)) rfl rfl ⟨Nat.le_of_ble_eq_true rfl, Nat.le_of_ble_eq_true rfl⟩ ⟨by omega, by omega⟩ ⟨by show _ ≤ 24; omega, by show _ ≤ 144; omega⟩ (Nat.le_of_ble_eq_true rfl) ?_
  clear hS hF n h
  intro n h hS hF
  refine V_istore 24 C dL_act_22 rfl (by decide) (L' := [(0, _), (1, _), (2, _), (3, _), (4, _)]) rfl ?_
  refine V_aload_n 25 C dL_act_24 rfl rfl ?_
  refine V_iconst 26 C dL_act_25 rfl ic2 ?_
  refine V_iconst 27 C dL_act_26 rfl ic2 ?_
  refine V_iconst 28 C dL_act_27 rfl ic0 ?_
  refine V_iconst 29 C dL_act_28 rfl ic0 ?_
  refine V_q1 32 (12) (72) C hF dL_act_29 rfl mL_call.z tw250 (k_about l G _ _ hl x σ hS hI _ _ _ _ (v_ab (j := 2) (w := σ.1 2) (by omega) rfl)) rfl rfl ⟨Nat.le_of_ble_eq_true rfl, Nat.le_of_ble_eq_true rfl⟩ ⟨by omega, by omega⟩ ⟨by show _ ≤ 24; omega, by show _ ≤ 144; omega⟩ (Nat.le_of_ble_eq_true rfl) ?_
  clear hS hF n h
  intro n h hS hF
  refine V_istore 34 C dL_act_32 rfl (by decide) (L' := [(0, _), (1, _), (2, _), (3, _), (4, _), (5, _)]) rfl ?_
  refine V_aload_n 35 C dL_act_34 rfl rfl ?_
  refine V_iconst 36 C dL_act_35 rfl ic2 ?_
  refine V_iconst 37 C dL_act_36 rfl ic4 ?_
  refine V_iconst 38 C dL_act_37 rfl ic0 ?_
  refine V_iconst 39 C dL_act_38 rfl ic0 ?_
  refine V_q1 42 (16) (96) C hF dL_act_39 rfl mL_call.z tw250 (k_about l G _ _ hl x σ hS hI _ _ _ _ (v_ab (j := 4) (w := σ.1 4) (by omega) rfl)) rfl rfl ⟨Nat.le_of_ble_eq_true rfl, Nat.le_of_ble_eq_true rfl⟩ ⟨by omega, by omega⟩ ⟨by show _ ≤ 24; omega, by show _ ≤ 144; omega⟩ (Nat.le_of_ble_eq_true rfl) ?_
  clear hS hF n h
  intro n h hS hF
  refine V_istore 44 C dL_act_42 rfl (by decide) (L' := [(0, _), (1, _), (2, _), (3, _), (4, _), (5, _), (6, _)]) rfl ?_
  refine V_iload_n 45 C dL_act_44 rfl rfl ?_
  refine V_iload_n 46 C dL_act_45 rfl rfl ?_
  refine V_iremN 47 C dL_act_46 rfl (by omega) (by omega) (by omega) ?_
  refine V_istore 49 C dL_act_47 rfl (by decide) (L' := [(0, _), (1, _), (2, _), (3, _), (4, _), (5, _), (6, _), (7, _)]) rfl ?_
  refine V_iload_n 50 C dL_act_49 rfl rfl ?_
  refine V_bipush 52 C dL_act_50 rfl bip6 ?_
  refine V_idivN 53 C dL_act_52 rfl (by omega) (by omega) (by omega) ?_
  refine V_iload 55 C dL_act_53 rfl rfl ?_
  refine V_iremN 56 C dL_act_55 rfl (by omega) (by omega) (by omega) ?_
  refine V_istore 58 C dL_act_56 rfl (by decide) (L' := [(0, _), (1, _), (2, _), (3, _), (4, _), (5, _), (6, _), (7, _), (8, _)]) rfl ?_
  refine V_iload_n 59 C dL_act_58 rfl rfl ?_
  refine V_bipush 61 C dL_act_59 rfl bip72 ?_
  refine V_idivN 62 C dL_act_61 rfl (by omega) (by omega) (by omega) ?_
  refine V_iload 64 C dL_act_62 rfl rfl ?_
  refine V_iremN 65 C dL_act_64 rfl (by omega) (by omega) (by omega) ?_
  refine V_istore 67 C dL_act_65 rfl (by decide) (L' := [(0, _), (1, _), (2, _), (3, _), (4, _), (5, _), (6, _), (7, _), (8, _), (9, _)]) rfl ?_
  refine V_iload_n 68 C dL_act_67 rfl rfl ?_
  refine V_bipush 70 C dL_act_68 rfl bip16 ?_
  refine V_iremN 71 C dL_act_70 rfl (by omega) (by omega) (by omega) ?_
  refine V_tsI 136 C dL_act_71 (j := 0) h16 (by decide) (by decide) (by decide) rfl (by decide) ?_
  refine V_iload_n 137 C dL_act_136 rfl rfl ?_
  refine V_iconst 138 C dL_act_137 rfl ic3 ?_
  refine V_iremN 139 C dL_act_138 rfl (by omega) (by omega) (by omega) ?_
  refine V_if_neN 154 142 C dL_act_139 (by decide) rfl (by omega) (fun c139 => ?_) (fun c139 => by omega)
  refine V_aload_n 155 C dL_act_154 rfl rfl ?_
  refine V_bipush 157 C dL_act_155 rfl bip9 ?_
  refine V_iload 159 C dL_act_157 rfl rfl ?_
  refine V_iconst 160 C dL_act_159 rfl ic0 ?_
  refine V_iconst 161 C dL_act_160 rfl ic0 ?_
  refine V_q1 164 (20) (120) C hF dL_act_161 rfl mL_call.z tw250 (k_runner l G _ _ hl x σ hS hI _ _ _ _ hv9 _ hs9) rfl rfl ⟨Nat.le_of_ble_eq_true rfl, Nat.le_of_ble_eq_true rfl⟩ ⟨by omega, by omega⟩ ⟨by show _ ≤ 24; omega, by show _ ≤ 144; omega⟩ (Nat.le_of_ble_eq_true rfl) ?_
  clear hS hF n h
  intro n h hS hF
  refine V_ireturn C dL_act_164 rfl rfl (by omega) (by omega) ?_
  exact ⟨rfl, hS, hF⟩

set_option maxRecDepth 100000 in
set_option maxHeartbeats 4000000 in
theorem c_act_1 (l : Launch) (G : GT) (n0 : Nat) (h0 : AH) (hl : l.stackTraces = false) (x : Nat) (σ : St) (hS0 : SC x σ h0) (hI : SIs σ) (h3 : 3 ≤ σ.1 0 ∧ 1 ≤ σ.1 2 ∧ 1 ≤ σ.1 4) (hb5 : σ.1 5 < 2 ^ 31) (X : Nat) (hX : X < 2 ^ 31) (h16 : X % 16 = 1) (v9 : Int32) (hv9 : rv (kA 1 2 3 (aRd σ.1 (nI (X / 16 % σ.1 0)) (nI (X / 16 / 6 % σ.1 0)) (nI (1 + X / 16 / 36 % 20))).1) ((aRd σ.1 (nI (X / 16 % σ.1 0)) (nI (X / 16 / 6 % σ.1 0)) (nI (1 + X / 16 / 36 % 20))).1) [eI, eA, eS] = v9) (σ9 : St) (hs9 : ((aRd σ.1 (nI (X / 16 % σ.1 0)) (nI (X / 16 / 6 % σ.1 0)) (nI (1 + X / 16 / 36 % 20))).2, (aK (kA 1 2 3 (aRd σ.1 (nI (X / 16 % σ.1 0)) (nI (X / 16 / 6 % σ.1 0)) (nI (1 + X / 16 / 36 % 20))).1) σ.2.1), (aD (kA 1 2 3 (aRd σ.1 (nI (X / 16 % σ.1 0)) (nI (X / 16 / 6 % σ.1 0)) (nI (1 + X / 16 / 36 % 20))).1) σ.2.1 σ.2.2.1 σ.1), σ.2.2.2.1, σ.2.2.2.2) = σ9) : Ct l yL_act cL_act 10 (some .int) 11 24 144 G n0 h0 [.ref x, .int (nI X)] (PoS x h0 v9 σ9) := by
  have hIv : Iv σ.1 := hI.1
  have i0 := hIv.1
  refine Ct_ofZ mL_act.z (Nat.le_of_ble_eq_true rfl) ?_
  intro p₀ e₀ s₀ m₀ as₀ bl₀ me₀ c₀ C
  refine V_Le (L' := [(0, .ref x), (1, .int (nI X))]) rfl ?_
  suffices H : ∀ (n : Nat) (h : AH) (hS : SC x σ h) (hF : FX x h0 h), V p₀ l e₀ (rmD 11 24 144) s₀ m₀ as₀ bl₀ me₀ c₀ (MQ bl₀ (Po G (PoS x h0 v9 σ9)) as₀ s₀ 24 144 (rg G)) G 10 0 0 n h 0 [(0, .ref x), (1, .int (nI X))] [] from H n0 h0 hS0 FX.rf
  intro n h hS hF
  refine V_iload_n 1 C dL_act_0 rfl rfl ?_
  refine V_bipush 3 C dL_act_1 rfl bip16 ?_
  refine V_idivN 4 C dL_act_3 rfl (by omega) (by omega) (by omega) ?_
  refine V_istore_n 5 C dL_act_4 rfl (by decide) (L' := [(0, _), (1, _), (2, _)]) rfl ?_
  refine V_aload_n 6 C dL_act_5 rfl rfl ?_
  refine V_iconst 7 C dL_act_6 rfl ic2 ?_
  refine V_iconst 8 C dL_act_7 rfl ic0 ?_
  refine V_iconst 9 C dL_act_8 rfl ic0 ?_
  refine V_iconst 10 C dL_act_9 rfl ic0 ?_
  refine V_q1 13 (4) (24) C hF dL_act_10 rfl mL_call.z tw250 (k_about l G _ _ hl x σ hS hI _ _ _ _ (v_ab (j := 0) (w := σ.1 0) (by omega) rfl)) rfl rfl ⟨Nat.le_of_ble_eq_true rfl, Nat.le_of_ble_eq_true rfl⟩ ⟨by omega, by omega⟩ ⟨by show _ ≤ 24; omega, by show _ ≤ 144; omega⟩ (Nat.le_of_ble_eq_true rfl) ?_
  clear hS hF n h
  intro n h hS hF
  refine V_istore_n 14 C dL_act_13 rfl (by decide) (L' := [(0, _), (1, _), (2, _), (3, _)]) rfl ?_
  refine V_aload_n 15 C dL_act_14 rfl rfl ?_
  refine V_iconst 16 C dL_act_15 rfl ic2 ?_
  refine V_iconst 17 C dL_act_16 rfl ic1 ?_
  refine V_iconst 18 C dL_act_17 rfl ic0 ?_
  refine V_iconst 19 C dL_act_18 rfl ic0 ?_
  refine V_q1 22 (8) (48) C hF dL_act_19 rfl mL_call.z tw250 (k_about l G _ _ hl x σ hS hI _ _ _ _ (v_ab (j := 1) (w := σ.1 1) (by omega) rfl)) rfl rfl ⟨Nat.le_of_ble_eq_true rfl, Nat.le_of_ble_eq_true rfl⟩ ⟨by omega, by omega⟩ ⟨by show _ ≤ 24; omega, by show _ ≤ 144; omega⟩ (Nat.le_of_ble_eq_true rfl) ?_
  clear hS hF n h
  intro n h hS hF
  refine V_istore 24 C dL_act_22 rfl (by decide) (L' := [(0, _), (1, _), (2, _), (3, _), (4, _)]) rfl ?_
  refine V_aload_n 25 C dL_act_24 rfl rfl ?_
  refine V_iconst 26 C dL_act_25 rfl ic2 ?_
  refine V_iconst 27 C dL_act_26 rfl ic2 ?_
  refine V_iconst 28 C dL_act_27 rfl ic0 ?_
  refine V_iconst 29 C dL_act_28 rfl ic0 ?_
  refine V_q1 32 (12) (72) C hF dL_act_29 rfl mL_call.z tw250 (k_about l G _ _ hl x σ hS hI _ _ _ _ (v_ab (j := 2) (w := σ.1 2) (by omega) rfl)) rfl rfl ⟨Nat.le_of_ble_eq_true rfl, Nat.le_of_ble_eq_true rfl⟩ ⟨by omega, by omega⟩ ⟨by show _ ≤ 24; omega, by show _ ≤ 144; omega⟩ (Nat.le_of_ble_eq_true rfl) ?_
  clear hS hF n h
  intro n h hS hF
  refine V_istore 34 C dL_act_32 rfl (by decide) (L' := [(0, _), (1, _), (2, _), (3, _), (4, _), (5, _)]) rfl ?_
  refine V_aload_n 35 C dL_act_34 rfl rfl ?_
  refine V_iconst 36 C dL_act_35 rfl ic2 ?_
  refine V_iconst 37 C dL_act_36 rfl ic4 ?_
  refine V_iconst 38 C dL_act_37 rfl ic0 ?_
  refine V_iconst 39 C dL_act_38 rfl ic0 ?_
  refine V_q1 42 (16) (96) C hF dL_act_39 rfl mL_call.z tw250 (k_about l G _ _ hl x σ hS hI _ _ _ _ (v_ab (j := 4) (w := σ.1 4) (by omega) rfl)) rfl rfl ⟨Nat.le_of_ble_eq_true rfl, Nat.le_of_ble_eq_true rfl⟩ ⟨by omega, by omega⟩ ⟨by show _ ≤ 24; omega, by show _ ≤ 144; omega⟩ (Nat.le_of_ble_eq_true rfl) ?_
  clear hS hF n h
  intro n h hS hF
  refine V_istore 44 C dL_act_42 rfl (by decide) (L' := [(0, _), (1, _), (2, _), (3, _), (4, _), (5, _), (6, _)]) rfl ?_
  refine V_iload_n 45 C dL_act_44 rfl rfl ?_
  refine V_iload_n 46 C dL_act_45 rfl rfl ?_
  refine V_iremN 47 C dL_act_46 rfl (by omega) (by omega) (by omega) ?_
  refine V_istore 49 C dL_act_47 rfl (by decide) (L' := [(0, _), (1, _), (2, _), (3, _), (4, _), (5, _), (6, _), (7, _)]) rfl ?_
  refine V_iload_n 50 C dL_act_49 rfl rfl ?_
  refine V_bipush 52 C dL_act_50 rfl bip6 ?_
  refine V_idivN 53 C dL_act_52 rfl (by omega) (by omega) (by omega) ?_
  refine V_iload 55 C dL_act_53 rfl rfl ?_
  refine V_iremN 56 C dL_act_55 rfl (by omega) (by omega) (by omega) ?_
  refine V_istore 58 C dL_act_56 rfl (by decide) (L' := [(0, _), (1, _), (2, _), (3, _), (4, _), (5, _), (6, _), (7, _), (8, _)]) rfl ?_
  refine V_iload_n 59 C dL_act_58 rfl rfl ?_
  refine V_bipush 61 C dL_act_59 rfl bip72 ?_
  refine V_idivN 62 C dL_act_61 rfl (by omega) (by omega) (by omega) ?_
  refine V_iload 64 C dL_act_62 rfl rfl ?_
  refine V_iremN 65 C dL_act_64 rfl (by omega) (by omega) (by omega) ?_
  refine V_istore 67 C dL_act_65 rfl (by decide) (L' := [(0, _), (1, _), (2, _), (3, _), (4, _), (5, _), (6, _), (7, _), (8, _), (9, _)]) rfl ?_
  refine V_iload_n 68 C dL_act_67 rfl rfl ?_
  refine V_bipush 70 C dL_act_68 rfl bip16 ?_
  refine V_iremN 71 C dL_act_70 rfl (by omega) (by omega) (by omega) ?_
  refine V_tsI 165 C dL_act_71 (j := 1) h16 (by decide) (by decide) (by decide) rfl (by decide) ?_
  refine V_aload_n 166 C dL_act_165 rfl rfl ?_
  refine V_bipush 168 C dL_act_166 rfl bip8 ?_
  refine V_iload 170 C dL_act_168 rfl rfl ?_
  refine V_iload_n 171 C dL_act_170 rfl rfl ?_
  refine V_bipush 173 C dL_act_171 rfl bip6 ?_
  refine V_idivN 174 C dL_act_173 rfl (by omega) (by omega) (by omega) ?_
  refine V_iload_n 175 C dL_act_174 rfl rfl ?_
  refine V_iremN 176 C dL_act_175 rfl (by omega) (by omega) (by omega) ?_
  refine V_iconst 177 C dL_act_176 rfl ic1 ?_
  refine V_iload_n 178 C dL_act_177 rfl rfl ?_
  refine V_bipush 180 C dL_act_178 rfl bip36 ?_
  refine V_idivN 181 C dL_act_180 rfl (by omega) (by omega) (by omega) ?_
  refine V_bipush 183 C dL_act_181 rfl bip20 ?_
  refine V_iremN 184 C dL_act_183 rfl (by omega) (by omega) (by omega) ?_
  refine V_iaddN 185 C dL_act_184 rfl  ?_
  refine V_q1 188 (20) (120) C hF dL_act_185 rfl mL_call.z tw250 (k_road l G _ _ hl x σ hS hI _ _ _ _ hv9 _ hs9) rfl rfl ⟨Nat.le_of_ble_eq_true rfl, Nat.le_of_ble_eq_true rfl⟩ ⟨by omega, by omega⟩ ⟨by show _ ≤ 24; omega, by show _ ≤ 144; omega⟩ (Nat.le_of_ble_eq_true rfl) ?_
  clear hS hF n h
  intro n h hS hF
  refine V_ireturn C dL_act_188 rfl rfl (by omega) (by omega) ?_
  exact ⟨rfl, hS, hF⟩

set_option maxRecDepth 100000 in
set_option maxHeartbeats 4000000 in
theorem c_act_2 (l : Launch) (G : GT) (n0 : Nat) (h0 : AH) (hl : l.stackTraces = false) (x : Nat) (σ : St) (hS0 : SC x σ h0) (hI : SIs σ) (h3 : 3 ≤ σ.1 0 ∧ 1 ≤ σ.1 2 ∧ 1 ≤ σ.1 4) (hb5 : σ.1 5 < 2 ^ 31) (X : Nat) (hX : X < 2 ^ 31) (h16 : X % 16 = 2) (v9 : Int32) (hv9 : rv (kA 1 2 3 (aWr σ.1 (nI (X / 16 % σ.1 0)) (nI (X / 16 / 6 % 1000000)) (nI (X / 16 % 10))).1) ((aWr σ.1 (nI (X / 16 % σ.1 0)) (nI (X / 16 / 6 % 1000000)) (nI (X / 16 % 10))).1) [eI, eA, eS] = v9) (σ9 : St) (hs9 : ((aWr σ.1 (nI (X / 16 % σ.1 0)) (nI (X / 16 / 6 % 1000000)) (nI (X / 16 % 10))).2, (aK (kA 1 2 3 (aWr σ.1 (nI (X / 16 % σ.1 0)) (nI (X / 16 / 6 % 1000000)) (nI (X / 16 % 10))).1) σ.2.1), (aD (kA 1 2 3 (aWr σ.1 (nI (X / 16 % σ.1 0)) (nI (X / 16 / 6 % 1000000)) (nI (X / 16 % 10))).1) σ.2.1 σ.2.2.1 σ.1), σ.2.2.2.1, σ.2.2.2.2) = σ9) : Ct l yL_act cL_act 10 (some .int) 11 24 144 G n0 h0 [.ref x, .int (nI X)] (PoS x h0 v9 σ9) := by
  have hIv : Iv σ.1 := hI.1
  have i0 := hIv.1
  refine Ct_ofZ mL_act.z (Nat.le_of_ble_eq_true rfl) ?_
  intro p₀ e₀ s₀ m₀ as₀ bl₀ me₀ c₀ C
  refine V_Le (L' := [(0, .ref x), (1, .int (nI X))]) rfl ?_
  suffices H : ∀ (n : Nat) (h : AH) (hS : SC x σ h) (hF : FX x h0 h), V p₀ l e₀ (rmD 11 24 144) s₀ m₀ as₀ bl₀ me₀ c₀ (MQ bl₀ (Po G (PoS x h0 v9 σ9)) as₀ s₀ 24 144 (rg G)) G 10 0 0 n h 0 [(0, .ref x), (1, .int (nI X))] [] from H n0 h0 hS0 FX.rf
  intro n h hS hF
  refine V_iload_n 1 C dL_act_0 rfl rfl ?_
  refine V_bipush 3 C dL_act_1 rfl bip16 ?_
  refine V_idivN 4 C dL_act_3 rfl (by omega) (by omega) (by omega) ?_
  refine V_istore_n 5 C dL_act_4 rfl (by decide) (L' := [(0, _), (1, _), (2, _)]) rfl ?_
  refine V_aload_n 6 C dL_act_5 rfl rfl ?_
  refine V_iconst 7 C dL_act_6 rfl ic2 ?_
  refine V_iconst 8 C dL_act_7 rfl ic0 ?_
  refine V_iconst 9 C dL_act_8 rfl ic0 ?_
  refine V_iconst 10 C dL_act_9 rfl ic0 ?_
  refine V_q1 13 (4) (24) C hF dL_act_10 rfl mL_call.z tw250 (k_about l G _ _ hl x σ hS hI _ _ _ _ (v_ab (j := 0) (w := σ.1 0) (by omega) rfl)) rfl rfl ⟨Nat.le_of_ble_eq_true rfl, Nat.le_of_ble_eq_true rfl⟩ ⟨by omega, by omega⟩ ⟨by show _ ≤ 24; omega, by show _ ≤ 144; omega⟩ (Nat.le_of_ble_eq_true rfl) ?_
  clear hS hF n h
  intro n h hS hF
  refine V_istore_n 14 C dL_act_13 rfl (by decide) (L' := [(0, _), (1, _), (2, _), (3, _)]) rfl ?_
  refine V_aload_n 15 C dL_act_14 rfl rfl ?_
  refine V_iconst 16 C dL_act_15 rfl ic2 ?_
  refine V_iconst 17 C dL_act_16 rfl ic1 ?_
  refine V_iconst 18 C dL_act_17 rfl ic0 ?_
  refine V_iconst 19 C dL_act_18 rfl ic0 ?_
  refine V_q1 22 (8) (48) C hF dL_act_19 rfl mL_call.z tw250 (k_about l G _ _ hl x σ hS hI _ _ _ _ (v_ab (j := 1) (w := σ.1 1) (by omega) rfl)) rfl rfl ⟨Nat.le_of_ble_eq_true rfl, Nat.le_of_ble_eq_true rfl⟩ ⟨by omega, by omega⟩ ⟨by show _ ≤ 24; omega, by show _ ≤ 144; omega⟩ (Nat.le_of_ble_eq_true rfl) ?_
  clear hS hF n h
  intro n h hS hF
  refine V_istore 24 C dL_act_22 rfl (by decide) (L' := [(0, _), (1, _), (2, _), (3, _), (4, _)]) rfl ?_
  refine V_aload_n 25 C dL_act_24 rfl rfl ?_
  refine V_iconst 26 C dL_act_25 rfl ic2 ?_
  refine V_iconst 27 C dL_act_26 rfl ic2 ?_
  refine V_iconst 28 C dL_act_27 rfl ic0 ?_
  refine V_iconst 29 C dL_act_28 rfl ic0 ?_
  refine V_q1 32 (12) (72) C hF dL_act_29 rfl mL_call.z tw250 (k_about l G _ _ hl x σ hS hI _ _ _ _ (v_ab (j := 2) (w := σ.1 2) (by omega) rfl)) rfl rfl ⟨Nat.le_of_ble_eq_true rfl, Nat.le_of_ble_eq_true rfl⟩ ⟨by omega, by omega⟩ ⟨by show _ ≤ 24; omega, by show _ ≤ 144; omega⟩ (Nat.le_of_ble_eq_true rfl) ?_
  clear hS hF n h
  intro n h hS hF
  refine V_istore 34 C dL_act_32 rfl (by decide) (L' := [(0, _), (1, _), (2, _), (3, _), (4, _), (5, _)]) rfl ?_
  refine V_aload_n 35 C dL_act_34 rfl rfl ?_
  refine V_iconst 36 C dL_act_35 rfl ic2 ?_
  refine V_iconst 37 C dL_act_36 rfl ic4 ?_
  refine V_iconst 38 C dL_act_37 rfl ic0 ?_
  refine V_iconst 39 C dL_act_38 rfl ic0 ?_
  refine V_q1 42 (16) (96) C hF dL_act_39 rfl mL_call.z tw250 (k_about l G _ _ hl x σ hS hI _ _ _ _ (v_ab (j := 4) (w := σ.1 4) (by omega) rfl)) rfl rfl ⟨Nat.le_of_ble_eq_true rfl, Nat.le_of_ble_eq_true rfl⟩ ⟨by omega, by omega⟩ ⟨by show _ ≤ 24; omega, by show _ ≤ 144; omega⟩ (Nat.le_of_ble_eq_true rfl) ?_
  clear hS hF n h
  intro n h hS hF
  refine V_istore 44 C dL_act_42 rfl (by decide) (L' := [(0, _), (1, _), (2, _), (3, _), (4, _), (5, _), (6, _)]) rfl ?_
  refine V_iload_n 45 C dL_act_44 rfl rfl ?_
  refine V_iload_n 46 C dL_act_45 rfl rfl ?_
  refine V_iremN 47 C dL_act_46 rfl (by omega) (by omega) (by omega) ?_
  refine V_istore 49 C dL_act_47 rfl (by decide) (L' := [(0, _), (1, _), (2, _), (3, _), (4, _), (5, _), (6, _), (7, _)]) rfl ?_
  refine V_iload_n 50 C dL_act_49 rfl rfl ?_
  refine V_bipush 52 C dL_act_50 rfl bip6 ?_
  refine V_idivN 53 C dL_act_52 rfl (by omega) (by omega) (by omega) ?_
  refine V_iload 55 C dL_act_53 rfl rfl ?_
  refine V_iremN 56 C dL_act_55 rfl (by omega) (by omega) (by omega) ?_
  refine V_istore 58 C dL_act_56 rfl (by decide) (L' := [(0, _), (1, _), (2, _), (3, _), (4, _), (5, _), (6, _), (7, _), (8, _)]) rfl ?_
  refine V_iload_n 59 C dL_act_58 rfl rfl ?_
  refine V_bipush 61 C dL_act_59 rfl bip72 ?_
  refine V_idivN 62 C dL_act_61 rfl (by omega) (by omega) (by omega) ?_
  refine V_iload 64 C dL_act_62 rfl rfl ?_
  refine V_iremN 65 C dL_act_64 rfl (by omega) (by omega) (by omega) ?_
  refine V_istore 67 C dL_act_65 rfl (by decide) (L' := [(0, _), (1, _), (2, _), (3, _), (4, _), (5, _), (6, _), (7, _), (8, _), (9, _)]) rfl ?_
  refine V_iload_n 68 C dL_act_67 rfl rfl ?_
  refine V_bipush 70 C dL_act_68 rfl bip16 ?_
  refine V_iremN 71 C dL_act_70 rfl (by omega) (by omega) (by omega) ?_
  refine V_tsI 189 C dL_act_71 (j := 2) h16 (by decide) (by decide) (by decide) rfl (by decide) ?_
  refine V_aload_n 190 C dL_act_189 rfl rfl ?_
  refine V_bipush 192 C dL_act_190 rfl bip10 ?_
  refine V_iload 194 C dL_act_192 rfl rfl ?_
  refine V_iload_n 195 C dL_act_194 rfl rfl ?_
  refine V_bipush 197 C dL_act_195 rfl bip6 ?_
  refine V_idivN 198 C dL_act_197 rfl (by omega) (by omega) (by omega) ?_
  refine V_ldc 200 C dL_act_198 rfl tw862 ?_
  refine V_st (st' := .int (nI 1000000) :: _) rfl ?_
  refine V_iremN 201 C dL_act_200 rfl (by omega) (by omega) (by omega) ?_
  refine V_iload_n 202 C dL_act_201 rfl rfl ?_
  refine V_bipush 204 C dL_act_202 rfl bip10 ?_
  refine V_iremN 205 C dL_act_204 rfl (by omega) (by omega) (by omega) ?_
  refine V_q1 208 (20) (120) C hF dL_act_205 rfl mL_call.z tw250 (k_write l G _ _ hl x σ hS hI _ _ _ _ hv9 _ hs9) rfl rfl ⟨Nat.le_of_ble_eq_true rfl, Nat.le_of_ble_eq_true rfl⟩ ⟨by omega, by omega⟩ ⟨by show _ ≤ 24; omega, by show _ ≤ 144; omega⟩ (Nat.le_of_ble_eq_true rfl) ?_
  clear hS hF n h
  intro n h hS hF
  refine V_ireturn C dL_act_208 rfl rfl (by omega) (by omega) ?_
  exact ⟨rfl, hS, hF⟩

set_option maxRecDepth 100000 in
set_option maxHeartbeats 4000000 in
theorem c_act_3 (l : Launch) (G : GT) (n0 : Nat) (h0 : AH) (hl : l.stackTraces = false) (x : Nat) (σ : St) (hS0 : SC x σ h0) (hI : SIs σ) (h3 : 3 ≤ σ.1 0 ∧ 1 ≤ σ.1 2 ∧ 1 ≤ σ.1 4) (hb5 : σ.1 5 < 2 ^ 31) (X : Nat) (hX : X < 2 ^ 31) (h16 : X % 16 = 3) (v9 : Int32) (hv9 : rv (kA 1 1 2 (aTk σ.1 (nI (X / 16 / 72 % σ.1 2)) (nI (X / 16 / 6 % σ.1 4))).1) ((aTk σ.1 (nI (X / 16 / 72 % σ.1 2)) (nI (X / 16 / 6 % σ.1 4))).1) [eI, eS] = v9) (σ9 : St) (hs9 : ((aTk σ.1 (nI (X / 16 / 72 % σ.1 2)) (nI (X / 16 / 6 % σ.1 4))).2, (aK (kA 1 1 2 (aTk σ.1 (nI (X / 16 / 72 % σ.1 2)) (nI (X / 16 / 6 % σ.1 4))).1) σ.2.1), (aD (kA 1 1 2 (aTk σ.1 (nI (X / 16 / 72 % σ.1 2)) (nI (X / 16 / 6 % σ.1 4))).1) σ.2.1 σ.2.2.1 σ.1), σ.2.2.2.1, σ.2.2.2.2) = σ9) : Ct l yL_act cL_act 10 (some .int) 11 24 144 G n0 h0 [.ref x, .int (nI X)] (PoS x h0 v9 σ9) := by
  have hIv : Iv σ.1 := hI.1
  have i0 := hIv.1
  refine Ct_ofZ mL_act.z (Nat.le_of_ble_eq_true rfl) ?_
  intro p₀ e₀ s₀ m₀ as₀ bl₀ me₀ c₀ C
  refine V_Le (L' := [(0, .ref x), (1, .int (nI X))]) rfl ?_
  suffices H : ∀ (n : Nat) (h : AH) (hS : SC x σ h) (hF : FX x h0 h), V p₀ l e₀ (rmD 11 24 144) s₀ m₀ as₀ bl₀ me₀ c₀ (MQ bl₀ (Po G (PoS x h0 v9 σ9)) as₀ s₀ 24 144 (rg G)) G 10 0 0 n h 0 [(0, .ref x), (1, .int (nI X))] [] from H n0 h0 hS0 FX.rf
  intro n h hS hF
  refine V_iload_n 1 C dL_act_0 rfl rfl ?_
  refine V_bipush 3 C dL_act_1 rfl bip16 ?_
  refine V_idivN 4 C dL_act_3 rfl (by omega) (by omega) (by omega) ?_
  refine V_istore_n 5 C dL_act_4 rfl (by decide) (L' := [(0, _), (1, _), (2, _)]) rfl ?_
  refine V_aload_n 6 C dL_act_5 rfl rfl ?_
  refine V_iconst 7 C dL_act_6 rfl ic2 ?_
  refine V_iconst 8 C dL_act_7 rfl ic0 ?_
  refine V_iconst 9 C dL_act_8 rfl ic0 ?_
  refine V_iconst 10 C dL_act_9 rfl ic0 ?_
  refine V_q1 13 (4) (24) C hF dL_act_10 rfl mL_call.z tw250 (k_about l G _ _ hl x σ hS hI _ _ _ _ (v_ab (j := 0) (w := σ.1 0) (by omega) rfl)) rfl rfl ⟨Nat.le_of_ble_eq_true rfl, Nat.le_of_ble_eq_true rfl⟩ ⟨by omega, by omega⟩ ⟨by show _ ≤ 24; omega, by show _ ≤ 144; omega⟩ (Nat.le_of_ble_eq_true rfl) ?_
  clear hS hF n h
  intro n h hS hF
  refine V_istore_n 14 C dL_act_13 rfl (by decide) (L' := [(0, _), (1, _), (2, _), (3, _)]) rfl ?_
  refine V_aload_n 15 C dL_act_14 rfl rfl ?_
  refine V_iconst 16 C dL_act_15 rfl ic2 ?_
  refine V_iconst 17 C dL_act_16 rfl ic1 ?_
  refine V_iconst 18 C dL_act_17 rfl ic0 ?_
  refine V_iconst 19 C dL_act_18 rfl ic0 ?_
  refine V_q1 22 (8) (48) C hF dL_act_19 rfl mL_call.z tw250 (k_about l G _ _ hl x σ hS hI _ _ _ _ (v_ab (j := 1) (w := σ.1 1) (by omega) rfl)) rfl rfl ⟨Nat.le_of_ble_eq_true rfl, Nat.le_of_ble_eq_true rfl⟩ ⟨by omega, by omega⟩ ⟨by show _ ≤ 24; omega, by show _ ≤ 144; omega⟩ (Nat.le_of_ble_eq_true rfl) ?_
  clear hS hF n h
  intro n h hS hF
  refine V_istore 24 C dL_act_22 rfl (by decide) (L' := [(0, _), (1, _), (2, _), (3, _), (4, _)]) rfl ?_
  refine V_aload_n 25 C dL_act_24 rfl rfl ?_
  refine V_iconst 26 C dL_act_25 rfl ic2 ?_
  refine V_iconst 27 C dL_act_26 rfl ic2 ?_
  refine V_iconst 28 C dL_act_27 rfl ic0 ?_
  refine V_iconst 29 C dL_act_28 rfl ic0 ?_
  refine V_q1 32 (12) (72) C hF dL_act_29 rfl mL_call.z tw250 (k_about l G _ _ hl x σ hS hI _ _ _ _ (v_ab (j := 2) (w := σ.1 2) (by omega) rfl)) rfl rfl ⟨Nat.le_of_ble_eq_true rfl, Nat.le_of_ble_eq_true rfl⟩ ⟨by omega, by omega⟩ ⟨by show _ ≤ 24; omega, by show _ ≤ 144; omega⟩ (Nat.le_of_ble_eq_true rfl) ?_
  clear hS hF n h
  intro n h hS hF
  refine V_istore 34 C dL_act_32 rfl (by decide) (L' := [(0, _), (1, _), (2, _), (3, _), (4, _), (5, _)]) rfl ?_
  refine V_aload_n 35 C dL_act_34 rfl rfl ?_
  refine V_iconst 36 C dL_act_35 rfl ic2 ?_
  refine V_iconst 37 C dL_act_36 rfl ic4 ?_
  refine V_iconst 38 C dL_act_37 rfl ic0 ?_
  refine V_iconst 39 C dL_act_38 rfl ic0 ?_
  refine V_q1 42 (16) (96) C hF dL_act_39 rfl mL_call.z tw250 (k_about l G _ _ hl x σ hS hI _ _ _ _ (v_ab (j := 4) (w := σ.1 4) (by omega) rfl)) rfl rfl ⟨Nat.le_of_ble_eq_true rfl, Nat.le_of_ble_eq_true rfl⟩ ⟨by omega, by omega⟩ ⟨by show _ ≤ 24; omega, by show _ ≤ 144; omega⟩ (Nat.le_of_ble_eq_true rfl) ?_
  clear hS hF n h
  intro n h hS hF
  refine V_istore 44 C dL_act_42 rfl (by decide) (L' := [(0, _), (1, _), (2, _), (3, _), (4, _), (5, _), (6, _)]) rfl ?_
  refine V_iload_n 45 C dL_act_44 rfl rfl ?_
  refine V_iload_n 46 C dL_act_45 rfl rfl ?_
  refine V_iremN 47 C dL_act_46 rfl (by omega) (by omega) (by omega) ?_
  refine V_istore 49 C dL_act_47 rfl (by decide) (L' := [(0, _), (1, _), (2, _), (3, _), (4, _), (5, _), (6, _), (7, _)]) rfl ?_
  refine V_iload_n 50 C dL_act_49 rfl rfl ?_
  refine V_bipush 52 C dL_act_50 rfl bip6 ?_
  refine V_idivN 53 C dL_act_52 rfl (by omega) (by omega) (by omega) ?_
  refine V_iload 55 C dL_act_53 rfl rfl ?_
  refine V_iremN 56 C dL_act_55 rfl (by omega) (by omega) (by omega) ?_
  refine V_istore 58 C dL_act_56 rfl (by decide) (L' := [(0, _), (1, _), (2, _), (3, _), (4, _), (5, _), (6, _), (7, _), (8, _)]) rfl ?_
  refine V_iload_n 59 C dL_act_58 rfl rfl ?_
  refine V_bipush 61 C dL_act_59 rfl bip72 ?_
  refine V_idivN 62 C dL_act_61 rfl (by omega) (by omega) (by omega) ?_
  refine V_iload 64 C dL_act_62 rfl rfl ?_
  refine V_iremN 65 C dL_act_64 rfl (by omega) (by omega) (by omega) ?_
  refine V_istore 67 C dL_act_65 rfl (by decide) (L' := [(0, _), (1, _), (2, _), (3, _), (4, _), (5, _), (6, _), (7, _), (8, _), (9, _)]) rfl ?_
  refine V_iload_n 68 C dL_act_67 rfl rfl ?_
  refine V_bipush 70 C dL_act_68 rfl bip16 ?_
  refine V_iremN 71 C dL_act_70 rfl (by omega) (by omega) (by omega) ?_
  refine V_tsI 209 C dL_act_71 (j := 3) h16 (by decide) (by decide) (by decide) rfl (by decide) ?_
  refine V_aload_n 210 C dL_act_209 rfl rfl ?_
  refine V_bipush 212 C dL_act_210 rfl bip11 ?_
  refine V_iload 214 C dL_act_212 rfl rfl ?_
  refine V_iload 216 C dL_act_214 rfl rfl ?_
  refine V_iconst 217 C dL_act_216 rfl ic0 ?_
  refine V_q1 220 (20) (120) C hF dL_act_217 rfl mL_call.z tw250 (k_take l G _ _ hl x σ hS hI _ _ _ _ hv9 _ hs9) rfl rfl ⟨Nat.le_of_ble_eq_true rfl, Nat.le_of_ble_eq_true rfl⟩ ⟨by omega, by omega⟩ ⟨by show _ ≤ 24; omega, by show _ ≤ 144; omega⟩ (Nat.le_of_ble_eq_true rfl) ?_
  clear hS hF n h
  intro n h hS hF
  refine V_ireturn C dL_act_220 rfl rfl (by omega) (by omega) ?_
  exact ⟨rfl, hS, hF⟩

set_option maxRecDepth 100000 in
set_option maxHeartbeats 4000000 in
theorem c_act_4 (l : Launch) (G : GT) (n0 : Nat) (h0 : AH) (hl : l.stackTraces = false) (x : Nat) (σ : St) (hS0 : SC x σ h0) (hI : SIs σ) (h3 : 3 ≤ σ.1 0 ∧ 1 ≤ σ.1 2 ∧ 1 ≤ σ.1 4) (hb5 : σ.1 5 < 2 ^ 31) (X : Nat) (hX : X < 2 ^ 31) (h16 : X % 16 = 4) (v9 : Int32) (hv9 : rv (kA 1 1 2 (aTk σ.1 (nI (X / 16 / 72 % σ.1 2)) (nI (X / 16 / 6 % σ.1 4))).1) ((aTk σ.1 (nI (X / 16 / 72 % σ.1 2)) (nI (X / 16 / 6 % σ.1 4))).1) [eI, eS] = v9) (σ9 : St) (hs9 : ((aTk σ.1 (nI (X / 16 / 72 % σ.1 2)) (nI (X / 16 / 6 % σ.1 4))).2, (aK (kA 1 1 2 (aTk σ.1 (nI (X / 16 / 72 % σ.1 2)) (nI (X / 16 / 6 % σ.1 4))).1) σ.2.1), (aD (kA 1 1 2 (aTk σ.1 (nI (X / 16 / 72 % σ.1 2)) (nI (X / 16 / 6 % σ.1 4))).1) σ.2.1 σ.2.2.1 σ.1), σ.2.2.2.1, σ.2.2.2.2) = σ9) : Ct l yL_act cL_act 10 (some .int) 11 24 144 G n0 h0 [.ref x, .int (nI X)] (PoS x h0 v9 σ9) := by
  have hIv : Iv σ.1 := hI.1
  have i0 := hIv.1
  refine Ct_ofZ mL_act.z (Nat.le_of_ble_eq_true rfl) ?_
  intro p₀ e₀ s₀ m₀ as₀ bl₀ me₀ c₀ C
  refine V_Le (L' := [(0, .ref x), (1, .int (nI X))]) rfl ?_
  suffices H : ∀ (n : Nat) (h : AH) (hS : SC x σ h) (hF : FX x h0 h), V p₀ l e₀ (rmD 11 24 144) s₀ m₀ as₀ bl₀ me₀ c₀ (MQ bl₀ (Po G (PoS x h0 v9 σ9)) as₀ s₀ 24 144 (rg G)) G 10 0 0 n h 0 [(0, .ref x), (1, .int (nI X))] [] from H n0 h0 hS0 FX.rf
  intro n h hS hF
  refine V_iload_n 1 C dL_act_0 rfl rfl ?_
  refine V_bipush 3 C dL_act_1 rfl bip16 ?_
  refine V_idivN 4 C dL_act_3 rfl (by omega) (by omega) (by omega) ?_
  refine V_istore_n 5 C dL_act_4 rfl (by decide) (L' := [(0, _), (1, _), (2, _)]) rfl ?_
  refine V_aload_n 6 C dL_act_5 rfl rfl ?_
  refine V_iconst 7 C dL_act_6 rfl ic2 ?_
  refine V_iconst 8 C dL_act_7 rfl ic0 ?_
  refine V_iconst 9 C dL_act_8 rfl ic0 ?_
  refine V_iconst 10 C dL_act_9 rfl ic0 ?_
  refine V_q1 13 (4) (24) C hF dL_act_10 rfl mL_call.z tw250 (k_about l G _ _ hl x σ hS hI _ _ _ _ (v_ab (j := 0) (w := σ.1 0) (by omega) rfl)) rfl rfl ⟨Nat.le_of_ble_eq_true rfl, Nat.le_of_ble_eq_true rfl⟩ ⟨by omega, by omega⟩ ⟨by show _ ≤ 24; omega, by show _ ≤ 144; omega⟩ (Nat.le_of_ble_eq_true rfl) ?_
  clear hS hF n h
  intro n h hS hF
  refine V_istore_n 14 C dL_act_13 rfl (by decide) (L' := [(0, _), (1, _), (2, _), (3, _)]) rfl ?_
  refine V_aload_n 15 C dL_act_14 rfl rfl ?_
  refine V_iconst 16 C dL_act_15 rfl ic2 ?_
  refine V_iconst 17 C dL_act_16 rfl ic1 ?_
  refine V_iconst 18 C dL_act_17 rfl ic0 ?_
  refine V_iconst 19 C dL_act_18 rfl ic0 ?_
  refine V_q1 22 (8) (48) C hF dL_act_19 rfl mL_call.z tw250 (k_about l G _ _ hl x σ hS hI _ _ _ _ (v_ab (j := 1) (w := σ.1 1) (by omega) rfl)) rfl rfl ⟨Nat.le_of_ble_eq_true rfl, Nat.le_of_ble_eq_true rfl⟩ ⟨by omega, by omega⟩ ⟨by show _ ≤ 24; omega, by show _ ≤ 144; omega⟩ (Nat.le_of_ble_eq_true rfl) ?_
  clear hS hF n h
  intro n h hS hF
  refine V_istore 24 C dL_act_22 rfl (by decide) (L' := [(0, _), (1, _), (2, _), (3, _), (4, _)]) rfl ?_
  refine V_aload_n 25 C dL_act_24 rfl rfl ?_
  refine V_iconst 26 C dL_act_25 rfl ic2 ?_
  refine V_iconst 27 C dL_act_26 rfl ic2 ?_
  refine V_iconst 28 C dL_act_27 rfl ic0 ?_
  refine V_iconst 29 C dL_act_28 rfl ic0 ?_
  refine V_q1 32 (12) (72) C hF dL_act_29 rfl mL_call.z tw250 (k_about l G _ _ hl x σ hS hI _ _ _ _ (v_ab (j := 2) (w := σ.1 2) (by omega) rfl)) rfl rfl ⟨Nat.le_of_ble_eq_true rfl, Nat.le_of_ble_eq_true rfl⟩ ⟨by omega, by omega⟩ ⟨by show _ ≤ 24; omega, by show _ ≤ 144; omega⟩ (Nat.le_of_ble_eq_true rfl) ?_
  clear hS hF n h
  intro n h hS hF
  refine V_istore 34 C dL_act_32 rfl (by decide) (L' := [(0, _), (1, _), (2, _), (3, _), (4, _), (5, _)]) rfl ?_
  refine V_aload_n 35 C dL_act_34 rfl rfl ?_
  refine V_iconst 36 C dL_act_35 rfl ic2 ?_
  refine V_iconst 37 C dL_act_36 rfl ic4 ?_
  refine V_iconst 38 C dL_act_37 rfl ic0 ?_
  refine V_iconst 39 C dL_act_38 rfl ic0 ?_
  refine V_q1 42 (16) (96) C hF dL_act_39 rfl mL_call.z tw250 (k_about l G _ _ hl x σ hS hI _ _ _ _ (v_ab (j := 4) (w := σ.1 4) (by omega) rfl)) rfl rfl ⟨Nat.le_of_ble_eq_true rfl, Nat.le_of_ble_eq_true rfl⟩ ⟨by omega, by omega⟩ ⟨by show _ ≤ 24; omega, by show _ ≤ 144; omega⟩ (Nat.le_of_ble_eq_true rfl) ?_
  clear hS hF n h
  intro n h hS hF
  refine V_istore 44 C dL_act_42 rfl (by decide) (L' := [(0, _), (1, _), (2, _), (3, _), (4, _), (5, _), (6, _)]) rfl ?_
  refine V_iload_n 45 C dL_act_44 rfl rfl ?_
  refine V_iload_n 46 C dL_act_45 rfl rfl ?_
  refine V_iremN 47 C dL_act_46 rfl (by omega) (by omega) (by omega) ?_
  refine V_istore 49 C dL_act_47 rfl (by decide) (L' := [(0, _), (1, _), (2, _), (3, _), (4, _), (5, _), (6, _), (7, _)]) rfl ?_
  refine V_iload_n 50 C dL_act_49 rfl rfl ?_
  refine V_bipush 52 C dL_act_50 rfl bip6 ?_
  refine V_idivN 53 C dL_act_52 rfl (by omega) (by omega) (by omega) ?_
  refine V_iload 55 C dL_act_53 rfl rfl ?_
  refine V_iremN 56 C dL_act_55 rfl (by omega) (by omega) (by omega) ?_
  refine V_istore 58 C dL_act_56 rfl (by decide) (L' := [(0, _), (1, _), (2, _), (3, _), (4, _), (5, _), (6, _), (7, _), (8, _)]) rfl ?_
  refine V_iload_n 59 C dL_act_58 rfl rfl ?_
  refine V_bipush 61 C dL_act_59 rfl bip72 ?_
  refine V_idivN 62 C dL_act_61 rfl (by omega) (by omega) (by omega) ?_
  refine V_iload 64 C dL_act_62 rfl rfl ?_
  refine V_iremN 65 C dL_act_64 rfl (by omega) (by omega) (by omega) ?_
  refine V_istore 67 C dL_act_65 rfl (by decide) (L' := [(0, _), (1, _), (2, _), (3, _), (4, _), (5, _), (6, _), (7, _), (8, _), (9, _)]) rfl ?_
  refine V_iload_n 68 C dL_act_67 rfl rfl ?_
  refine V_bipush 70 C dL_act_68 rfl bip16 ?_
  refine V_iremN 71 C dL_act_70 rfl (by omega) (by omega) (by omega) ?_
  refine V_tsI 209 C dL_act_71 (j := 4) h16 (by decide) (by decide) (by decide) rfl (by decide) ?_
  refine V_aload_n 210 C dL_act_209 rfl rfl ?_
  refine V_bipush 212 C dL_act_210 rfl bip11 ?_
  refine V_iload 214 C dL_act_212 rfl rfl ?_
  refine V_iload 216 C dL_act_214 rfl rfl ?_
  refine V_iconst 217 C dL_act_216 rfl ic0 ?_
  refine V_q1 220 (20) (120) C hF dL_act_217 rfl mL_call.z tw250 (k_take l G _ _ hl x σ hS hI _ _ _ _ hv9 _ hs9) rfl rfl ⟨Nat.le_of_ble_eq_true rfl, Nat.le_of_ble_eq_true rfl⟩ ⟨by omega, by omega⟩ ⟨by show _ ≤ 24; omega, by show _ ≤ 144; omega⟩ (Nat.le_of_ble_eq_true rfl) ?_
  clear hS hF n h
  intro n h hS hF
  refine V_ireturn C dL_act_220 rfl rfl (by omega) (by omega) ?_
  exact ⟨rfl, hS, hF⟩

set_option maxRecDepth 100000 in
set_option maxHeartbeats 4000000 in
theorem c_act_5 (l : Launch) (G : GT) (n0 : Nat) (h0 : AH) (hl : l.stackTraces = false) (x : Nat) (σ : St) (hS0 : SC x σ h0) (hI : SIs σ) (h3 : 3 ≤ σ.1 0 ∧ 1 ≤ σ.1 2 ∧ 1 ≤ σ.1 4) (hb5 : σ.1 5 < 2 ^ 31) (X : Nat) (hX : X < 2 ^ 31) (h16 : X % 16 = 5) (v9 : Int32) (hv9 : rv (kA 1 1 2 (aLy σ.1 (nI (X / 16 / 6 % σ.1 4))).1) ((aLy σ.1 (nI (X / 16 / 6 % σ.1 4))).1) [eI, eS] = v9) (σ9 : St) (hs9 : ((aLy σ.1 (nI (X / 16 / 6 % σ.1 4))).2, (aK (kA 1 1 2 (aLy σ.1 (nI (X / 16 / 6 % σ.1 4))).1) σ.2.1), (aD (kA 1 1 2 (aLy σ.1 (nI (X / 16 / 6 % σ.1 4))).1) σ.2.1 σ.2.2.1 σ.1), σ.2.2.2.1, σ.2.2.2.2) = σ9) : Ct l yL_act cL_act 10 (some .int) 11 24 144 G n0 h0 [.ref x, .int (nI X)] (PoS x h0 v9 σ9) := by
  have hIv : Iv σ.1 := hI.1
  have i0 := hIv.1
  refine Ct_ofZ mL_act.z (Nat.le_of_ble_eq_true rfl) ?_
  intro p₀ e₀ s₀ m₀ as₀ bl₀ me₀ c₀ C
  refine V_Le (L' := [(0, .ref x), (1, .int (nI X))]) rfl ?_
  suffices H : ∀ (n : Nat) (h : AH) (hS : SC x σ h) (hF : FX x h0 h), V p₀ l e₀ (rmD 11 24 144) s₀ m₀ as₀ bl₀ me₀ c₀ (MQ bl₀ (Po G (PoS x h0 v9 σ9)) as₀ s₀ 24 144 (rg G)) G 10 0 0 n h 0 [(0, .ref x), (1, .int (nI X))] [] from H n0 h0 hS0 FX.rf
  intro n h hS hF
  refine V_iload_n 1 C dL_act_0 rfl rfl ?_
  refine V_bipush 3 C dL_act_1 rfl bip16 ?_
  refine V_idivN 4 C dL_act_3 rfl (by omega) (by omega) (by omega) ?_
  refine V_istore_n 5 C dL_act_4 rfl (by decide) (L' := [(0, _), (1, _), (2, _)]) rfl ?_
  refine V_aload_n 6 C dL_act_5 rfl rfl ?_
  refine V_iconst 7 C dL_act_6 rfl ic2 ?_
  refine V_iconst 8 C dL_act_7 rfl ic0 ?_
  refine V_iconst 9 C dL_act_8 rfl ic0 ?_
  refine V_iconst 10 C dL_act_9 rfl ic0 ?_
  refine V_q1 13 (4) (24) C hF dL_act_10 rfl mL_call.z tw250 (k_about l G _ _ hl x σ hS hI _ _ _ _ (v_ab (j := 0) (w := σ.1 0) (by omega) rfl)) rfl rfl ⟨Nat.le_of_ble_eq_true rfl, Nat.le_of_ble_eq_true rfl⟩ ⟨by omega, by omega⟩ ⟨by show _ ≤ 24; omega, by show _ ≤ 144; omega⟩ (Nat.le_of_ble_eq_true rfl) ?_
  clear hS hF n h
  intro n h hS hF
  refine V_istore_n 14 C dL_act_13 rfl (by decide) (L' := [(0, _), (1, _), (2, _), (3, _)]) rfl ?_
  refine V_aload_n 15 C dL_act_14 rfl rfl ?_
  refine V_iconst 16 C dL_act_15 rfl ic2 ?_
  refine V_iconst 17 C dL_act_16 rfl ic1 ?_
  refine V_iconst 18 C dL_act_17 rfl ic0 ?_
  refine V_iconst 19 C dL_act_18 rfl ic0 ?_
  refine V_q1 22 (8) (48) C hF dL_act_19 rfl mL_call.z tw250 (k_about l G _ _ hl x σ hS hI _ _ _ _ (v_ab (j := 1) (w := σ.1 1) (by omega) rfl)) rfl rfl ⟨Nat.le_of_ble_eq_true rfl, Nat.le_of_ble_eq_true rfl⟩ ⟨by omega, by omega⟩ ⟨by show _ ≤ 24; omega, by show _ ≤ 144; omega⟩ (Nat.le_of_ble_eq_true rfl) ?_
  clear hS hF n h
  intro n h hS hF
  refine V_istore 24 C dL_act_22 rfl (by decide) (L' := [(0, _), (1, _), (2, _), (3, _), (4, _)]) rfl ?_
  refine V_aload_n 25 C dL_act_24 rfl rfl ?_
  refine V_iconst 26 C dL_act_25 rfl ic2 ?_
  refine V_iconst 27 C dL_act_26 rfl ic2 ?_
  refine V_iconst 28 C dL_act_27 rfl ic0 ?_
  refine V_iconst 29 C dL_act_28 rfl ic0 ?_
  refine V_q1 32 (12) (72) C hF dL_act_29 rfl mL_call.z tw250 (k_about l G _ _ hl x σ hS hI _ _ _ _ (v_ab (j := 2) (w := σ.1 2) (by omega) rfl)) rfl rfl ⟨Nat.le_of_ble_eq_true rfl, Nat.le_of_ble_eq_true rfl⟩ ⟨by omega, by omega⟩ ⟨by show _ ≤ 24; omega, by show _ ≤ 144; omega⟩ (Nat.le_of_ble_eq_true rfl) ?_
  clear hS hF n h
  intro n h hS hF
  refine V_istore 34 C dL_act_32 rfl (by decide) (L' := [(0, _), (1, _), (2, _), (3, _), (4, _), (5, _)]) rfl ?_
  refine V_aload_n 35 C dL_act_34 rfl rfl ?_
  refine V_iconst 36 C dL_act_35 rfl ic2 ?_
  refine V_iconst 37 C dL_act_36 rfl ic4 ?_
  refine V_iconst 38 C dL_act_37 rfl ic0 ?_
  refine V_iconst 39 C dL_act_38 rfl ic0 ?_
  refine V_q1 42 (16) (96) C hF dL_act_39 rfl mL_call.z tw250 (k_about l G _ _ hl x σ hS hI _ _ _ _ (v_ab (j := 4) (w := σ.1 4) (by omega) rfl)) rfl rfl ⟨Nat.le_of_ble_eq_true rfl, Nat.le_of_ble_eq_true rfl⟩ ⟨by omega, by omega⟩ ⟨by show _ ≤ 24; omega, by show _ ≤ 144; omega⟩ (Nat.le_of_ble_eq_true rfl) ?_
  clear hS hF n h
  intro n h hS hF
  refine V_istore 44 C dL_act_42 rfl (by decide) (L' := [(0, _), (1, _), (2, _), (3, _), (4, _), (5, _), (6, _)]) rfl ?_
  refine V_iload_n 45 C dL_act_44 rfl rfl ?_
  refine V_iload_n 46 C dL_act_45 rfl rfl ?_
  refine V_iremN 47 C dL_act_46 rfl (by omega) (by omega) (by omega) ?_
  refine V_istore 49 C dL_act_47 rfl (by decide) (L' := [(0, _), (1, _), (2, _), (3, _), (4, _), (5, _), (6, _), (7, _)]) rfl ?_
  refine V_iload_n 50 C dL_act_49 rfl rfl ?_
  refine V_bipush 52 C dL_act_50 rfl bip6 ?_
  refine V_idivN 53 C dL_act_52 rfl (by omega) (by omega) (by omega) ?_
  refine V_iload 55 C dL_act_53 rfl rfl ?_
  refine V_iremN 56 C dL_act_55 rfl (by omega) (by omega) (by omega) ?_
  refine V_istore 58 C dL_act_56 rfl (by decide) (L' := [(0, _), (1, _), (2, _), (3, _), (4, _), (5, _), (6, _), (7, _), (8, _)]) rfl ?_
  refine V_iload_n 59 C dL_act_58 rfl rfl ?_
  refine V_bipush 61 C dL_act_59 rfl bip72 ?_
  refine V_idivN 62 C dL_act_61 rfl (by omega) (by omega) (by omega) ?_
  refine V_iload 64 C dL_act_62 rfl rfl ?_
  refine V_iremN 65 C dL_act_64 rfl (by omega) (by omega) (by omega) ?_
  refine V_istore 67 C dL_act_65 rfl (by decide) (L' := [(0, _), (1, _), (2, _), (3, _), (4, _), (5, _), (6, _), (7, _), (8, _), (9, _)]) rfl ?_
  refine V_iload_n 68 C dL_act_67 rfl rfl ?_
  refine V_bipush 70 C dL_act_68 rfl bip16 ?_
  refine V_iremN 71 C dL_act_70 rfl (by omega) (by omega) (by omega) ?_
  refine V_tsI 221 C dL_act_71 (j := 5) h16 (by decide) (by decide) (by decide) rfl (by decide) ?_
  refine V_aload_n 222 C dL_act_221 rfl rfl ?_
  refine V_bipush 224 C dL_act_222 rfl bip12 ?_
  refine V_iload 226 C dL_act_224 rfl rfl ?_
  refine V_iconst 227 C dL_act_226 rfl ic0 ?_
  refine V_iconst 228 C dL_act_227 rfl ic0 ?_
  refine V_q1 231 (20) (120) C hF dL_act_228 rfl mL_call.z tw250 (k_lay l G _ _ hl x σ hS hI _ _ _ _ hv9 _ hs9) rfl rfl ⟨Nat.le_of_ble_eq_true rfl, Nat.le_of_ble_eq_true rfl⟩ ⟨by omega, by omega⟩ ⟨by show _ ≤ 24; omega, by show _ ≤ 144; omega⟩ (Nat.le_of_ble_eq_true rfl) ?_
  clear hS hF n h
  intro n h hS hF
  refine V_ireturn C dL_act_231 rfl rfl (by omega) (by omega) ?_
  exact ⟨rfl, hS, hF⟩

set_option maxRecDepth 100000 in
set_option maxHeartbeats 4000000 in
theorem c_act_6a (l : Launch) (G : GT) (n0 : Nat) (h0 : AH) (hl : l.stackTraces = false) (x : Nat) (σ : St) (hS0 : SC x σ h0) (hI : SIs σ) (h3 : 3 ≤ σ.1 0 ∧ 1 ≤ σ.1 2 ∧ 1 ≤ σ.1 4) (hb5 : σ.1 5 < 2 ^ 31) (X : Nat) (hX : X < 2 ^ 31) (h16 : X % 16 = 6) (hc : σ.1 1 = 0)  : Ct l yL_act cL_act 10 (some .int) 11 24 144 G n0 h0 [.ref x, .int (nI X)] (PoS x h0 (nI 4294967295) σ) := by
  have hIv : Iv σ.1 := hI.1
  have i0 := hIv.1
  refine Ct_ofZ mL_act.z (Nat.le_of_ble_eq_true rfl) ?_
  intro p₀ e₀ s₀ m₀ as₀ bl₀ me₀ c₀ C
  refine V_Le (L' := [(0, .ref x), (1, .int (nI X))]) rfl ?_
  suffices H : ∀ (n : Nat) (h : AH) (hS : SC x σ h) (hF : FX x h0 h), V p₀ l e₀ (rmD 11 24 144) s₀ m₀ as₀ bl₀ me₀ c₀ (MQ bl₀ (Po G (PoS x h0 (nI 4294967295) σ)) as₀ s₀ 24 144 (rg G)) G 10 0 0 n h 0 [(0, .ref x), (1, .int (nI X))] [] from H n0 h0 hS0 FX.rf
  intro n h hS hF
  refine V_iload_n 1 C dL_act_0 rfl rfl ?_
  refine V_bipush 3 C dL_act_1 rfl bip16 ?_
  refine V_idivN 4 C dL_act_3 rfl (by omega) (by omega) (by omega) ?_
  refine V_istore_n 5 C dL_act_4 rfl (by decide) (L' := [(0, _), (1, _), (2, _)]) rfl ?_
  refine V_aload_n 6 C dL_act_5 rfl rfl ?_
  refine V_iconst 7 C dL_act_6 rfl ic2 ?_
  refine V_iconst 8 C dL_act_7 rfl ic0 ?_
  refine V_iconst 9 C dL_act_8 rfl ic0 ?_
  refine V_iconst 10 C dL_act_9 rfl ic0 ?_
  refine V_q1 13 (4) (24) C hF dL_act_10 rfl mL_call.z tw250 (k_about l G _ _ hl x σ hS hI _ _ _ _ (v_ab (j := 0) (w := σ.1 0) (by omega) rfl)) rfl rfl ⟨Nat.le_of_ble_eq_true rfl, Nat.le_of_ble_eq_true rfl⟩ ⟨by omega, by omega⟩ ⟨by show _ ≤ 24; omega, by show _ ≤ 144; omega⟩ (Nat.le_of_ble_eq_true rfl) ?_
  clear hS hF n h
  intro n h hS hF
  refine V_istore_n 14 C dL_act_13 rfl (by decide) (L' := [(0, _), (1, _), (2, _), (3, _)]) rfl ?_
  refine V_aload_n 15 C dL_act_14 rfl rfl ?_
  refine V_iconst 16 C dL_act_15 rfl ic2 ?_
  refine V_iconst 17 C dL_act_16 rfl ic1 ?_
  refine V_iconst 18 C dL_act_17 rfl ic0 ?_
  refine V_iconst 19 C dL_act_18 rfl ic0 ?_
  refine V_q1 22 (8) (48) C hF dL_act_19 rfl mL_call.z tw250 (k_about l G _ _ hl x σ hS hI _ _ _ _ (v_ab (j := 1) (w := σ.1 1) (by omega) rfl)) rfl rfl ⟨Nat.le_of_ble_eq_true rfl, Nat.le_of_ble_eq_true rfl⟩ ⟨by omega, by omega⟩ ⟨by show _ ≤ 24; omega, by show _ ≤ 144; omega⟩ (Nat.le_of_ble_eq_true rfl) ?_
  clear hS hF n h
  intro n h hS hF
  refine V_istore 24 C dL_act_22 rfl (by decide) (L' := [(0, _), (1, _), (2, _), (3, _), (4, _)]) rfl ?_
  refine V_aload_n 25 C dL_act_24 rfl rfl ?_
  refine V_iconst 26 C dL_act_25 rfl ic2 ?_
  refine V_iconst 27 C dL_act_26 rfl ic2 ?_
  refine V_iconst 28 C dL_act_27 rfl ic0 ?_
  refine V_iconst 29 C dL_act_28 rfl ic0 ?_
  refine V_q1 32 (12) (72) C hF dL_act_29 rfl mL_call.z tw250 (k_about l G _ _ hl x σ hS hI _ _ _ _ (v_ab (j := 2) (w := σ.1 2) (by omega) rfl)) rfl rfl ⟨Nat.le_of_ble_eq_true rfl, Nat.le_of_ble_eq_true rfl⟩ ⟨by omega, by omega⟩ ⟨by show _ ≤ 24; omega, by show _ ≤ 144; omega⟩ (Nat.le_of_ble_eq_true rfl) ?_
  clear hS hF n h
  intro n h hS hF
  refine V_istore 34 C dL_act_32 rfl (by decide) (L' := [(0, _), (1, _), (2, _), (3, _), (4, _), (5, _)]) rfl ?_
  refine V_aload_n 35 C dL_act_34 rfl rfl ?_
  refine V_iconst 36 C dL_act_35 rfl ic2 ?_
  refine V_iconst 37 C dL_act_36 rfl ic4 ?_
  refine V_iconst 38 C dL_act_37 rfl ic0 ?_
  refine V_iconst 39 C dL_act_38 rfl ic0 ?_
  refine V_q1 42 (16) (96) C hF dL_act_39 rfl mL_call.z tw250 (k_about l G _ _ hl x σ hS hI _ _ _ _ (v_ab (j := 4) (w := σ.1 4) (by omega) rfl)) rfl rfl ⟨Nat.le_of_ble_eq_true rfl, Nat.le_of_ble_eq_true rfl⟩ ⟨by omega, by omega⟩ ⟨by show _ ≤ 24; omega, by show _ ≤ 144; omega⟩ (Nat.le_of_ble_eq_true rfl) ?_
  clear hS hF n h
  intro n h hS hF
  refine V_istore 44 C dL_act_42 rfl (by decide) (L' := [(0, _), (1, _), (2, _), (3, _), (4, _), (5, _), (6, _)]) rfl ?_
  refine V_iload_n 45 C dL_act_44 rfl rfl ?_
  refine V_iload_n 46 C dL_act_45 rfl rfl ?_
  refine V_iremN 47 C dL_act_46 rfl (by omega) (by omega) (by omega) ?_
  refine V_istore 49 C dL_act_47 rfl (by decide) (L' := [(0, _), (1, _), (2, _), (3, _), (4, _), (5, _), (6, _), (7, _)]) rfl ?_
  refine V_iload_n 50 C dL_act_49 rfl rfl ?_
  refine V_bipush 52 C dL_act_50 rfl bip6 ?_
  refine V_idivN 53 C dL_act_52 rfl (by omega) (by omega) (by omega) ?_
  refine V_iload 55 C dL_act_53 rfl rfl ?_
  refine V_iremN 56 C dL_act_55 rfl (by omega) (by omega) (by omega) ?_
  refine V_istore 58 C dL_act_56 rfl (by decide) (L' := [(0, _), (1, _), (2, _), (3, _), (4, _), (5, _), (6, _), (7, _), (8, _)]) rfl ?_
  refine V_iload_n 59 C dL_act_58 rfl rfl ?_
  refine V_bipush 61 C dL_act_59 rfl bip72 ?_
  refine V_idivN 62 C dL_act_61 rfl (by omega) (by omega) (by omega) ?_
  refine V_iload 64 C dL_act_62 rfl rfl ?_
  refine V_iremN 65 C dL_act_64 rfl (by omega) (by omega) (by omega) ?_
  refine V_istore 67 C dL_act_65 rfl (by decide) (L' := [(0, _), (1, _), (2, _), (3, _), (4, _), (5, _), (6, _), (7, _), (8, _), (9, _)]) rfl ?_
  refine V_iload_n 68 C dL_act_67 rfl rfl ?_
  refine V_bipush 70 C dL_act_68 rfl bip16 ?_
  refine V_iremN 71 C dL_act_70 rfl (by omega) (by omega) (by omega) ?_
  refine V_tsI 232 C dL_act_71 (j := 6) h16 (by decide) (by decide) (by decide) rfl (by decide) ?_
  refine V_iload 234 C dL_act_232 rfl rfl ?_
  refine V_if_neN 241 237 C dL_act_234 (by decide) rfl (by omega) (fun c234 => by omega) (fun c234 => ?_)
  refine V_iconst 238 C dL_act_237 rfl icm1 ?_
  refine V_goto 254 C dL_act_238 (by decide) ?_
  refine V_ireturn C dL_act_254 rfl rfl (by omega) (by omega) ?_
  exact ⟨rfl, hS, hF⟩

set_option maxRecDepth 100000 in
set_option maxHeartbeats 4000000 in
theorem c_act_6b (l : Launch) (G : GT) (n0 : Nat) (h0 : AH) (hl : l.stackTraces = false) (x : Nat) (σ : St) (hS0 : SC x σ h0) (hI : SIs σ) (h3 : 3 ≤ σ.1 0 ∧ 1 ≤ σ.1 2 ∧ 1 ≤ σ.1 4) (hb5 : σ.1 5 < 2 ^ 31) (X : Nat) (hX : X < 2 ^ 31) (h16 : X % 16 = 6) (hc : ¬ σ.1 1 = 0) (v9 : Int32) (hv9 : rv (kA 1 1 2 (aGo σ.1 (nI (X / 16 / 72 % σ.1 2)) (nI (X / 16 % σ.1 1))).1) ((aGo σ.1 (nI (X / 16 / 72 % σ.1 2)) (nI (X / 16 % σ.1 1))).1) [eI, eS] = v9) (σ9 : St) (hs9 : ((aGo σ.1 (nI (X / 16 / 72 % σ.1 2)) (nI (X / 16 % σ.1 1))).2, (aK (kA 1 1 2 (aGo σ.1 (nI (X / 16 / 72 % σ.1 2)) (nI (X / 16 % σ.1 1))).1) σ.2.1), (aD (kA 1 1 2 (aGo σ.1 (nI (X / 16 / 72 % σ.1 2)) (nI (X / 16 % σ.1 1))).1) σ.2.1 σ.2.2.1 σ.1), σ.2.2.2.1, σ.2.2.2.2) = σ9) : Ct l yL_act cL_act 10 (some .int) 11 24 144 G n0 h0 [.ref x, .int (nI X)] (PoS x h0 v9 σ9) := by
  have hIv : Iv σ.1 := hI.1
  have i0 := hIv.1
  refine Ct_ofZ mL_act.z (Nat.le_of_ble_eq_true rfl) ?_
  intro p₀ e₀ s₀ m₀ as₀ bl₀ me₀ c₀ C
  refine V_Le (L' := [(0, .ref x), (1, .int (nI X))]) rfl ?_
  suffices H : ∀ (n : Nat) (h : AH) (hS : SC x σ h) (hF : FX x h0 h), V p₀ l e₀ (rmD 11 24 144) s₀ m₀ as₀ bl₀ me₀ c₀ (MQ bl₀ (Po G (PoS x h0 v9 σ9)) as₀ s₀ 24 144 (rg G)) G 10 0 0 n h 0 [(0, .ref x), (1, .int (nI X))] [] from H n0 h0 hS0 FX.rf
  intro n h hS hF
  refine V_iload_n 1 C dL_act_0 rfl rfl ?_
  refine V_bipush 3 C dL_act_1 rfl bip16 ?_
  refine V_idivN 4 C dL_act_3 rfl (by omega) (by omega) (by omega) ?_
  refine V_istore_n 5 C dL_act_4 rfl (by decide) (L' := [(0, _), (1, _), (2, _)]) rfl ?_
  refine V_aload_n 6 C dL_act_5 rfl rfl ?_
  refine V_iconst 7 C dL_act_6 rfl ic2 ?_
  refine V_iconst 8 C dL_act_7 rfl ic0 ?_
  refine V_iconst 9 C dL_act_8 rfl ic0 ?_
  refine V_iconst 10 C dL_act_9 rfl ic0 ?_
  refine V_q1 13 (4) (24) C hF dL_act_10 rfl mL_call.z tw250 (k_about l G _ _ hl x σ hS hI _ _ _ _ (v_ab (j := 0) (w := σ.1 0) (by omega) rfl)) rfl rfl ⟨Nat.le_of_ble_eq_true rfl, Nat.le_of_ble_eq_true rfl⟩ ⟨by omega, by omega⟩ ⟨by show _ ≤ 24; omega, by show _ ≤ 144; omega⟩ (Nat.le_of_ble_eq_true rfl) ?_
  clear hS hF n h
  intro n h hS hF
  refine V_istore_n 14 C dL_act_13 rfl (by decide) (L' := [(0, _), (1, _), (2, _), (3, _)]) rfl ?_
  refine V_aload_n 15 C dL_act_14 rfl rfl ?_
  refine V_iconst 16 C dL_act_15 rfl ic2 ?_
  refine V_iconst 17 C dL_act_16 rfl ic1 ?_
  refine V_iconst 18 C dL_act_17 rfl ic0 ?_
  refine V_iconst 19 C dL_act_18 rfl ic0 ?_
  refine V_q1 22 (8) (48) C hF dL_act_19 rfl mL_call.z tw250 (k_about l G _ _ hl x σ hS hI _ _ _ _ (v_ab (j := 1) (w := σ.1 1) (by omega) rfl)) rfl rfl ⟨Nat.le_of_ble_eq_true rfl, Nat.le_of_ble_eq_true rfl⟩ ⟨by omega, by omega⟩ ⟨by show _ ≤ 24; omega, by show _ ≤ 144; omega⟩ (Nat.le_of_ble_eq_true rfl) ?_
  clear hS hF n h
  intro n h hS hF
  refine V_istore 24 C dL_act_22 rfl (by decide) (L' := [(0, _), (1, _), (2, _), (3, _), (4, _)]) rfl ?_
  refine V_aload_n 25 C dL_act_24 rfl rfl ?_
  refine V_iconst 26 C dL_act_25 rfl ic2 ?_
  refine V_iconst 27 C dL_act_26 rfl ic2 ?_
  refine V_iconst 28 C dL_act_27 rfl ic0 ?_
  refine V_iconst 29 C dL_act_28 rfl ic0 ?_
  refine V_q1 32 (12) (72) C hF dL_act_29 rfl mL_call.z tw250 (k_about l G _ _ hl x σ hS hI _ _ _ _ (v_ab (j := 2) (w := σ.1 2) (by omega) rfl)) rfl rfl ⟨Nat.le_of_ble_eq_true rfl, Nat.le_of_ble_eq_true rfl⟩ ⟨by omega, by omega⟩ ⟨by show _ ≤ 24; omega, by show _ ≤ 144; omega⟩ (Nat.le_of_ble_eq_true rfl) ?_
  clear hS hF n h
  intro n h hS hF
  refine V_istore 34 C dL_act_32 rfl (by decide) (L' := [(0, _), (1, _), (2, _), (3, _), (4, _), (5, _)]) rfl ?_
  refine V_aload_n 35 C dL_act_34 rfl rfl ?_
  refine V_iconst 36 C dL_act_35 rfl ic2 ?_
  refine V_iconst 37 C dL_act_36 rfl ic4 ?_
  refine V_iconst 38 C dL_act_37 rfl ic0 ?_
  refine V_iconst 39 C dL_act_38 rfl ic0 ?_
  refine V_q1 42 (16) (96) C hF dL_act_39 rfl mL_call.z tw250 (k_about l G _ _ hl x σ hS hI _ _ _ _ (v_ab (j := 4) (w := σ.1 4) (by omega) rfl)) rfl rfl ⟨Nat.le_of_ble_eq_true rfl, Nat.le_of_ble_eq_true rfl⟩ ⟨by omega, by omega⟩ ⟨by show _ ≤ 24; omega, by show _ ≤ 144; omega⟩ (Nat.le_of_ble_eq_true rfl) ?_
  clear hS hF n h
  intro n h hS hF
  refine V_istore 44 C dL_act_42 rfl (by decide) (L' := [(0, _), (1, _), (2, _), (3, _), (4, _), (5, _), (6, _)]) rfl ?_
  refine V_iload_n 45 C dL_act_44 rfl rfl ?_
  refine V_iload_n 46 C dL_act_45 rfl rfl ?_
  refine V_iremN 47 C dL_act_46 rfl (by omega) (by omega) (by omega) ?_
  refine V_istore 49 C dL_act_47 rfl (by decide) (L' := [(0, _), (1, _), (2, _), (3, _), (4, _), (5, _), (6, _), (7, _)]) rfl ?_
  refine V_iload_n 50 C dL_act_49 rfl rfl ?_
  refine V_bipush 52 C dL_act_50 rfl bip6 ?_
  refine V_idivN 53 C dL_act_52 rfl (by omega) (by omega) (by omega) ?_
  refine V_iload 55 C dL_act_53 rfl rfl ?_
  refine V_iremN 56 C dL_act_55 rfl (by omega) (by omega) (by omega) ?_
  refine V_istore 58 C dL_act_56 rfl (by decide) (L' := [(0, _), (1, _), (2, _), (3, _), (4, _), (5, _), (6, _), (7, _), (8, _)]) rfl ?_
  refine V_iload_n 59 C dL_act_58 rfl rfl ?_
  refine V_bipush 61 C dL_act_59 rfl bip72 ?_
  refine V_idivN 62 C dL_act_61 rfl (by omega) (by omega) (by omega) ?_
  refine V_iload 64 C dL_act_62 rfl rfl ?_
  refine V_iremN 65 C dL_act_64 rfl (by omega) (by omega) (by omega) ?_
  refine V_istore 67 C dL_act_65 rfl (by decide) (L' := [(0, _), (1, _), (2, _), (3, _), (4, _), (5, _), (6, _), (7, _), (8, _), (9, _)]) rfl ?_
  refine V_iload_n 68 C dL_act_67 rfl rfl ?_
  refine V_bipush 70 C dL_act_68 rfl bip16 ?_
  refine V_iremN 71 C dL_act_70 rfl (by omega) (by omega) (by omega) ?_
  refine V_tsI 232 C dL_act_71 (j := 6) h16 (by decide) (by decide) (by decide) rfl (by decide) ?_
  refine V_iload 234 C dL_act_232 rfl rfl ?_
  refine V_if_neN 241 237 C dL_act_234 (by decide) rfl (by omega) (fun c234 => ?_) (fun c234 => by omega)
  refine V_aload_n 242 C dL_act_241 rfl rfl ?_
  refine V_bipush 244 C dL_act_242 rfl bip13 ?_
  refine V_iload 246 C dL_act_244 rfl rfl ?_
  refine V_iload_n 247 C dL_act_246 rfl rfl ?_
  refine V_iload 249 C dL_act_247 rfl rfl ?_
  refine V_iremN 250 C dL_act_249 rfl (by omega) (by omega) (by omega) ?_
  refine V_iconst 251 C dL_act_250 rfl ic0 ?_
  refine V_q1 254 (20) (120) C hF dL_act_251 rfl mL_call.z tw250 (k_go l G _ _ hl x σ hS hI _ _ _ _ hv9 _ hs9) rfl rfl ⟨Nat.le_of_ble_eq_true rfl, Nat.le_of_ble_eq_true rfl⟩ ⟨by omega, by omega⟩ ⟨by show _ ≤ 24; omega, by show _ ≤ 144; omega⟩ (Nat.le_of_ble_eq_true rfl) ?_
  clear hS hF n h
  intro n h hS hF
  refine V_ireturn C dL_act_254 rfl rfl (by omega) (by omega) ?_
  exact ⟨rfl, hS, hF⟩

set_option maxRecDepth 100000 in
set_option maxHeartbeats 4000000 in
theorem c_act_7a (l : Launch) (G : GT) (n0 : Nat) (h0 : AH) (hl : l.stackTraces = false) (x : Nat) (σ : St) (hS0 : SC x σ h0) (hI : SIs σ) (h3 : 3 ≤ σ.1 0 ∧ 1 ≤ σ.1 2 ∧ 1 ≤ σ.1 4) (hb5 : σ.1 5 < 2 ^ 31) (X : Nat) (hX : X < 2 ^ 31) (h16 : X % 16 = 7) (hc : σ.1 1 = 0)  : Ct l yL_act cL_act 10 (some .int) 11 24 144 G n0 h0 [.ref x, .int (nI X)] (PoS x h0 (nI 4294967295) σ) := by
  have hIv : Iv σ.1 := hI.1
  have i0 := hIv.1
  refine Ct_ofZ mL_act.z (Nat.le_of_ble_eq_true rfl) ?_
  intro p₀ e₀ s₀ m₀ as₀ bl₀ me₀ c₀ C
  refine V_Le (L' := [(0, .ref x), (1, .int (nI X))]) rfl ?_
  suffices H : ∀ (n : Nat) (h : AH) (hS : SC x σ h) (hF : FX x h0 h), V p₀ l e₀ (rmD 11 24 144) s₀ m₀ as₀ bl₀ me₀ c₀ (MQ bl₀ (Po G (PoS x h0 (nI 4294967295) σ)) as₀ s₀ 24 144 (rg G)) G 10 0 0 n h 0 [(0, .ref x), (1, .int (nI X))] [] from H n0 h0 hS0 FX.rf
  intro n h hS hF
  refine V_iload_n 1 C dL_act_0 rfl rfl ?_
  refine V_bipush 3 C dL_act_1 rfl bip16 ?_
  refine V_idivN 4 C dL_act_3 rfl (by omega) (by omega) (by omega) ?_
  refine V_istore_n 5 C dL_act_4 rfl (by decide) (L' := [(0, _), (1, _), (2, _)]) rfl ?_
  refine V_aload_n 6 C dL_act_5 rfl rfl ?_
  refine V_iconst 7 C dL_act_6 rfl ic2 ?_
  refine V_iconst 8 C dL_act_7 rfl ic0 ?_
  refine V_iconst 9 C dL_act_8 rfl ic0 ?_
  refine V_iconst 10 C dL_act_9 rfl ic0 ?_
  refine V_q1 13 (4) (24) C hF dL_act_10 rfl mL_call.z tw250 (k_about l G _ _ hl x σ hS hI _ _ _ _ (v_ab (j := 0) (w := σ.1 0) (by omega) rfl)) rfl rfl ⟨Nat.le_of_ble_eq_true rfl, Nat.le_of_ble_eq_true rfl⟩ ⟨by omega, by omega⟩ ⟨by show _ ≤ 24; omega, by show _ ≤ 144; omega⟩ (Nat.le_of_ble_eq_true rfl) ?_
  clear hS hF n h
  intro n h hS hF
  refine V_istore_n 14 C dL_act_13 rfl (by decide) (L' := [(0, _), (1, _), (2, _), (3, _)]) rfl ?_
  refine V_aload_n 15 C dL_act_14 rfl rfl ?_
  refine V_iconst 16 C dL_act_15 rfl ic2 ?_
  refine V_iconst 17 C dL_act_16 rfl ic1 ?_
  refine V_iconst 18 C dL_act_17 rfl ic0 ?_
  refine V_iconst 19 C dL_act_18 rfl ic0 ?_
  refine V_q1 22 (8) (48) C hF dL_act_19 rfl mL_call.z tw250 (k_about l G _ _ hl x σ hS hI _ _ _ _ (v_ab (j := 1) (w := σ.1 1) (by omega) rfl)) rfl rfl ⟨Nat.le_of_ble_eq_true rfl, Nat.le_of_ble_eq_true rfl⟩ ⟨by omega, by omega⟩ ⟨by show _ ≤ 24; omega, by show _ ≤ 144; omega⟩ (Nat.le_of_ble_eq_true rfl) ?_
  clear hS hF n h
  intro n h hS hF
  refine V_istore 24 C dL_act_22 rfl (by decide) (L' := [(0, _), (1, _), (2, _), (3, _), (4, _)]) rfl ?_
  refine V_aload_n 25 C dL_act_24 rfl rfl ?_
  refine V_iconst 26 C dL_act_25 rfl ic2 ?_
  refine V_iconst 27 C dL_act_26 rfl ic2 ?_
  refine V_iconst 28 C dL_act_27 rfl ic0 ?_
  refine V_iconst 29 C dL_act_28 rfl ic0 ?_
  refine V_q1 32 (12) (72) C hF dL_act_29 rfl mL_call.z tw250 (k_about l G _ _ hl x σ hS hI _ _ _ _ (v_ab (j := 2) (w := σ.1 2) (by omega) rfl)) rfl rfl ⟨Nat.le_of_ble_eq_true rfl, Nat.le_of_ble_eq_true rfl⟩ ⟨by omega, by omega⟩ ⟨by show _ ≤ 24; omega, by show _ ≤ 144; omega⟩ (Nat.le_of_ble_eq_true rfl) ?_
  clear hS hF n h
  intro n h hS hF
  refine V_istore 34 C dL_act_32 rfl (by decide) (L' := [(0, _), (1, _), (2, _), (3, _), (4, _), (5, _)]) rfl ?_
  refine V_aload_n 35 C dL_act_34 rfl rfl ?_
  refine V_iconst 36 C dL_act_35 rfl ic2 ?_
  refine V_iconst 37 C dL_act_36 rfl ic4 ?_
  refine V_iconst 38 C dL_act_37 rfl ic0 ?_
  refine V_iconst 39 C dL_act_38 rfl ic0 ?_
  refine V_q1 42 (16) (96) C hF dL_act_39 rfl mL_call.z tw250 (k_about l G _ _ hl x σ hS hI _ _ _ _ (v_ab (j := 4) (w := σ.1 4) (by omega) rfl)) rfl rfl ⟨Nat.le_of_ble_eq_true rfl, Nat.le_of_ble_eq_true rfl⟩ ⟨by omega, by omega⟩ ⟨by show _ ≤ 24; omega, by show _ ≤ 144; omega⟩ (Nat.le_of_ble_eq_true rfl) ?_
  clear hS hF n h
  intro n h hS hF
  refine V_istore 44 C dL_act_42 rfl (by decide) (L' := [(0, _), (1, _), (2, _), (3, _), (4, _), (5, _), (6, _)]) rfl ?_
  refine V_iload_n 45 C dL_act_44 rfl rfl ?_
  refine V_iload_n 46 C dL_act_45 rfl rfl ?_
  refine V_iremN 47 C dL_act_46 rfl (by omega) (by omega) (by omega) ?_
  refine V_istore 49 C dL_act_47 rfl (by decide) (L' := [(0, _), (1, _), (2, _), (3, _), (4, _), (5, _), (6, _), (7, _)]) rfl ?_
  refine V_iload_n 50 C dL_act_49 rfl rfl ?_
  refine V_bipush 52 C dL_act_50 rfl bip6 ?_
  refine V_idivN 53 C dL_act_52 rfl (by omega) (by omega) (by omega) ?_
  refine V_iload 55 C dL_act_53 rfl rfl ?_
  refine V_iremN 56 C dL_act_55 rfl (by omega) (by omega) (by omega) ?_
  refine V_istore 58 C dL_act_56 rfl (by decide) (L' := [(0, _), (1, _), (2, _), (3, _), (4, _), (5, _), (6, _), (7, _), (8, _)]) rfl ?_
  refine V_iload_n 59 C dL_act_58 rfl rfl ?_
  refine V_bipush 61 C dL_act_59 rfl bip72 ?_
  refine V_idivN 62 C dL_act_61 rfl (by omega) (by omega) (by omega) ?_
  refine V_iload 64 C dL_act_62 rfl rfl ?_
  refine V_iremN 65 C dL_act_64 rfl (by omega) (by omega) (by omega) ?_
  refine V_istore 67 C dL_act_65 rfl (by decide) (L' := [(0, _), (1, _), (2, _), (3, _), (4, _), (5, _), (6, _), (7, _), (8, _), (9, _)]) rfl ?_
  refine V_iload_n 68 C dL_act_67 rfl rfl ?_
  refine V_bipush 70 C dL_act_68 rfl bip16 ?_
  refine V_iremN 71 C dL_act_70 rfl (by omega) (by omega) (by omega) ?_
  refine V_tsI 232 C dL_act_71 (j := 7) h16 (by decide) (by decide) (by decide) rfl (by decide) ?_
  refine V_iload 234 C dL_act_232 rfl rfl ?_
  refine V_if_neN 241 237 C dL_act_234 (by decide) rfl (by omega) (fun c234 => by omega) (fun c234 => ?_)
  refine V_iconst 238 C dL_act_237 rfl icm1 ?_
  refine V_goto 254 C dL_act_238 (by decide) ?_
  refine V_ireturn C dL_act_254 rfl rfl (by omega) (by omega) ?_
  exact ⟨rfl, hS, hF⟩

set_option maxRecDepth 100000 in
set_option maxHeartbeats 4000000 in
theorem c_act_7b (l : Launch) (G : GT) (n0 : Nat) (h0 : AH) (hl : l.stackTraces = false) (x : Nat) (σ : St) (hS0 : SC x σ h0) (hI : SIs σ) (h3 : 3 ≤ σ.1 0 ∧ 1 ≤ σ.1 2 ∧ 1 ≤ σ.1 4) (hb5 : σ.1 5 < 2 ^ 31) (X : Nat) (hX : X < 2 ^ 31) (h16 : X % 16 = 7) (hc : ¬ σ.1 1 = 0) (v9 : Int32) (hv9 : rv (kA 1 1 2 (aGo σ.1 (nI (X / 16 / 72 % σ.1 2)) (nI (X / 16 % σ.1 1))).1) ((aGo σ.1 (nI (X / 16 / 72 % σ.1 2)) (nI (X / 16 % σ.1 1))).1) [eI, eS] = v9) (σ9 : St) (hs9 : ((aGo σ.1 (nI (X / 16 / 72 % σ.1 2)) (nI (X / 16 % σ.1 1))).2, (aK (kA 1 1 2 (aGo σ.1 (nI (X / 16 / 72 % σ.1 2)) (nI (X / 16 % σ.1 1))).1) σ.2.1), (aD (kA 1 1 2 (aGo σ.1 (nI (X / 16 / 72 % σ.1 2)) (nI (X / 16 % σ.1 1))).1) σ.2.1 σ.2.2.1 σ.1), σ.2.2.2.1, σ.2.2.2.2) = σ9) : Ct l yL_act cL_act 10 (some .int) 11 24 144 G n0 h0 [.ref x, .int (nI X)] (PoS x h0 v9 σ9) := by
  have hIv : Iv σ.1 := hI.1
  have i0 := hIv.1
  refine Ct_ofZ mL_act.z (Nat.le_of_ble_eq_true rfl) ?_
  intro p₀ e₀ s₀ m₀ as₀ bl₀ me₀ c₀ C
  refine V_Le (L' := [(0, .ref x), (1, .int (nI X))]) rfl ?_
  suffices H : ∀ (n : Nat) (h : AH) (hS : SC x σ h) (hF : FX x h0 h), V p₀ l e₀ (rmD 11 24 144) s₀ m₀ as₀ bl₀ me₀ c₀ (MQ bl₀ (Po G (PoS x h0 v9 σ9)) as₀ s₀ 24 144 (rg G)) G 10 0 0 n h 0 [(0, .ref x), (1, .int (nI X))] [] from H n0 h0 hS0 FX.rf
  intro n h hS hF
  refine V_iload_n 1 C dL_act_0 rfl rfl ?_
  refine V_bipush 3 C dL_act_1 rfl bip16 ?_
  refine V_idivN 4 C dL_act_3 rfl (by omega) (by omega) (by omega) ?_
  refine V_istore_n 5 C dL_act_4 rfl (by decide) (L' := [(0, _), (1, _), (2, _)]) rfl ?_
  refine V_aload_n 6 C dL_act_5 rfl rfl ?_
  refine V_iconst 7 C dL_act_6 rfl ic2 ?_
  refine V_iconst 8 C dL_act_7 rfl ic0 ?_
  refine V_iconst 9 C dL_act_8 rfl ic0 ?_
  refine V_iconst 10 C dL_act_9 rfl ic0 ?_
  refine V_q1 13 (4) (24) C hF dL_act_10 rfl mL_call.z tw250 (k_about l G _ _ hl x σ hS hI _ _ _ _ (v_ab (j := 0) (w := σ.1 0) (by omega) rfl)) rfl rfl ⟨Nat.le_of_ble_eq_true rfl, Nat.le_of_ble_eq_true rfl⟩ ⟨by omega, by omega⟩ ⟨by show _ ≤ 24; omega, by show _ ≤ 144; omega⟩ (Nat.le_of_ble_eq_true rfl) ?_
  clear hS hF n h
  intro n h hS hF
  refine V_istore_n 14 C dL_act_13 rfl (by decide) (L' := [(0, _), (1, _), (2, _), (3, _)]) rfl ?_
  refine V_aload_n 15 C dL_act_14 rfl rfl ?_
  refine V_iconst 16 C dL_act_15 rfl ic2 ?_
  refine V_iconst 17 C dL_act_16 rfl ic1 ?_
  refine V_iconst 18 C dL_act_17 rfl ic0 ?_
  refine V_iconst 19 C dL_act_18 rfl ic0 ?_
  refine V_q1 22 (8) (48) C hF dL_act_19 rfl mL_call.z tw250 (k_about l G _ _ hl x σ hS hI _ _ _ _ (v_ab (j := 1) (w := σ.1 1) (by omega) rfl)) rfl rfl ⟨Nat.le_of_ble_eq_true rfl, Nat.le_of_ble_eq_true rfl⟩ ⟨by omega, by omega⟩ ⟨by show _ ≤ 24; omega, by show _ ≤ 144; omega⟩ (Nat.le_of_ble_eq_true rfl) ?_
  clear hS hF n h
  intro n h hS hF
  refine V_istore 24 C dL_act_22 rfl (by decide) (L' := [(0, _), (1, _), (2, _), (3, _), (4, _)]) rfl ?_
  refine V_aload_n 25 C dL_act_24 rfl rfl ?_
  refine V_iconst 26 C dL_act_25 rfl ic2 ?_
  refine V_iconst 27 C dL_act_26 rfl ic2 ?_
  refine V_iconst 28 C dL_act_27 rfl ic0 ?_
  refine V_iconst 29 C dL_act_28 rfl ic0 ?_
  refine V_q1 32 (12) (72) C hF dL_act_29 rfl mL_call.z tw250 (k_about l G _ _ hl x σ hS hI _ _ _ _ (v_ab (j := 2) (w := σ.1 2) (by omega) rfl)) rfl rfl ⟨Nat.le_of_ble_eq_true rfl, Nat.le_of_ble_eq_true rfl⟩ ⟨by omega, by omega⟩ ⟨by show _ ≤ 24; omega, by show _ ≤ 144; omega⟩ (Nat.le_of_ble_eq_true rfl) ?_
  clear hS hF n h
  intro n h hS hF
  refine V_istore 34 C dL_act_32 rfl (by decide) (L' := [(0, _), (1, _), (2, _), (3, _), (4, _), (5, _)]) rfl ?_
  refine V_aload_n 35 C dL_act_34 rfl rfl ?_
  refine V_iconst 36 C dL_act_35 rfl ic2 ?_
  refine V_iconst 37 C dL_act_36 rfl ic4 ?_
  refine V_iconst 38 C dL_act_37 rfl ic0 ?_
  refine V_iconst 39 C dL_act_38 rfl ic0 ?_
  refine V_q1 42 (16) (96) C hF dL_act_39 rfl mL_call.z tw250 (k_about l G _ _ hl x σ hS hI _ _ _ _ (v_ab (j := 4) (w := σ.1 4) (by omega) rfl)) rfl rfl ⟨Nat.le_of_ble_eq_true rfl, Nat.le_of_ble_eq_true rfl⟩ ⟨by omega, by omega⟩ ⟨by show _ ≤ 24; omega, by show _ ≤ 144; omega⟩ (Nat.le_of_ble_eq_true rfl) ?_
  clear hS hF n h
  intro n h hS hF
  refine V_istore 44 C dL_act_42 rfl (by decide) (L' := [(0, _), (1, _), (2, _), (3, _), (4, _), (5, _), (6, _)]) rfl ?_
  refine V_iload_n 45 C dL_act_44 rfl rfl ?_
  refine V_iload_n 46 C dL_act_45 rfl rfl ?_
  refine V_iremN 47 C dL_act_46 rfl (by omega) (by omega) (by omega) ?_
  refine V_istore 49 C dL_act_47 rfl (by decide) (L' := [(0, _), (1, _), (2, _), (3, _), (4, _), (5, _), (6, _), (7, _)]) rfl ?_
  refine V_iload_n 50 C dL_act_49 rfl rfl ?_
  refine V_bipush 52 C dL_act_50 rfl bip6 ?_
  refine V_idivN 53 C dL_act_52 rfl (by omega) (by omega) (by omega) ?_
  refine V_iload 55 C dL_act_53 rfl rfl ?_
  refine V_iremN 56 C dL_act_55 rfl (by omega) (by omega) (by omega) ?_
  refine V_istore 58 C dL_act_56 rfl (by decide) (L' := [(0, _), (1, _), (2, _), (3, _), (4, _), (5, _), (6, _), (7, _), (8, _)]) rfl ?_
  refine V_iload_n 59 C dL_act_58 rfl rfl ?_
  refine V_bipush 61 C dL_act_59 rfl bip72 ?_
  refine V_idivN 62 C dL_act_61 rfl (by omega) (by omega) (by omega) ?_
  refine V_iload 64 C dL_act_62 rfl rfl ?_
  refine V_iremN 65 C dL_act_64 rfl (by omega) (by omega) (by omega) ?_
  refine V_istore 67 C dL_act_65 rfl (by decide) (L' := [(0, _), (1, _), (2, _), (3, _), (4, _), (5, _), (6, _), (7, _), (8, _), (9, _)]) rfl ?_
  refine V_iload_n 68 C dL_act_67 rfl rfl ?_
  refine V_bipush 70 C dL_act_68 rfl bip16 ?_
  refine V_iremN 71 C dL_act_70 rfl (by omega) (by omega) (by omega) ?_
  refine V_tsI 232 C dL_act_71 (j := 7) h16 (by decide) (by decide) (by decide) rfl (by decide) ?_
  refine V_iload 234 C dL_act_232 rfl rfl ?_
  refine V_if_neN 241 237 C dL_act_234 (by decide) rfl (by omega) (fun c234 => ?_) (fun c234 => by omega)
  refine V_aload_n 242 C dL_act_241 rfl rfl ?_
  refine V_bipush 244 C dL_act_242 rfl bip13 ?_
  refine V_iload 246 C dL_act_244 rfl rfl ?_
  refine V_iload_n 247 C dL_act_246 rfl rfl ?_
  refine V_iload 249 C dL_act_247 rfl rfl ?_
  refine V_iremN 250 C dL_act_249 rfl (by omega) (by omega) (by omega) ?_
  refine V_iconst 251 C dL_act_250 rfl ic0 ?_
  refine V_q1 254 (20) (120) C hF dL_act_251 rfl mL_call.z tw250 (k_go l G _ _ hl x σ hS hI _ _ _ _ hv9 _ hs9) rfl rfl ⟨Nat.le_of_ble_eq_true rfl, Nat.le_of_ble_eq_true rfl⟩ ⟨by omega, by omega⟩ ⟨by show _ ≤ 24; omega, by show _ ≤ 144; omega⟩ (Nat.le_of_ble_eq_true rfl) ?_
  clear hS hF n h
  intro n h hS hF
  refine V_ireturn C dL_act_254 rfl rfl (by omega) (by omega) ?_
  exact ⟨rfl, hS, hF⟩

set_option maxRecDepth 100000 in
set_option maxHeartbeats 4000000 in
theorem c_act_8 (l : Launch) (G : GT) (n0 : Nat) (h0 : AH) (hl : l.stackTraces = false) (x : Nat) (σ : St) (hS0 : SC x σ h0) (hI : SIs σ) (h3 : 3 ≤ σ.1 0 ∧ 1 ≤ σ.1 2 ∧ 1 ≤ σ.1 4) (hb5 : σ.1 5 < 2 ^ 31) (X : Nat) (hX : X < 2 ^ 31) (h16 : X % 16 = 8) (v9 : Int32) (hv9 : rv (kA 1 2 1 (aCp σ.1 (nI (X / 16 / 6 % σ.1 4)) (nI (X / 16 % 10))).1) ((aCp σ.1 (nI (X / 16 / 6 % σ.1 4)) (nI (X / 16 % 10))).1) [eI, eA] = v9) (σ9 : St) (hs9 : ((cnt (aCp σ.1 (nI (X / 16 / 6 % σ.1 4)) (nI (X / 16 % 10)))), (aK (kA 1 2 1 (aCp σ.1 (nI (X / 16 / 6 % σ.1 4)) (nI (X / 16 % 10))).1) σ.2.1), (aD (kA 1 2 1 (aCp σ.1 (nI (X / 16 / 6 % σ.1 4)) (nI (X / 16 % 10))).1) σ.2.1 σ.2.2.1 σ.1), σ.2.2.2.1, σ.2.2.2.2) = σ9) : Ct l yL_act cL_act 10 (some .int) 11 24 144 G n0 h0 [.ref x, .int (nI X)] (PoS x h0 v9 σ9) := by
  have hIv : Iv σ.1 := hI.1
  have i0 := hIv.1
  refine Ct_ofZ mL_act.z (Nat.le_of_ble_eq_true rfl) ?_
  intro p₀ e₀ s₀ m₀ as₀ bl₀ me₀ c₀ C
  refine V_Le (L' := [(0, .ref x), (1, .int (nI X))]) rfl ?_
  suffices H : ∀ (n : Nat) (h : AH) (hS : SC x σ h) (hF : FX x h0 h), V p₀ l e₀ (rmD 11 24 144) s₀ m₀ as₀ bl₀ me₀ c₀ (MQ bl₀ (Po G (PoS x h0 v9 σ9)) as₀ s₀ 24 144 (rg G)) G 10 0 0 n h 0 [(0, .ref x), (1, .int (nI X))] [] from H n0 h0 hS0 FX.rf
  intro n h hS hF
  refine V_iload_n 1 C dL_act_0 rfl rfl ?_
  refine V_bipush 3 C dL_act_1 rfl bip16 ?_
  refine V_idivN 4 C dL_act_3 rfl (by omega) (by omega) (by omega) ?_
  refine V_istore_n 5 C dL_act_4 rfl (by decide) (L' := [(0, _), (1, _), (2, _)]) rfl ?_
  refine V_aload_n 6 C dL_act_5 rfl rfl ?_
  refine V_iconst 7 C dL_act_6 rfl ic2 ?_
  refine V_iconst 8 C dL_act_7 rfl ic0 ?_
  refine V_iconst 9 C dL_act_8 rfl ic0 ?_
  refine V_iconst 10 C dL_act_9 rfl ic0 ?_
  refine V_q1 13 (4) (24) C hF dL_act_10 rfl mL_call.z tw250 (k_about l G _ _ hl x σ hS hI _ _ _ _ (v_ab (j := 0) (w := σ.1 0) (by omega) rfl)) rfl rfl ⟨Nat.le_of_ble_eq_true rfl, Nat.le_of_ble_eq_true rfl⟩ ⟨by omega, by omega⟩ ⟨by show _ ≤ 24; omega, by show _ ≤ 144; omega⟩ (Nat.le_of_ble_eq_true rfl) ?_
  clear hS hF n h
  intro n h hS hF
  refine V_istore_n 14 C dL_act_13 rfl (by decide) (L' := [(0, _), (1, _), (2, _), (3, _)]) rfl ?_
  refine V_aload_n 15 C dL_act_14 rfl rfl ?_
  refine V_iconst 16 C dL_act_15 rfl ic2 ?_
  refine V_iconst 17 C dL_act_16 rfl ic1 ?_
  refine V_iconst 18 C dL_act_17 rfl ic0 ?_
  refine V_iconst 19 C dL_act_18 rfl ic0 ?_
  refine V_q1 22 (8) (48) C hF dL_act_19 rfl mL_call.z tw250 (k_about l G _ _ hl x σ hS hI _ _ _ _ (v_ab (j := 1) (w := σ.1 1) (by omega) rfl)) rfl rfl ⟨Nat.le_of_ble_eq_true rfl, Nat.le_of_ble_eq_true rfl⟩ ⟨by omega, by omega⟩ ⟨by show _ ≤ 24; omega, by show _ ≤ 144; omega⟩ (Nat.le_of_ble_eq_true rfl) ?_
  clear hS hF n h
  intro n h hS hF
  refine V_istore 24 C dL_act_22 rfl (by decide) (L' := [(0, _), (1, _), (2, _), (3, _), (4, _)]) rfl ?_
  refine V_aload_n 25 C dL_act_24 rfl rfl ?_
  refine V_iconst 26 C dL_act_25 rfl ic2 ?_
  refine V_iconst 27 C dL_act_26 rfl ic2 ?_
  refine V_iconst 28 C dL_act_27 rfl ic0 ?_
  refine V_iconst 29 C dL_act_28 rfl ic0 ?_
  refine V_q1 32 (12) (72) C hF dL_act_29 rfl mL_call.z tw250 (k_about l G _ _ hl x σ hS hI _ _ _ _ (v_ab (j := 2) (w := σ.1 2) (by omega) rfl)) rfl rfl ⟨Nat.le_of_ble_eq_true rfl, Nat.le_of_ble_eq_true rfl⟩ ⟨by omega, by omega⟩ ⟨by show _ ≤ 24; omega, by show _ ≤ 144; omega⟩ (Nat.le_of_ble_eq_true rfl) ?_
  clear hS hF n h
  intro n h hS hF
  refine V_istore 34 C dL_act_32 rfl (by decide) (L' := [(0, _), (1, _), (2, _), (3, _), (4, _), (5, _)]) rfl ?_
  refine V_aload_n 35 C dL_act_34 rfl rfl ?_
  refine V_iconst 36 C dL_act_35 rfl ic2 ?_
  refine V_iconst 37 C dL_act_36 rfl ic4 ?_
  refine V_iconst 38 C dL_act_37 rfl ic0 ?_
  refine V_iconst 39 C dL_act_38 rfl ic0 ?_
  refine V_q1 42 (16) (96) C hF dL_act_39 rfl mL_call.z tw250 (k_about l G _ _ hl x σ hS hI _ _ _ _ (v_ab (j := 4) (w := σ.1 4) (by omega) rfl)) rfl rfl ⟨Nat.le_of_ble_eq_true rfl, Nat.le_of_ble_eq_true rfl⟩ ⟨by omega, by omega⟩ ⟨by show _ ≤ 24; omega, by show _ ≤ 144; omega⟩ (Nat.le_of_ble_eq_true rfl) ?_
  clear hS hF n h
  intro n h hS hF
  refine V_istore 44 C dL_act_42 rfl (by decide) (L' := [(0, _), (1, _), (2, _), (3, _), (4, _), (5, _), (6, _)]) rfl ?_
  refine V_iload_n 45 C dL_act_44 rfl rfl ?_
  refine V_iload_n 46 C dL_act_45 rfl rfl ?_
  refine V_iremN 47 C dL_act_46 rfl (by omega) (by omega) (by omega) ?_
  refine V_istore 49 C dL_act_47 rfl (by decide) (L' := [(0, _), (1, _), (2, _), (3, _), (4, _), (5, _), (6, _), (7, _)]) rfl ?_
  refine V_iload_n 50 C dL_act_49 rfl rfl ?_
  refine V_bipush 52 C dL_act_50 rfl bip6 ?_
  refine V_idivN 53 C dL_act_52 rfl (by omega) (by omega) (by omega) ?_
  refine V_iload 55 C dL_act_53 rfl rfl ?_
  refine V_iremN 56 C dL_act_55 rfl (by omega) (by omega) (by omega) ?_
  refine V_istore 58 C dL_act_56 rfl (by decide) (L' := [(0, _), (1, _), (2, _), (3, _), (4, _), (5, _), (6, _), (7, _), (8, _)]) rfl ?_
  refine V_iload_n 59 C dL_act_58 rfl rfl ?_
  refine V_bipush 61 C dL_act_59 rfl bip72 ?_
  refine V_idivN 62 C dL_act_61 rfl (by omega) (by omega) (by omega) ?_
  refine V_iload 64 C dL_act_62 rfl rfl ?_
  refine V_iremN 65 C dL_act_64 rfl (by omega) (by omega) (by omega) ?_
  refine V_istore 67 C dL_act_65 rfl (by decide) (L' := [(0, _), (1, _), (2, _), (3, _), (4, _), (5, _), (6, _), (7, _), (8, _), (9, _)]) rfl ?_
  refine V_iload_n 68 C dL_act_67 rfl rfl ?_
  refine V_bipush 70 C dL_act_68 rfl bip16 ?_
  refine V_iremN 71 C dL_act_70 rfl (by omega) (by omega) (by omega) ?_
  refine V_tsI 255 C dL_act_71 (j := 8) h16 (by decide) (by decide) (by decide) rfl (by decide) ?_
  refine V_aload_n 256 C dL_act_255 rfl rfl ?_
  refine V_bipush 258 C dL_act_256 rfl bip14 ?_
  refine V_iload 260 C dL_act_258 rfl rfl ?_
  refine V_iload_n 261 C dL_act_260 rfl rfl ?_
  refine V_bipush 263 C dL_act_261 rfl bip10 ?_
  refine V_iremN 264 C dL_act_263 rfl (by omega) (by omega) (by omega) ?_
  refine V_iconst 265 C dL_act_264 rfl ic0 ?_
  refine V_q1 268 (20) (120) C hF dL_act_265 rfl mL_call.z tw250 (k_copy l G _ _ hl x σ hS hI _ _ _ _ hv9 _ hs9) rfl rfl ⟨Nat.le_of_ble_eq_true rfl, Nat.le_of_ble_eq_true rfl⟩ ⟨by omega, by omega⟩ ⟨by show _ ≤ 24; omega, by show _ ≤ 144; omega⟩ (Nat.le_of_ble_eq_true rfl) ?_
  clear hS hF n h
  intro n h hS hF
  refine V_ireturn C dL_act_268 rfl rfl (by omega) (by omega) ?_
  exact ⟨rfl, hS, hF⟩

set_option maxRecDepth 100000 in
set_option maxHeartbeats 4000000 in
theorem c_act_9 (l : Launch) (G : GT) (n0 : Nat) (h0 : AH) (hl : l.stackTraces = false) (x : Nat) (σ : St) (hS0 : SC x σ h0) (hI : SIs σ) (h3 : 3 ≤ σ.1 0 ∧ 1 ≤ σ.1 2 ∧ 1 ≤ σ.1 4) (hb5 : σ.1 5 < 2 ^ 31) (X : Nat) (hX : X < 2 ^ 31) (h16 : X % 16 = 9) (v9 : Int32) (hv9 : rv (kA 1 2 1 (aCp σ.1 (nI (X / 16 / 6 % σ.1 4)) (nI (X / 16 % 10))).1) ((aCp σ.1 (nI (X / 16 / 6 % σ.1 4)) (nI (X / 16 % 10))).1) [eI, eA] = v9) (σ9 : St) (hs9 : ((cnt (aCp σ.1 (nI (X / 16 / 6 % σ.1 4)) (nI (X / 16 % 10)))), (aK (kA 1 2 1 (aCp σ.1 (nI (X / 16 / 6 % σ.1 4)) (nI (X / 16 % 10))).1) σ.2.1), (aD (kA 1 2 1 (aCp σ.1 (nI (X / 16 / 6 % σ.1 4)) (nI (X / 16 % 10))).1) σ.2.1 σ.2.2.1 σ.1), σ.2.2.2.1, σ.2.2.2.2) = σ9) : Ct l yL_act cL_act 10 (some .int) 11 24 144 G n0 h0 [.ref x, .int (nI X)] (PoS x h0 v9 σ9) := by
  have hIv : Iv σ.1 := hI.1
  have i0 := hIv.1
  refine Ct_ofZ mL_act.z (Nat.le_of_ble_eq_true rfl) ?_
  intro p₀ e₀ s₀ m₀ as₀ bl₀ me₀ c₀ C
  refine V_Le (L' := [(0, .ref x), (1, .int (nI X))]) rfl ?_
  suffices H : ∀ (n : Nat) (h : AH) (hS : SC x σ h) (hF : FX x h0 h), V p₀ l e₀ (rmD 11 24 144) s₀ m₀ as₀ bl₀ me₀ c₀ (MQ bl₀ (Po G (PoS x h0 v9 σ9)) as₀ s₀ 24 144 (rg G)) G 10 0 0 n h 0 [(0, .ref x), (1, .int (nI X))] [] from H n0 h0 hS0 FX.rf
  intro n h hS hF
  refine V_iload_n 1 C dL_act_0 rfl rfl ?_
  refine V_bipush 3 C dL_act_1 rfl bip16 ?_
  refine V_idivN 4 C dL_act_3 rfl (by omega) (by omega) (by omega) ?_
  refine V_istore_n 5 C dL_act_4 rfl (by decide) (L' := [(0, _), (1, _), (2, _)]) rfl ?_
  refine V_aload_n 6 C dL_act_5 rfl rfl ?_
  refine V_iconst 7 C dL_act_6 rfl ic2 ?_
  refine V_iconst 8 C dL_act_7 rfl ic0 ?_
  refine V_iconst 9 C dL_act_8 rfl ic0 ?_
  refine V_iconst 10 C dL_act_9 rfl ic0 ?_
  refine V_q1 13 (4) (24) C hF dL_act_10 rfl mL_call.z tw250 (k_about l G _ _ hl x σ hS hI _ _ _ _ (v_ab (j := 0) (w := σ.1 0) (by omega) rfl)) rfl rfl ⟨Nat.le_of_ble_eq_true rfl, Nat.le_of_ble_eq_true rfl⟩ ⟨by omega, by omega⟩ ⟨by show _ ≤ 24; omega, by show _ ≤ 144; omega⟩ (Nat.le_of_ble_eq_true rfl) ?_
  clear hS hF n h
  intro n h hS hF
  refine V_istore_n 14 C dL_act_13 rfl (by decide) (L' := [(0, _), (1, _), (2, _), (3, _)]) rfl ?_
  refine V_aload_n 15 C dL_act_14 rfl rfl ?_
  refine V_iconst 16 C dL_act_15 rfl ic2 ?_
  refine V_iconst 17 C dL_act_16 rfl ic1 ?_
  refine V_iconst 18 C dL_act_17 rfl ic0 ?_
  refine V_iconst 19 C dL_act_18 rfl ic0 ?_
  refine V_q1 22 (8) (48) C hF dL_act_19 rfl mL_call.z tw250 (k_about l G _ _ hl x σ hS hI _ _ _ _ (v_ab (j := 1) (w := σ.1 1) (by omega) rfl)) rfl rfl ⟨Nat.le_of_ble_eq_true rfl, Nat.le_of_ble_eq_true rfl⟩ ⟨by omega, by omega⟩ ⟨by show _ ≤ 24; omega, by show _ ≤ 144; omega⟩ (Nat.le_of_ble_eq_true rfl) ?_
  clear hS hF n h
  intro n h hS hF
  refine V_istore 24 C dL_act_22 rfl (by decide) (L' := [(0, _), (1, _), (2, _), (3, _), (4, _)]) rfl ?_
  refine V_aload_n 25 C dL_act_24 rfl rfl ?_
  refine V_iconst 26 C dL_act_25 rfl ic2 ?_
  refine V_iconst 27 C dL_act_26 rfl ic2 ?_
  refine V_iconst 28 C dL_act_27 rfl ic0 ?_
  refine V_iconst 29 C dL_act_28 rfl ic0 ?_
  refine V_q1 32 (12) (72) C hF dL_act_29 rfl mL_call.z tw250 (k_about l G _ _ hl x σ hS hI _ _ _ _ (v_ab (j := 2) (w := σ.1 2) (by omega) rfl)) rfl rfl ⟨Nat.le_of_ble_eq_true rfl, Nat.le_of_ble_eq_true rfl⟩ ⟨by omega, by omega⟩ ⟨by show _ ≤ 24; omega, by show _ ≤ 144; omega⟩ (Nat.le_of_ble_eq_true rfl) ?_
  clear hS hF n h
  intro n h hS hF
  refine V_istore 34 C dL_act_32 rfl (by decide) (L' := [(0, _), (1, _), (2, _), (3, _), (4, _), (5, _)]) rfl ?_
  refine V_aload_n 35 C dL_act_34 rfl rfl ?_
  refine V_iconst 36 C dL_act_35 rfl ic2 ?_
  refine V_iconst 37 C dL_act_36 rfl ic4 ?_
  refine V_iconst 38 C dL_act_37 rfl ic0 ?_
  refine V_iconst 39 C dL_act_38 rfl ic0 ?_
  refine V_q1 42 (16) (96) C hF dL_act_39 rfl mL_call.z tw250 (k_about l G _ _ hl x σ hS hI _ _ _ _ (v_ab (j := 4) (w := σ.1 4) (by omega) rfl)) rfl rfl ⟨Nat.le_of_ble_eq_true rfl, Nat.le_of_ble_eq_true rfl⟩ ⟨by omega, by omega⟩ ⟨by show _ ≤ 24; omega, by show _ ≤ 144; omega⟩ (Nat.le_of_ble_eq_true rfl) ?_
  clear hS hF n h
  intro n h hS hF
  refine V_istore 44 C dL_act_42 rfl (by decide) (L' := [(0, _), (1, _), (2, _), (3, _), (4, _), (5, _), (6, _)]) rfl ?_
  refine V_iload_n 45 C dL_act_44 rfl rfl ?_
  refine V_iload_n 46 C dL_act_45 rfl rfl ?_
  refine V_iremN 47 C dL_act_46 rfl (by omega) (by omega) (by omega) ?_
  refine V_istore 49 C dL_act_47 rfl (by decide) (L' := [(0, _), (1, _), (2, _), (3, _), (4, _), (5, _), (6, _), (7, _)]) rfl ?_
  refine V_iload_n 50 C dL_act_49 rfl rfl ?_
  refine V_bipush 52 C dL_act_50 rfl bip6 ?_
  refine V_idivN 53 C dL_act_52 rfl (by omega) (by omega) (by omega) ?_
  refine V_iload 55 C dL_act_53 rfl rfl ?_
  refine V_iremN 56 C dL_act_55 rfl (by omega) (by omega) (by omega) ?_
  refine V_istore 58 C dL_act_56 rfl (by decide) (L' := [(0, _), (1, _), (2, _), (3, _), (4, _), (5, _), (6, _), (7, _), (8, _)]) rfl ?_
  refine V_iload_n 59 C dL_act_58 rfl rfl ?_
  refine V_bipush 61 C dL_act_59 rfl bip72 ?_
  refine V_idivN 62 C dL_act_61 rfl (by omega) (by omega) (by omega) ?_
  refine V_iload 64 C dL_act_62 rfl rfl ?_
  refine V_iremN 65 C dL_act_64 rfl (by omega) (by omega) (by omega) ?_
  refine V_istore 67 C dL_act_65 rfl (by decide) (L' := [(0, _), (1, _), (2, _), (3, _), (4, _), (5, _), (6, _), (7, _), (8, _), (9, _)]) rfl ?_
  refine V_iload_n 68 C dL_act_67 rfl rfl ?_
  refine V_bipush 70 C dL_act_68 rfl bip16 ?_
  refine V_iremN 71 C dL_act_70 rfl (by omega) (by omega) (by omega) ?_
  refine V_tsI 255 C dL_act_71 (j := 9) h16 (by decide) (by decide) (by decide) rfl (by decide) ?_
  refine V_aload_n 256 C dL_act_255 rfl rfl ?_
  refine V_bipush 258 C dL_act_256 rfl bip14 ?_
  refine V_iload 260 C dL_act_258 rfl rfl ?_
  refine V_iload_n 261 C dL_act_260 rfl rfl ?_
  refine V_bipush 263 C dL_act_261 rfl bip10 ?_
  refine V_iremN 264 C dL_act_263 rfl (by omega) (by omega) (by omega) ?_
  refine V_iconst 265 C dL_act_264 rfl ic0 ?_
  refine V_q1 268 (20) (120) C hF dL_act_265 rfl mL_call.z tw250 (k_copy l G _ _ hl x σ hS hI _ _ _ _ hv9 _ hs9) rfl rfl ⟨Nat.le_of_ble_eq_true rfl, Nat.le_of_ble_eq_true rfl⟩ ⟨by omega, by omega⟩ ⟨by show _ ≤ 24; omega, by show _ ≤ 144; omega⟩ (Nat.le_of_ble_eq_true rfl) ?_
  clear hS hF n h
  intro n h hS hF
  refine V_ireturn C dL_act_268 rfl rfl (by omega) (by omega) ?_
  exact ⟨rfl, hS, hF⟩

set_option maxRecDepth 100000 in
set_option maxHeartbeats 4000000 in
theorem c_act_10 (l : Launch) (G : GT) (n0 : Nat) (h0 : AH) (hl : l.stackTraces = false) (x : Nat) (σ : St) (hS0 : SC x σ h0) (hI : SIs σ) (h3 : 3 ≤ σ.1 0 ∧ 1 ≤ σ.1 2 ∧ 1 ≤ σ.1 4) (hb5 : σ.1 5 < 2 ^ 31) (X : Nat) (hX : X < 2 ^ 31) (h16 : X % 16 = 10) (v9 : Int32) (hv9 : rv (kA 1 2 1 (aPr σ.1 (nI (X / 16 / 6 % σ.1 4)) (nI (X / 16 % σ.1 4)) (nI (X / 16 / 72 % σ.1 4)) (nI (X / 16 % 10))).1) ((aPr σ.1 (nI (X / 16 / 6 % σ.1 4)) (nI (X / 16 % σ.1 4)) (nI (X / 16 / 72 % σ.1 4)) (nI (X / 16 % 10))).1) [eI, eA] = v9) (σ9 : St) (hs9 : ((cnt (aPr σ.1 (nI (X / 16 / 6 % σ.1 4)) (nI (X / 16 % σ.1 4)) (nI (X / 16 / 72 % σ.1 4)) (nI (X / 16 % 10)))), (aK (kA 1 2 1 (aPr σ.1 (nI (X / 16 / 6 % σ.1 4)) (nI (X / 16 % σ.1 4)) (nI (X / 16 / 72 % σ.1 4)) (nI (X / 16 % 10))).1) σ.2.1), (aD (kA 1 2 1 (aPr σ.1 (nI (X / 16 / 6 % σ.1 4)) (nI (X / 16 % σ.1 4)) (nI (X / 16 / 72 % σ.1 4)) (nI (X / 16 % 10))).1) σ.2.1 σ.2.2.1 σ.1), σ.2.2.2.1, σ.2.2.2.2) = σ9) : Ct l yL_act cL_act 10 (some .int) 11 24 144 G n0 h0 [.ref x, .int (nI X)] (PoS x h0 v9 σ9) := by
  have hIv : Iv σ.1 := hI.1
  have i0 := hIv.1
  refine Ct_ofZ mL_act.z (Nat.le_of_ble_eq_true rfl) ?_
  intro p₀ e₀ s₀ m₀ as₀ bl₀ me₀ c₀ C
  refine V_Le (L' := [(0, .ref x), (1, .int (nI X))]) rfl ?_
  suffices H : ∀ (n : Nat) (h : AH) (hS : SC x σ h) (hF : FX x h0 h), V p₀ l e₀ (rmD 11 24 144) s₀ m₀ as₀ bl₀ me₀ c₀ (MQ bl₀ (Po G (PoS x h0 v9 σ9)) as₀ s₀ 24 144 (rg G)) G 10 0 0 n h 0 [(0, .ref x), (1, .int (nI X))] [] from H n0 h0 hS0 FX.rf
  intro n h hS hF
  refine V_iload_n 1 C dL_act_0 rfl rfl ?_
  refine V_bipush 3 C dL_act_1 rfl bip16 ?_
  refine V_idivN 4 C dL_act_3 rfl (by omega) (by omega) (by omega) ?_
  refine V_istore_n 5 C dL_act_4 rfl (by decide) (L' := [(0, _), (1, _), (2, _)]) rfl ?_
  refine V_aload_n 6 C dL_act_5 rfl rfl ?_
  refine V_iconst 7 C dL_act_6 rfl ic2 ?_
  refine V_iconst 8 C dL_act_7 rfl ic0 ?_
  refine V_iconst 9 C dL_act_8 rfl ic0 ?_
  refine V_iconst 10 C dL_act_9 rfl ic0 ?_
  refine V_q1 13 (4) (24) C hF dL_act_10 rfl mL_call.z tw250 (k_about l G _ _ hl x σ hS hI _ _ _ _ (v_ab (j := 0) (w := σ.1 0) (by omega) rfl)) rfl rfl ⟨Nat.le_of_ble_eq_true rfl, Nat.le_of_ble_eq_true rfl⟩ ⟨by omega, by omega⟩ ⟨by show _ ≤ 24; omega, by show _ ≤ 144; omega⟩ (Nat.le_of_ble_eq_true rfl) ?_
  clear hS hF n h
  intro n h hS hF
  refine V_istore_n 14 C dL_act_13 rfl (by decide) (L' := [(0, _), (1, _), (2, _), (3, _)]) rfl ?_
  refine V_aload_n 15 C dL_act_14 rfl rfl ?_
  refine V_iconst 16 C dL_act_15 rfl ic2 ?_
  refine V_iconst 17 C dL_act_16 rfl ic1 ?_
  refine V_iconst 18 C dL_act_17 rfl ic0 ?_
  refine V_iconst 19 C dL_act_18 rfl ic0 ?_
  refine V_q1 22 (8) (48) C hF dL_act_19 rfl mL_call.z tw250 (k_about l G _ _ hl x σ hS hI _ _ _ _ (v_ab (j := 1) (w := σ.1 1) (by omega) rfl)) rfl rfl ⟨Nat.le_of_ble_eq_true rfl, Nat.le_of_ble_eq_true rfl⟩ ⟨by omega, by omega⟩ ⟨by show _ ≤ 24; omega, by show _ ≤ 144; omega⟩ (Nat.le_of_ble_eq_true rfl) ?_
  clear hS hF n h
  intro n h hS hF
  refine V_istore 24 C dL_act_22 rfl (by decide) (L' := [(0, _), (1, _), (2, _), (3, _), (4, _)]) rfl ?_
  refine V_aload_n 25 C dL_act_24 rfl rfl ?_
  refine V_iconst 26 C dL_act_25 rfl ic2 ?_
  refine V_iconst 27 C dL_act_26 rfl ic2 ?_
  refine V_iconst 28 C dL_act_27 rfl ic0 ?_
  refine V_iconst 29 C dL_act_28 rfl ic0 ?_
  refine V_q1 32 (12) (72) C hF dL_act_29 rfl mL_call.z tw250 (k_about l G _ _ hl x σ hS hI _ _ _ _ (v_ab (j := 2) (w := σ.1 2) (by omega) rfl)) rfl rfl ⟨Nat.le_of_ble_eq_true rfl, Nat.le_of_ble_eq_true rfl⟩ ⟨by omega, by omega⟩ ⟨by show _ ≤ 24; omega, by show _ ≤ 144; omega⟩ (Nat.le_of_ble_eq_true rfl) ?_
  clear hS hF n h
  intro n h hS hF
  refine V_istore 34 C dL_act_32 rfl (by decide) (L' := [(0, _), (1, _), (2, _), (3, _), (4, _), (5, _)]) rfl ?_
  refine V_aload_n 35 C dL_act_34 rfl rfl ?_
  refine V_iconst 36 C dL_act_35 rfl ic2 ?_
  refine V_iconst 37 C dL_act_36 rfl ic4 ?_
  refine V_iconst 38 C dL_act_37 rfl ic0 ?_
  refine V_iconst 39 C dL_act_38 rfl ic0 ?_
  refine V_q1 42 (16) (96) C hF dL_act_39 rfl mL_call.z tw250 (k_about l G _ _ hl x σ hS hI _ _ _ _ (v_ab (j := 4) (w := σ.1 4) (by omega) rfl)) rfl rfl ⟨Nat.le_of_ble_eq_true rfl, Nat.le_of_ble_eq_true rfl⟩ ⟨by omega, by omega⟩ ⟨by show _ ≤ 24; omega, by show _ ≤ 144; omega⟩ (Nat.le_of_ble_eq_true rfl) ?_
  clear hS hF n h
  intro n h hS hF
  refine V_istore 44 C dL_act_42 rfl (by decide) (L' := [(0, _), (1, _), (2, _), (3, _), (4, _), (5, _), (6, _)]) rfl ?_
  refine V_iload_n 45 C dL_act_44 rfl rfl ?_
  refine V_iload_n 46 C dL_act_45 rfl rfl ?_
  refine V_iremN 47 C dL_act_46 rfl (by omega) (by omega) (by omega) ?_
  refine V_istore 49 C dL_act_47 rfl (by decide) (L' := [(0, _), (1, _), (2, _), (3, _), (4, _), (5, _), (6, _), (7, _)]) rfl ?_
  refine V_iload_n 50 C dL_act_49 rfl rfl ?_
  refine V_bipush 52 C dL_act_50 rfl bip6 ?_
  refine V_idivN 53 C dL_act_52 rfl (by omega) (by omega) (by omega) ?_
  refine V_iload 55 C dL_act_53 rfl rfl ?_
  refine V_iremN 56 C dL_act_55 rfl (by omega) (by omega) (by omega) ?_
  refine V_istore 58 C dL_act_56 rfl (by decide) (L' := [(0, _), (1, _), (2, _), (3, _), (4, _), (5, _), (6, _), (7, _), (8, _)]) rfl ?_
  refine V_iload_n 59 C dL_act_58 rfl rfl ?_
  refine V_bipush 61 C dL_act_59 rfl bip72 ?_
  refine V_idivN 62 C dL_act_61 rfl (by omega) (by omega) (by omega) ?_
  refine V_iload 64 C dL_act_62 rfl rfl ?_
  refine V_iremN 65 C dL_act_64 rfl (by omega) (by omega) (by omega) ?_
  refine V_istore 67 C dL_act_65 rfl (by decide) (L' := [(0, _), (1, _), (2, _), (3, _), (4, _), (5, _), (6, _), (7, _), (8, _), (9, _)]) rfl ?_
  refine V_iload_n 68 C dL_act_67 rfl rfl ?_
  refine V_bipush 70 C dL_act_68 rfl bip16 ?_
  refine V_iremN 71 C dL_act_70 rfl (by omega) (by omega) (by omega) ?_
  refine V_tsI 269 C dL_act_71 (j := 10) h16 (by decide) (by decide) (by decide) rfl (by decide) ?_
  refine V_aload_n 270 C dL_act_269 rfl rfl ?_
  refine V_iload 272 C dL_act_270 rfl rfl ?_
  refine V_iload_n 273 C dL_act_272 rfl rfl ?_
  refine V_iload 275 C dL_act_273 rfl rfl ?_
  refine V_iremN 276 C dL_act_275 rfl (by omega) (by omega) (by omega) ?_
  refine V_iload_n 277 C dL_act_276 rfl rfl ?_
  refine V_bipush 279 C dL_act_277 rfl bip72 ?_
  refine V_idivN 280 C dL_act_279 rfl (by omega) (by omega) (by omega) ?_
  refine V_iload 282 C dL_act_280 rfl rfl ?_
  refine V_iremN 283 C dL_act_282 rfl (by omega) (by omega) (by omega) ?_
  refine V_iload_n 284 C dL_act_283 rfl rfl ?_
  refine V_bipush 286 C dL_act_284 rfl bip10 ?_
  refine V_iremN 287 C dL_act_286 rfl (by omega) (by omega) (by omega) ?_
  refine V_w1 290 (20) (120) C hF dL_act_287 rfl mL_proofs tw863 (k_proofs l G _ _ hl x σ hS hI _ _ _ _ _ hv9 _ hs9) rfl rfl ⟨Nat.le_of_ble_eq_true rfl, Nat.le_of_ble_eq_true rfl⟩ ⟨by omega, by omega⟩ ⟨by show _ ≤ 24; omega, by show _ ≤ 144; omega⟩ (Nat.le_of_ble_eq_true rfl) ?_
  clear hS hF n h
  intro n h hS hF
  refine V_ireturn C dL_act_290 rfl rfl (by omega) (by omega) ?_
  exact ⟨rfl, hS, hF⟩

set_option maxRecDepth 100000 in
set_option maxHeartbeats 4000000 in
theorem c_act_11a (l : Launch) (G : GT) (n0 : Nat) (h0 : AH) (hl : l.stackTraces = false) (x : Nat) (σ : St) (hS0 : SC x σ h0) (hI : SIs σ) (h3 : 3 ≤ σ.1 0 ∧ 1 ≤ σ.1 2 ∧ 1 ≤ σ.1 4) (hb5 : σ.1 5 < 2 ^ 31) (X : Nat) (hX : X < 2 ^ 31) (h16 : X % 16 = 11) (hc : σ.1 5 < 2)  : Ct l yL_act cL_act 10 (some .int) 11 24 144 G n0 h0 [.ref x, .int (nI X)] (PoS x h0 (nI 4294967295) σ) := by
  have hIv : Iv σ.1 := hI.1
  have i0 := hIv.1
  refine Ct_ofZ mL_act.z (Nat.le_of_ble_eq_true rfl) ?_
  intro p₀ e₀ s₀ m₀ as₀ bl₀ me₀ c₀ C
  refine V_Le (L' := [(0, .ref x), (1, .int (nI X))]) rfl ?_
  suffices H : ∀ (n : Nat) (h : AH) (hS : SC x σ h) (hF : FX x h0 h), V p₀ l e₀ (rmD 11 24 144) s₀ m₀ as₀ bl₀ me₀ c₀ (MQ bl₀ (Po G (PoS x h0 (nI 4294967295) σ)) as₀ s₀ 24 144 (rg G)) G 10 0 0 n h 0 [(0, .ref x), (1, .int (nI X))] [] from H n0 h0 hS0 FX.rf
  intro n h hS hF
  refine V_iload_n 1 C dL_act_0 rfl rfl ?_
  refine V_bipush 3 C dL_act_1 rfl bip16 ?_
  refine V_idivN 4 C dL_act_3 rfl (by omega) (by omega) (by omega) ?_
  refine V_istore_n 5 C dL_act_4 rfl (by decide) (L' := [(0, _), (1, _), (2, _)]) rfl ?_
  refine V_aload_n 6 C dL_act_5 rfl rfl ?_
  refine V_iconst 7 C dL_act_6 rfl ic2 ?_
  refine V_iconst 8 C dL_act_7 rfl ic0 ?_
  refine V_iconst 9 C dL_act_8 rfl ic0 ?_
  refine V_iconst 10 C dL_act_9 rfl ic0 ?_
  refine V_q1 13 (4) (24) C hF dL_act_10 rfl mL_call.z tw250 (k_about l G _ _ hl x σ hS hI _ _ _ _ (v_ab (j := 0) (w := σ.1 0) (by omega) rfl)) rfl rfl ⟨Nat.le_of_ble_eq_true rfl, Nat.le_of_ble_eq_true rfl⟩ ⟨by omega, by omega⟩ ⟨by show _ ≤ 24; omega, by show _ ≤ 144; omega⟩ (Nat.le_of_ble_eq_true rfl) ?_
  clear hS hF n h
  intro n h hS hF
  refine V_istore_n 14 C dL_act_13 rfl (by decide) (L' := [(0, _), (1, _), (2, _), (3, _)]) rfl ?_
  refine V_aload_n 15 C dL_act_14 rfl rfl ?_
  refine V_iconst 16 C dL_act_15 rfl ic2 ?_
  refine V_iconst 17 C dL_act_16 rfl ic1 ?_
  refine V_iconst 18 C dL_act_17 rfl ic0 ?_
  refine V_iconst 19 C dL_act_18 rfl ic0 ?_
  refine V_q1 22 (8) (48) C hF dL_act_19 rfl mL_call.z tw250 (k_about l G _ _ hl x σ hS hI _ _ _ _ (v_ab (j := 1) (w := σ.1 1) (by omega) rfl)) rfl rfl ⟨Nat.le_of_ble_eq_true rfl, Nat.le_of_ble_eq_true rfl⟩ ⟨by omega, by omega⟩ ⟨by show _ ≤ 24; omega, by show _ ≤ 144; omega⟩ (Nat.le_of_ble_eq_true rfl) ?_
  clear hS hF n h
  intro n h hS hF
  refine V_istore 24 C dL_act_22 rfl (by decide) (L' := [(0, _), (1, _), (2, _), (3, _), (4, _)]) rfl ?_
  refine V_aload_n 25 C dL_act_24 rfl rfl ?_
  refine V_iconst 26 C dL_act_25 rfl ic2 ?_
  refine V_iconst 27 C dL_act_26 rfl ic2 ?_
  refine V_iconst 28 C dL_act_27 rfl ic0 ?_
  refine V_iconst 29 C dL_act_28 rfl ic0 ?_
  refine V_q1 32 (12) (72) C hF dL_act_29 rfl mL_call.z tw250 (k_about l G _ _ hl x σ hS hI _ _ _ _ (v_ab (j := 2) (w := σ.1 2) (by omega) rfl)) rfl rfl ⟨Nat.le_of_ble_eq_true rfl, Nat.le_of_ble_eq_true rfl⟩ ⟨by omega, by omega⟩ ⟨by show _ ≤ 24; omega, by show _ ≤ 144; omega⟩ (Nat.le_of_ble_eq_true rfl) ?_
  clear hS hF n h
  intro n h hS hF
  refine V_istore 34 C dL_act_32 rfl (by decide) (L' := [(0, _), (1, _), (2, _), (3, _), (4, _), (5, _)]) rfl ?_
  refine V_aload_n 35 C dL_act_34 rfl rfl ?_
  refine V_iconst 36 C dL_act_35 rfl ic2 ?_
  refine V_iconst 37 C dL_act_36 rfl ic4 ?_
  refine V_iconst 38 C dL_act_37 rfl ic0 ?_
  refine V_iconst 39 C dL_act_38 rfl ic0 ?_
  refine V_q1 42 (16) (96) C hF dL_act_39 rfl mL_call.z tw250 (k_about l G _ _ hl x σ hS hI _ _ _ _ (v_ab (j := 4) (w := σ.1 4) (by omega) rfl)) rfl rfl ⟨Nat.le_of_ble_eq_true rfl, Nat.le_of_ble_eq_true rfl⟩ ⟨by omega, by omega⟩ ⟨by show _ ≤ 24; omega, by show _ ≤ 144; omega⟩ (Nat.le_of_ble_eq_true rfl) ?_
  clear hS hF n h
  intro n h hS hF
  refine V_istore 44 C dL_act_42 rfl (by decide) (L' := [(0, _), (1, _), (2, _), (3, _), (4, _), (5, _), (6, _)]) rfl ?_
  refine V_iload_n 45 C dL_act_44 rfl rfl ?_
  refine V_iload_n 46 C dL_act_45 rfl rfl ?_
  refine V_iremN 47 C dL_act_46 rfl (by omega) (by omega) (by omega) ?_
  refine V_istore 49 C dL_act_47 rfl (by decide) (L' := [(0, _), (1, _), (2, _), (3, _), (4, _), (5, _), (6, _), (7, _)]) rfl ?_
  refine V_iload_n 50 C dL_act_49 rfl rfl ?_
  refine V_bipush 52 C dL_act_50 rfl bip6 ?_
  refine V_idivN 53 C dL_act_52 rfl (by omega) (by omega) (by omega) ?_
  refine V_iload 55 C dL_act_53 rfl rfl ?_
  refine V_iremN 56 C dL_act_55 rfl (by omega) (by omega) (by omega) ?_
  refine V_istore 58 C dL_act_56 rfl (by decide) (L' := [(0, _), (1, _), (2, _), (3, _), (4, _), (5, _), (6, _), (7, _), (8, _)]) rfl ?_
  refine V_iload_n 59 C dL_act_58 rfl rfl ?_
  refine V_bipush 61 C dL_act_59 rfl bip72 ?_
  refine V_idivN 62 C dL_act_61 rfl (by omega) (by omega) (by omega) ?_
  refine V_iload 64 C dL_act_62 rfl rfl ?_
  refine V_iremN 65 C dL_act_64 rfl (by omega) (by omega) (by omega) ?_
  refine V_istore 67 C dL_act_65 rfl (by decide) (L' := [(0, _), (1, _), (2, _), (3, _), (4, _), (5, _), (6, _), (7, _), (8, _), (9, _)]) rfl ?_
  refine V_iload_n 68 C dL_act_67 rfl rfl ?_
  refine V_bipush 70 C dL_act_68 rfl bip16 ?_
  refine V_iremN 71 C dL_act_70 rfl (by omega) (by omega) (by omega) ?_
  refine V_tsI 291 C dL_act_71 (j := 11) h16 (by decide) (by decide) (by decide) rfl (by decide) ?_
  refine V_aload_n 292 C dL_act_291 rfl rfl ?_
  refine V_iconst 293 C dL_act_292 rfl ic2 ?_
  refine V_iconst 294 C dL_act_293 rfl ic5 ?_
  refine V_iconst 295 C dL_act_294 rfl ic0 ?_
  refine V_iconst 296 C dL_act_295 rfl ic0 ?_
  refine V_q1 299 (20) (120) C hF dL_act_296 rfl mL_call.z tw250 (k_about l G _ _ hl x σ hS hI _ _ _ _ (v_ab (j := 5) (w := σ.1 5) (by omega) rfl)) rfl rfl ⟨Nat.le_of_ble_eq_true rfl, Nat.le_of_ble_eq_true rfl⟩ ⟨by omega, by omega⟩ ⟨by show _ ≤ 24; omega, by show _ ≤ 144; omega⟩ (Nat.le_of_ble_eq_true rfl) ?_
  clear hS hF n h
  intro n h hS hF
  refine V_iconst 300 C dL_act_299 rfl ic2 ?_
  refine V_icmp_geN 307 303 C dL_act_300 (by decide) rfl (by omega) (by omega) (fun c300 => by omega) (fun c300 => ?_)
  refine V_iconst 304 C dL_act_303 rfl icm1 ?_
  refine V_goto 316 C dL_act_304 (by decide) ?_
  refine V_ireturn C dL_act_316 rfl rfl (by omega) (by omega) ?_
  exact ⟨rfl, hS, hF⟩

set_option maxRecDepth 100000 in
set_option maxHeartbeats 4000000 in
theorem c_act_11b (l : Launch) (G : GT) (n0 : Nat) (h0 : AH) (hl : l.stackTraces = false) (x : Nat) (σ : St) (hS0 : SC x σ h0) (hI : SIs σ) (h3 : 3 ≤ σ.1 0 ∧ 1 ≤ σ.1 2 ∧ 1 ≤ σ.1 4) (hb5 : σ.1 5 < 2 ^ 31) (X : Nat) (hX : X < 2 ^ 31) (h16 : X % 16 = 11) (hc : ¬ σ.1 5 < 2) (v9 : Int32) (hv9 : rv (if σ.2.1 = 0 then 1 else 0) (nI (σ.2.1 - 1)) [eS] = v9) (σ9 : St) (hs9 : ((if σ.2.1 = 0 then σ.1 else σ.2.2.1 (σ.2.1 - 1)), (σ.2.1 - 1), σ.2.2.1, σ.2.2.2.1, σ.2.2.2.2) = σ9) : Ct l yL_act cL_act 10 (some .int) 11 24 144 G n0 h0 [.ref x, .int (nI X)] (PoS x h0 v9 σ9) := by
  have hIv : Iv σ.1 := hI.1
  have i0 := hIv.1
  refine Ct_ofZ mL_act.z (Nat.le_of_ble_eq_true rfl) ?_
  intro p₀ e₀ s₀ m₀ as₀ bl₀ me₀ c₀ C
  refine V_Le (L' := [(0, .ref x), (1, .int (nI X))]) rfl ?_
  suffices H : ∀ (n : Nat) (h : AH) (hS : SC x σ h) (hF : FX x h0 h), V p₀ l e₀ (rmD 11 24 144) s₀ m₀ as₀ bl₀ me₀ c₀ (MQ bl₀ (Po G (PoS x h0 v9 σ9)) as₀ s₀ 24 144 (rg G)) G 10 0 0 n h 0 [(0, .ref x), (1, .int (nI X))] [] from H n0 h0 hS0 FX.rf
  intro n h hS hF
  refine V_iload_n 1 C dL_act_0 rfl rfl ?_
  refine V_bipush 3 C dL_act_1 rfl bip16 ?_
  refine V_idivN 4 C dL_act_3 rfl (by omega) (by omega) (by omega) ?_
  refine V_istore_n 5 C dL_act_4 rfl (by decide) (L' := [(0, _), (1, _), (2, _)]) rfl ?_
  refine V_aload_n 6 C dL_act_5 rfl rfl ?_
  refine V_iconst 7 C dL_act_6 rfl ic2 ?_
  refine V_iconst 8 C dL_act_7 rfl ic0 ?_
  refine V_iconst 9 C dL_act_8 rfl ic0 ?_
  refine V_iconst 10 C dL_act_9 rfl ic0 ?_
  refine V_q1 13 (4) (24) C hF dL_act_10 rfl mL_call.z tw250 (k_about l G _ _ hl x σ hS hI _ _ _ _ (v_ab (j := 0) (w := σ.1 0) (by omega) rfl)) rfl rfl ⟨Nat.le_of_ble_eq_true rfl, Nat.le_of_ble_eq_true rfl⟩ ⟨by omega, by omega⟩ ⟨by show _ ≤ 24; omega, by show _ ≤ 144; omega⟩ (Nat.le_of_ble_eq_true rfl) ?_
  clear hS hF n h
  intro n h hS hF
  refine V_istore_n 14 C dL_act_13 rfl (by decide) (L' := [(0, _), (1, _), (2, _), (3, _)]) rfl ?_
  refine V_aload_n 15 C dL_act_14 rfl rfl ?_
  refine V_iconst 16 C dL_act_15 rfl ic2 ?_
  refine V_iconst 17 C dL_act_16 rfl ic1 ?_
  refine V_iconst 18 C dL_act_17 rfl ic0 ?_
  refine V_iconst 19 C dL_act_18 rfl ic0 ?_
  refine V_q1 22 (8) (48) C hF dL_act_19 rfl mL_call.z tw250 (k_about l G _ _ hl x σ hS hI _ _ _ _ (v_ab (j := 1) (w := σ.1 1) (by omega) rfl)) rfl rfl ⟨Nat.le_of_ble_eq_true rfl, Nat.le_of_ble_eq_true rfl⟩ ⟨by omega, by omega⟩ ⟨by show _ ≤ 24; omega, by show _ ≤ 144; omega⟩ (Nat.le_of_ble_eq_true rfl) ?_
  clear hS hF n h
  intro n h hS hF
  refine V_istore 24 C dL_act_22 rfl (by decide) (L' := [(0, _), (1, _), (2, _), (3, _), (4, _)]) rfl ?_
  refine V_aload_n 25 C dL_act_24 rfl rfl ?_
  refine V_iconst 26 C dL_act_25 rfl ic2 ?_
  refine V_iconst 27 C dL_act_26 rfl ic2 ?_
  refine V_iconst 28 C dL_act_27 rfl ic0 ?_
  refine V_iconst 29 C dL_act_28 rfl ic0 ?_
  refine V_q1 32 (12) (72) C hF dL_act_29 rfl mL_call.z tw250 (k_about l G _ _ hl x σ hS hI _ _ _ _ (v_ab (j := 2) (w := σ.1 2) (by omega) rfl)) rfl rfl ⟨Nat.le_of_ble_eq_true rfl, Nat.le_of_ble_eq_true rfl⟩ ⟨by omega, by omega⟩ ⟨by show _ ≤ 24; omega, by show _ ≤ 144; omega⟩ (Nat.le_of_ble_eq_true rfl) ?_
  clear hS hF n h
  intro n h hS hF
  refine V_istore 34 C dL_act_32 rfl (by decide) (L' := [(0, _), (1, _), (2, _), (3, _), (4, _), (5, _)]) rfl ?_
  refine V_aload_n 35 C dL_act_34 rfl rfl ?_
  refine V_iconst 36 C dL_act_35 rfl ic2 ?_
  refine V_iconst 37 C dL_act_36 rfl ic4 ?_
  refine V_iconst 38 C dL_act_37 rfl ic0 ?_
  refine V_iconst 39 C dL_act_38 rfl ic0 ?_
  refine V_q1 42 (16) (96) C hF dL_act_39 rfl mL_call.z tw250 (k_about l G _ _ hl x σ hS hI _ _ _ _ (v_ab (j := 4) (w := σ.1 4) (by omega) rfl)) rfl rfl ⟨Nat.le_of_ble_eq_true rfl, Nat.le_of_ble_eq_true rfl⟩ ⟨by omega, by omega⟩ ⟨by show _ ≤ 24; omega, by show _ ≤ 144; omega⟩ (Nat.le_of_ble_eq_true rfl) ?_
  clear hS hF n h
  intro n h hS hF
  refine V_istore 44 C dL_act_42 rfl (by decide) (L' := [(0, _), (1, _), (2, _), (3, _), (4, _), (5, _), (6, _)]) rfl ?_
  refine V_iload_n 45 C dL_act_44 rfl rfl ?_
  refine V_iload_n 46 C dL_act_45 rfl rfl ?_
  refine V_iremN 47 C dL_act_46 rfl (by omega) (by omega) (by omega) ?_
  refine V_istore 49 C dL_act_47 rfl (by decide) (L' := [(0, _), (1, _), (2, _), (3, _), (4, _), (5, _), (6, _), (7, _)]) rfl ?_
  refine V_iload_n 50 C dL_act_49 rfl rfl ?_
  refine V_bipush 52 C dL_act_50 rfl bip6 ?_
  refine V_idivN 53 C dL_act_52 rfl (by omega) (by omega) (by omega) ?_
  refine V_iload 55 C dL_act_53 rfl rfl ?_
  refine V_iremN 56 C dL_act_55 rfl (by omega) (by omega) (by omega) ?_
  refine V_istore 58 C dL_act_56 rfl (by decide) (L' := [(0, _), (1, _), (2, _), (3, _), (4, _), (5, _), (6, _), (7, _), (8, _)]) rfl ?_
  refine V_iload_n 59 C dL_act_58 rfl rfl ?_
  refine V_bipush 61 C dL_act_59 rfl bip72 ?_
  refine V_idivN 62 C dL_act_61 rfl (by omega) (by omega) (by omega) ?_
  refine V_iload 64 C dL_act_62 rfl rfl ?_
  refine V_iremN 65 C dL_act_64 rfl (by omega) (by omega) (by omega) ?_
  refine V_istore 67 C dL_act_65 rfl (by decide) (L' := [(0, _), (1, _), (2, _), (3, _), (4, _), (5, _), (6, _), (7, _), (8, _), (9, _)]) rfl ?_
  refine V_iload_n 68 C dL_act_67 rfl rfl ?_
  refine V_bipush 70 C dL_act_68 rfl bip16 ?_
  refine V_iremN 71 C dL_act_70 rfl (by omega) (by omega) (by omega) ?_
  refine V_tsI 291 C dL_act_71 (j := 11) h16 (by decide) (by decide) (by decide) rfl (by decide) ?_
  refine V_aload_n 292 C dL_act_291 rfl rfl ?_
  refine V_iconst 293 C dL_act_292 rfl ic2 ?_
  refine V_iconst 294 C dL_act_293 rfl ic5 ?_
  refine V_iconst 295 C dL_act_294 rfl ic0 ?_
  refine V_iconst 296 C dL_act_295 rfl ic0 ?_
  refine V_q1 299 (20) (120) C hF dL_act_296 rfl mL_call.z tw250 (k_about l G _ _ hl x σ hS hI _ _ _ _ (v_ab (j := 5) (w := σ.1 5) (by omega) rfl)) rfl rfl ⟨Nat.le_of_ble_eq_true rfl, Nat.le_of_ble_eq_true rfl⟩ ⟨by omega, by omega⟩ ⟨by show _ ≤ 24; omega, by show _ ≤ 144; omega⟩ (Nat.le_of_ble_eq_true rfl) ?_
  clear hS hF n h
  intro n h hS hF
  refine V_iconst 300 C dL_act_299 rfl ic2 ?_
  refine V_icmp_geN 307 303 C dL_act_300 (by decide) rfl (by omega) (by omega) (fun c300 => ?_) (fun c300 => by omega)
  refine V_aload_n 308 C dL_act_307 rfl rfl ?_
  refine V_bipush 310 C dL_act_308 rfl bip16 ?_
  refine V_iconst 311 C dL_act_310 rfl ic0 ?_
  refine V_iconst 312 C dL_act_311 rfl ic0 ?_
  refine V_iconst 313 C dL_act_312 rfl ic0 ?_
  refine V_q1 316 (24) (144) C hF dL_act_313 rfl mL_call.z tw250 (k_undo l G _ _ hl x σ hS hI _ _ _ _ hv9 _ hs9) rfl rfl ⟨Nat.le_of_ble_eq_true rfl, Nat.le_of_ble_eq_true rfl⟩ ⟨by omega, by omega⟩ ⟨by show _ ≤ 24; omega, by show _ ≤ 144; omega⟩ (Nat.le_of_ble_eq_true rfl) ?_
  clear hS hF n h
  intro n h hS hF
  refine V_ireturn C dL_act_316 rfl rfl (by omega) (by omega) ?_
  exact ⟨rfl, hS, hF⟩

set_option maxRecDepth 100000 in
set_option maxHeartbeats 4000000 in
theorem c_act_12a (l : Launch) (G : GT) (n0 : Nat) (h0 : AH) (hl : l.stackTraces = false) (x : Nat) (σ : St) (hS0 : SC x σ h0) (hI : SIs σ) (h3 : 3 ≤ σ.1 0 ∧ 1 ≤ σ.1 2 ∧ 1 ≤ σ.1 4) (hb5 : σ.1 5 < 2 ^ 31) (X : Nat) (hX : X < 2 ^ 31) (h16 : X % 16 = 12) (hc : X / 16 % 2 = 0) (v9 : Int32) (hv9 : rv (if ix (nI (X / 16 / 2 % 2)) 2 then 0 else 1) (nI (σ.1 5)) [eI] = v9) (σ9 : St) (hs9 : (σ.1, σ.2.1, σ.2.2.1, (sA (if ix (nI (X / 16 / 2 % 2)) 2 then 0 else 1) (z (nI (X / 16 / 2 % 2))) σ.1 σ.2.2.2.1), (sB (if ix (nI (X / 16 / 2 % 2)) 2 then 0 else 1) (z (nI (X / 16 / 2 % 2))) σ.2.2.2.2)) = σ9) : Ct l yL_act cL_act 10 (some .int) 11 24 144 G n0 h0 [.ref x, .int (nI X)] (PoS x h0 v9 σ9) := by
  have hIv : Iv σ.1 := hI.1
  have i0 := hIv.1
  refine Ct_ofZ mL_act.z (Nat.le_of_ble_eq_true rfl) ?_
  intro p₀ e₀ s₀ m₀ as₀ bl₀ me₀ c₀ C
  refine V_Le (L' := [(0, .ref x), (1, .int (nI X))]) rfl ?_
  suffices H : ∀ (n : Nat) (h : AH) (hS : SC x σ h) (hF : FX x h0 h), V p₀ l e₀ (rmD 11 24 144) s₀ m₀ as₀ bl₀ me₀ c₀ (MQ bl₀ (Po G (PoS x h0 v9 σ9)) as₀ s₀ 24 144 (rg G)) G 10 0 0 n h 0 [(0, .ref x), (1, .int (nI X))] [] from H n0 h0 hS0 FX.rf
  intro n h hS hF
  refine V_iload_n 1 C dL_act_0 rfl rfl ?_
  refine V_bipush 3 C dL_act_1 rfl bip16 ?_
  refine V_idivN 4 C dL_act_3 rfl (by omega) (by omega) (by omega) ?_
  refine V_istore_n 5 C dL_act_4 rfl (by decide) (L' := [(0, _), (1, _), (2, _)]) rfl ?_
  refine V_aload_n 6 C dL_act_5 rfl rfl ?_
  refine V_iconst 7 C dL_act_6 rfl ic2 ?_
  refine V_iconst 8 C dL_act_7 rfl ic0 ?_
  refine V_iconst 9 C dL_act_8 rfl ic0 ?_
  refine V_iconst 10 C dL_act_9 rfl ic0 ?_
  refine V_q1 13 (4) (24) C hF dL_act_10 rfl mL_call.z tw250 (k_about l G _ _ hl x σ hS hI _ _ _ _ (v_ab (j := 0) (w := σ.1 0) (by omega) rfl)) rfl rfl ⟨Nat.le_of_ble_eq_true rfl, Nat.le_of_ble_eq_true rfl⟩ ⟨by omega, by omega⟩ ⟨by show _ ≤ 24; omega, by show _ ≤ 144; omega⟩ (Nat.le_of_ble_eq_true rfl) ?_
  clear hS hF n h
  intro n h hS hF
  refine V_istore_n 14 C dL_act_13 rfl (by decide) (L' := [(0, _), (1, _), (2, _), (3, _)]) rfl ?_
  refine V_aload_n 15 C dL_act_14 rfl rfl ?_
  refine V_iconst 16 C dL_act_15 rfl ic2 ?_
  refine V_iconst 17 C dL_act_16 rfl ic1 ?_
  refine V_iconst 18 C dL_act_17 rfl ic0 ?_
  refine V_iconst 19 C dL_act_18 rfl ic0 ?_
  refine V_q1 22 (8) (48) C hF dL_act_19 rfl mL_call.z tw250 (k_about l G _ _ hl x σ hS hI _ _ _ _ (v_ab (j := 1) (w := σ.1 1) (by omega) rfl)) rfl rfl ⟨Nat.le_of_ble_eq_true rfl, Nat.le_of_ble_eq_true rfl⟩ ⟨by omega, by omega⟩ ⟨by show _ ≤ 24; omega, by show _ ≤ 144; omega⟩ (Nat.le_of_ble_eq_true rfl) ?_
  clear hS hF n h
  intro n h hS hF
  refine V_istore 24 C dL_act_22 rfl (by decide) (L' := [(0, _), (1, _), (2, _), (3, _), (4, _)]) rfl ?_
  refine V_aload_n 25 C dL_act_24 rfl rfl ?_
  refine V_iconst 26 C dL_act_25 rfl ic2 ?_
  refine V_iconst 27 C dL_act_26 rfl ic2 ?_
  refine V_iconst 28 C dL_act_27 rfl ic0 ?_
  refine V_iconst 29 C dL_act_28 rfl ic0 ?_
  refine V_q1 32 (12) (72) C hF dL_act_29 rfl mL_call.z tw250 (k_about l G _ _ hl x σ hS hI _ _ _ _ (v_ab (j := 2) (w := σ.1 2) (by omega) rfl)) rfl rfl ⟨Nat.le_of_ble_eq_true rfl, Nat.le_of_ble_eq_true rfl⟩ ⟨by omega, by omega⟩ ⟨by show _ ≤ 24; omega, by show _ ≤ 144; omega⟩ (Nat.le_of_ble_eq_true rfl) ?_
  clear hS hF n h
  intro n h hS hF
  refine V_istore 34 C dL_act_32 rfl (by decide) (L' := [(0, _), (1, _), (2, _), (3, _), (4, _), (5, _)]) rfl ?_
  refine V_aload_n 35 C dL_act_34 rfl rfl ?_
  refine V_iconst 36 C dL_act_35 rfl ic2 ?_
  refine V_iconst 37 C dL_act_36 rfl ic4 ?_
  refine V_iconst 38 C dL_act_37 rfl ic0 ?_
  refine V_iconst 39 C dL_act_38 rfl ic0 ?_
  refine V_q1 42 (16) (96) C hF dL_act_39 rfl mL_call.z tw250 (k_about l G _ _ hl x σ hS hI _ _ _ _ (v_ab (j := 4) (w := σ.1 4) (by omega) rfl)) rfl rfl ⟨Nat.le_of_ble_eq_true rfl, Nat.le_of_ble_eq_true rfl⟩ ⟨by omega, by omega⟩ ⟨by show _ ≤ 24; omega, by show _ ≤ 144; omega⟩ (Nat.le_of_ble_eq_true rfl) ?_
  clear hS hF n h
  intro n h hS hF
  refine V_istore 44 C dL_act_42 rfl (by decide) (L' := [(0, _), (1, _), (2, _), (3, _), (4, _), (5, _), (6, _)]) rfl ?_
  refine V_iload_n 45 C dL_act_44 rfl rfl ?_
  refine V_iload_n 46 C dL_act_45 rfl rfl ?_
  refine V_iremN 47 C dL_act_46 rfl (by omega) (by omega) (by omega) ?_
  refine V_istore 49 C dL_act_47 rfl (by decide) (L' := [(0, _), (1, _), (2, _), (3, _), (4, _), (5, _), (6, _), (7, _)]) rfl ?_
  refine V_iload_n 50 C dL_act_49 rfl rfl ?_
  refine V_bipush 52 C dL_act_50 rfl bip6 ?_
  refine V_idivN 53 C dL_act_52 rfl (by omega) (by omega) (by omega) ?_
  refine V_iload 55 C dL_act_53 rfl rfl ?_
  refine V_iremN 56 C dL_act_55 rfl (by omega) (by omega) (by omega) ?_
  refine V_istore 58 C dL_act_56 rfl (by decide) (L' := [(0, _), (1, _), (2, _), (3, _), (4, _), (5, _), (6, _), (7, _), (8, _)]) rfl ?_
  refine V_iload_n 59 C dL_act_58 rfl rfl ?_
  refine V_bipush 61 C dL_act_59 rfl bip72 ?_
  refine V_idivN 62 C dL_act_61 rfl (by omega) (by omega) (by omega) ?_
  refine V_iload 64 C dL_act_62 rfl rfl ?_
  refine V_iremN 65 C dL_act_64 rfl (by omega) (by omega) (by omega) ?_
  refine V_istore 67 C dL_act_65 rfl (by decide) (L' := [(0, _), (1, _), (2, _), (3, _), (4, _), (5, _), (6, _), (7, _), (8, _), (9, _)]) rfl ?_
  refine V_iload_n 68 C dL_act_67 rfl rfl ?_
  refine V_bipush 70 C dL_act_68 rfl bip16 ?_
  refine V_iremN 71 C dL_act_70 rfl (by omega) (by omega) (by omega) ?_
  refine V_tsI 317 C dL_act_71 (j := 12) h16 (by decide) (by decide) (by decide) rfl (by decide) ?_
  refine V_iload_n 318 C dL_act_317 rfl rfl ?_
  refine V_iconst 319 C dL_act_318 rfl ic2 ?_
  refine V_iremN 320 C dL_act_319 rfl (by omega) (by omega) (by omega) ?_
  refine V_if_neN 339 323 C dL_act_320 (by decide) rfl (by omega) (fun c320 => by omega) (fun c320 => ?_)
  refine V_aload_n 324 C dL_act_323 rfl rfl ?_
  refine V_bipush 326 C dL_act_324 rfl bip24 ?_
  refine V_iload_n 327 C dL_act_326 rfl rfl ?_
  refine V_iconst 328 C dL_act_327 rfl ic2 ?_
  refine V_idivN 329 C dL_act_328 rfl (by omega) (by omega) (by omega) ?_
  refine V_iconst 330 C dL_act_329 rfl ic2 ?_
  refine V_iremN 331 C dL_act_330 rfl (by omega) (by omega) (by omega) ?_
  refine V_iconst 332 C dL_act_331 rfl ic0 ?_
  refine V_iconst 333 C dL_act_332 rfl ic0 ?_
  refine V_q1 336 (20) (120) C hF dL_act_333 rfl mL_call.z tw250 (k_keep l G _ _ hl x σ hS hI _ _ _ _ hv9 _ hs9) rfl rfl ⟨Nat.le_of_ble_eq_true rfl, Nat.le_of_ble_eq_true rfl⟩ ⟨by omega, by omega⟩ ⟨by show _ ≤ 24; omega, by show _ ≤ 144; omega⟩ (Nat.le_of_ble_eq_true rfl) ?_
  clear hS hF n h
  intro n h hS hF
  refine V_goto 352 C dL_act_336 (by decide) ?_
  refine V_ireturn C dL_act_352 rfl rfl (by omega) (by omega) ?_
  exact ⟨rfl, hS, hF⟩

set_option maxRecDepth 100000 in
set_option maxHeartbeats 4000000 in
theorem c_act_12b (l : Launch) (G : GT) (n0 : Nat) (h0 : AH) (hl : l.stackTraces = false) (x : Nat) (σ : St) (hS0 : SC x σ h0) (hI : SIs σ) (h3 : 3 ≤ σ.1 0 ∧ 1 ≤ σ.1 2 ∧ 1 ≤ σ.1 4) (hb5 : σ.1 5 < 2 ^ 31) (X : Nat) (hX : X < 2 ^ 31) (h16 : X % 16 = 12) (hc : ¬ X / 16 % 2 = 0) (v9 : Int32) (hv9 : rv (if ix (nI (X / 16 / 2 % 2)) 2 then (if σ.2.2.2.2 (z (nI (X / 16 / 2 % 2))) = true then 0 else 2) else 1) (nI (σ.2.2.2.1 (z (nI (X / 16 / 2 % 2))) 5)) [eI, eS] = v9) (σ9 : St) (hs9 : ((if (if ix (nI (X / 16 / 2 % 2)) 2 then (if σ.2.2.2.2 (z (nI (X / 16 / 2 % 2))) = true then 0 else 2) else 1) = 0 then σ.2.2.2.1 (z (nI (X / 16 / 2 % 2))) else σ.1), (if (if ix (nI (X / 16 / 2 % 2)) 2 then (if σ.2.2.2.2 (z (nI (X / 16 / 2 % 2))) = true then 0 else 2) else 1) = 0 then 0 else σ.2.1), σ.2.2.1, σ.2.2.2.1, σ.2.2.2.2) = σ9) : Ct l yL_act cL_act 10 (some .int) 11 24 144 G n0 h0 [.ref x, .int (nI X)] (PoS x h0 v9 σ9) := by
  have hIv : Iv σ.1 := hI.1
  have i0 := hIv.1
  refine Ct_ofZ mL_act.z (Nat.le_of_ble_eq_true rfl) ?_
  intro p₀ e₀ s₀ m₀ as₀ bl₀ me₀ c₀ C
  refine V_Le (L' := [(0, .ref x), (1, .int (nI X))]) rfl ?_
  suffices H : ∀ (n : Nat) (h : AH) (hS : SC x σ h) (hF : FX x h0 h), V p₀ l e₀ (rmD 11 24 144) s₀ m₀ as₀ bl₀ me₀ c₀ (MQ bl₀ (Po G (PoS x h0 v9 σ9)) as₀ s₀ 24 144 (rg G)) G 10 0 0 n h 0 [(0, .ref x), (1, .int (nI X))] [] from H n0 h0 hS0 FX.rf
  intro n h hS hF
  refine V_iload_n 1 C dL_act_0 rfl rfl ?_
  refine V_bipush 3 C dL_act_1 rfl bip16 ?_
  refine V_idivN 4 C dL_act_3 rfl (by omega) (by omega) (by omega) ?_
  refine V_istore_n 5 C dL_act_4 rfl (by decide) (L' := [(0, _), (1, _), (2, _)]) rfl ?_
  refine V_aload_n 6 C dL_act_5 rfl rfl ?_
  refine V_iconst 7 C dL_act_6 rfl ic2 ?_
  refine V_iconst 8 C dL_act_7 rfl ic0 ?_
  refine V_iconst 9 C dL_act_8 rfl ic0 ?_
  refine V_iconst 10 C dL_act_9 rfl ic0 ?_
  refine V_q1 13 (4) (24) C hF dL_act_10 rfl mL_call.z tw250 (k_about l G _ _ hl x σ hS hI _ _ _ _ (v_ab (j := 0) (w := σ.1 0) (by omega) rfl)) rfl rfl ⟨Nat.le_of_ble_eq_true rfl, Nat.le_of_ble_eq_true rfl⟩ ⟨by omega, by omega⟩ ⟨by show _ ≤ 24; omega, by show _ ≤ 144; omega⟩ (Nat.le_of_ble_eq_true rfl) ?_
  clear hS hF n h
  intro n h hS hF
  refine V_istore_n 14 C dL_act_13 rfl (by decide) (L' := [(0, _), (1, _), (2, _), (3, _)]) rfl ?_
  refine V_aload_n 15 C dL_act_14 rfl rfl ?_
  refine V_iconst 16 C dL_act_15 rfl ic2 ?_
  refine V_iconst 17 C dL_act_16 rfl ic1 ?_
  refine V_iconst 18 C dL_act_17 rfl ic0 ?_
  refine V_iconst 19 C dL_act_18 rfl ic0 ?_
  refine V_q1 22 (8) (48) C hF dL_act_19 rfl mL_call.z tw250 (k_about l G _ _ hl x σ hS hI _ _ _ _ (v_ab (j := 1) (w := σ.1 1) (by omega) rfl)) rfl rfl ⟨Nat.le_of_ble_eq_true rfl, Nat.le_of_ble_eq_true rfl⟩ ⟨by omega, by omega⟩ ⟨by show _ ≤ 24; omega, by show _ ≤ 144; omega⟩ (Nat.le_of_ble_eq_true rfl) ?_
  clear hS hF n h
  intro n h hS hF
  refine V_istore 24 C dL_act_22 rfl (by decide) (L' := [(0, _), (1, _), (2, _), (3, _), (4, _)]) rfl ?_
  refine V_aload_n 25 C dL_act_24 rfl rfl ?_
  refine V_iconst 26 C dL_act_25 rfl ic2 ?_
  refine V_iconst 27 C dL_act_26 rfl ic2 ?_
  refine V_iconst 28 C dL_act_27 rfl ic0 ?_
  refine V_iconst 29 C dL_act_28 rfl ic0 ?_
  refine V_q1 32 (12) (72) C hF dL_act_29 rfl mL_call.z tw250 (k_about l G _ _ hl x σ hS hI _ _ _ _ (v_ab (j := 2) (w := σ.1 2) (by omega) rfl)) rfl rfl ⟨Nat.le_of_ble_eq_true rfl, Nat.le_of_ble_eq_true rfl⟩ ⟨by omega, by omega⟩ ⟨by show _ ≤ 24; omega, by show _ ≤ 144; omega⟩ (Nat.le_of_ble_eq_true rfl) ?_
  clear hS hF n h
  intro n h hS hF
  refine V_istore 34 C dL_act_32 rfl (by decide) (L' := [(0, _), (1, _), (2, _), (3, _), (4, _), (5, _)]) rfl ?_
  refine V_aload_n 35 C dL_act_34 rfl rfl ?_
  refine V_iconst 36 C dL_act_35 rfl ic2 ?_
  refine V_iconst 37 C dL_act_36 rfl ic4 ?_
  refine V_iconst 38 C dL_act_37 rfl ic0 ?_
  refine V_iconst 39 C dL_act_38 rfl ic0 ?_
  refine V_q1 42 (16) (96) C hF dL_act_39 rfl mL_call.z tw250 (k_about l G _ _ hl x σ hS hI _ _ _ _ (v_ab (j := 4) (w := σ.1 4) (by omega) rfl)) rfl rfl ⟨Nat.le_of_ble_eq_true rfl, Nat.le_of_ble_eq_true rfl⟩ ⟨by omega, by omega⟩ ⟨by show _ ≤ 24; omega, by show _ ≤ 144; omega⟩ (Nat.le_of_ble_eq_true rfl) ?_
  clear hS hF n h
  intro n h hS hF
  refine V_istore 44 C dL_act_42 rfl (by decide) (L' := [(0, _), (1, _), (2, _), (3, _), (4, _), (5, _), (6, _)]) rfl ?_
  refine V_iload_n 45 C dL_act_44 rfl rfl ?_
  refine V_iload_n 46 C dL_act_45 rfl rfl ?_
  refine V_iremN 47 C dL_act_46 rfl (by omega) (by omega) (by omega) ?_
  refine V_istore 49 C dL_act_47 rfl (by decide) (L' := [(0, _), (1, _), (2, _), (3, _), (4, _), (5, _), (6, _), (7, _)]) rfl ?_
  refine V_iload_n 50 C dL_act_49 rfl rfl ?_
  refine V_bipush 52 C dL_act_50 rfl bip6 ?_
  refine V_idivN 53 C dL_act_52 rfl (by omega) (by omega) (by omega) ?_
  refine V_iload 55 C dL_act_53 rfl rfl ?_
  refine V_iremN 56 C dL_act_55 rfl (by omega) (by omega) (by omega) ?_
  refine V_istore 58 C dL_act_56 rfl (by decide) (L' := [(0, _), (1, _), (2, _), (3, _), (4, _), (5, _), (6, _), (7, _), (8, _)]) rfl ?_
  refine V_iload_n 59 C dL_act_58 rfl rfl ?_
  refine V_bipush 61 C dL_act_59 rfl bip72 ?_
  refine V_idivN 62 C dL_act_61 rfl (by omega) (by omega) (by omega) ?_
  refine V_iload 64 C dL_act_62 rfl rfl ?_
  refine V_iremN 65 C dL_act_64 rfl (by omega) (by omega) (by omega) ?_
  refine V_istore 67 C dL_act_65 rfl (by decide) (L' := [(0, _), (1, _), (2, _), (3, _), (4, _), (5, _), (6, _), (7, _), (8, _), (9, _)]) rfl ?_
  refine V_iload_n 68 C dL_act_67 rfl rfl ?_
  refine V_bipush 70 C dL_act_68 rfl bip16 ?_
  refine V_iremN 71 C dL_act_70 rfl (by omega) (by omega) (by omega) ?_
  refine V_tsI 317 C dL_act_71 (j := 12) h16 (by decide) (by decide) (by decide) rfl (by decide) ?_
  refine V_iload_n 318 C dL_act_317 rfl rfl ?_
  refine V_iconst 319 C dL_act_318 rfl ic2 ?_
  refine V_iremN 320 C dL_act_319 rfl (by omega) (by omega) (by omega) ?_
  refine V_if_neN 339 323 C dL_act_320 (by decide) rfl (by omega) (fun c320 => ?_) (fun c320 => by omega)
  refine V_aload_n 340 C dL_act_339 rfl rfl ?_
  refine V_bipush 342 C dL_act_340 rfl bip25 ?_
  refine V_iload_n 343 C dL_act_342 rfl rfl ?_
  refine V_iconst 344 C dL_act_343 rfl ic2 ?_
  refine V_idivN 345 C dL_act_344 rfl (by omega) (by omega) (by omega) ?_
  refine V_iconst 346 C dL_act_345 rfl ic2 ?_
  refine V_iremN 347 C dL_act_346 rfl (by omega) (by omega) (by omega) ?_
  refine V_iconst 348 C dL_act_347 rfl ic0 ?_
  refine V_iconst 349 C dL_act_348 rfl ic0 ?_
  refine V_q1 352 (20) (120) C hF dL_act_349 rfl mL_call.z tw250 (k_back l G _ _ hl x σ hS hI _ _ _ _ hv9 _ hs9) rfl rfl ⟨Nat.le_of_ble_eq_true rfl, Nat.le_of_ble_eq_true rfl⟩ ⟨by omega, by omega⟩ ⟨by show _ ≤ 24; omega, by show _ ≤ 144; omega⟩ (Nat.le_of_ble_eq_true rfl) ?_
  clear hS hF n h
  intro n h hS hF
  refine V_ireturn C dL_act_352 rfl rfl (by omega) (by omega) ?_
  exact ⟨rfl, hS, hF⟩

set_option maxRecDepth 100000 in
set_option maxHeartbeats 4000000 in
theorem c_act_13 (l : Launch) (G : GT) (n0 : Nat) (h0 : AH) (hl : l.stackTraces = false) (x : Nat) (σ : St) (hS0 : SC x σ h0) (hI : SIs σ) (h3 : 3 ≤ σ.1 0 ∧ 1 ≤ σ.1 2 ∧ 1 ≤ σ.1 4) (hb5 : σ.1 5 < 2 ^ 31) (X : Nat) (hX : X < 2 ^ 31) (h16 : 13 ≤ X % 16) (v9 : Int32) (hv9 : rv (kA 1 1 1 (aHr σ.1 (nI (1 + X / 16 % 12))).1) ((aHr σ.1 (nI (1 + X / 16 % 12))).1) [eA] = v9) (σ9 : St) (hs9 : ((aHr σ.1 (nI (1 + X / 16 % 12))).2, (aK (kA 1 1 1 (aHr σ.1 (nI (1 + X / 16 % 12))).1) σ.2.1), (aD (kA 1 1 1 (aHr σ.1 (nI (1 + X / 16 % 12))).1) σ.2.1 σ.2.2.1 σ.1), σ.2.2.2.1, σ.2.2.2.2) = σ9) : Ct l yL_act cL_act 10 (some .int) 11 24 144 G n0 h0 [.ref x, .int (nI X)] (PoS x h0 v9 σ9) := by
  have hIv : Iv σ.1 := hI.1
  have i0 := hIv.1
  refine Ct_ofZ mL_act.z (Nat.le_of_ble_eq_true rfl) ?_
  intro p₀ e₀ s₀ m₀ as₀ bl₀ me₀ c₀ C
  refine V_Le (L' := [(0, .ref x), (1, .int (nI X))]) rfl ?_
  suffices H : ∀ (n : Nat) (h : AH) (hS : SC x σ h) (hF : FX x h0 h), V p₀ l e₀ (rmD 11 24 144) s₀ m₀ as₀ bl₀ me₀ c₀ (MQ bl₀ (Po G (PoS x h0 v9 σ9)) as₀ s₀ 24 144 (rg G)) G 10 0 0 n h 0 [(0, .ref x), (1, .int (nI X))] [] from H n0 h0 hS0 FX.rf
  intro n h hS hF
  refine V_iload_n 1 C dL_act_0 rfl rfl ?_
  refine V_bipush 3 C dL_act_1 rfl bip16 ?_
  refine V_idivN 4 C dL_act_3 rfl (by omega) (by omega) (by omega) ?_
  refine V_istore_n 5 C dL_act_4 rfl (by decide) (L' := [(0, _), (1, _), (2, _)]) rfl ?_
  refine V_aload_n 6 C dL_act_5 rfl rfl ?_
  refine V_iconst 7 C dL_act_6 rfl ic2 ?_
  refine V_iconst 8 C dL_act_7 rfl ic0 ?_
  refine V_iconst 9 C dL_act_8 rfl ic0 ?_
  refine V_iconst 10 C dL_act_9 rfl ic0 ?_
  refine V_q1 13 (4) (24) C hF dL_act_10 rfl mL_call.z tw250 (k_about l G _ _ hl x σ hS hI _ _ _ _ (v_ab (j := 0) (w := σ.1 0) (by omega) rfl)) rfl rfl ⟨Nat.le_of_ble_eq_true rfl, Nat.le_of_ble_eq_true rfl⟩ ⟨by omega, by omega⟩ ⟨by show _ ≤ 24; omega, by show _ ≤ 144; omega⟩ (Nat.le_of_ble_eq_true rfl) ?_
  clear hS hF n h
  intro n h hS hF
  refine V_istore_n 14 C dL_act_13 rfl (by decide) (L' := [(0, _), (1, _), (2, _), (3, _)]) rfl ?_
  refine V_aload_n 15 C dL_act_14 rfl rfl ?_
  refine V_iconst 16 C dL_act_15 rfl ic2 ?_
  refine V_iconst 17 C dL_act_16 rfl ic1 ?_
  refine V_iconst 18 C dL_act_17 rfl ic0 ?_
  refine V_iconst 19 C dL_act_18 rfl ic0 ?_
  refine V_q1 22 (8) (48) C hF dL_act_19 rfl mL_call.z tw250 (k_about l G _ _ hl x σ hS hI _ _ _ _ (v_ab (j := 1) (w := σ.1 1) (by omega) rfl)) rfl rfl ⟨Nat.le_of_ble_eq_true rfl, Nat.le_of_ble_eq_true rfl⟩ ⟨by omega, by omega⟩ ⟨by show _ ≤ 24; omega, by show _ ≤ 144; omega⟩ (Nat.le_of_ble_eq_true rfl) ?_
  clear hS hF n h
  intro n h hS hF
  refine V_istore 24 C dL_act_22 rfl (by decide) (L' := [(0, _), (1, _), (2, _), (3, _), (4, _)]) rfl ?_
  refine V_aload_n 25 C dL_act_24 rfl rfl ?_
  refine V_iconst 26 C dL_act_25 rfl ic2 ?_
  refine V_iconst 27 C dL_act_26 rfl ic2 ?_
  refine V_iconst 28 C dL_act_27 rfl ic0 ?_
  refine V_iconst 29 C dL_act_28 rfl ic0 ?_
  refine V_q1 32 (12) (72) C hF dL_act_29 rfl mL_call.z tw250 (k_about l G _ _ hl x σ hS hI _ _ _ _ (v_ab (j := 2) (w := σ.1 2) (by omega) rfl)) rfl rfl ⟨Nat.le_of_ble_eq_true rfl, Nat.le_of_ble_eq_true rfl⟩ ⟨by omega, by omega⟩ ⟨by show _ ≤ 24; omega, by show _ ≤ 144; omega⟩ (Nat.le_of_ble_eq_true rfl) ?_
  clear hS hF n h
  intro n h hS hF
  refine V_istore 34 C dL_act_32 rfl (by decide) (L' := [(0, _), (1, _), (2, _), (3, _), (4, _), (5, _)]) rfl ?_
  refine V_aload_n 35 C dL_act_34 rfl rfl ?_
  refine V_iconst 36 C dL_act_35 rfl ic2 ?_
  refine V_iconst 37 C dL_act_36 rfl ic4 ?_
  refine V_iconst 38 C dL_act_37 rfl ic0 ?_
  refine V_iconst 39 C dL_act_38 rfl ic0 ?_
  refine V_q1 42 (16) (96) C hF dL_act_39 rfl mL_call.z tw250 (k_about l G _ _ hl x σ hS hI _ _ _ _ (v_ab (j := 4) (w := σ.1 4) (by omega) rfl)) rfl rfl ⟨Nat.le_of_ble_eq_true rfl, Nat.le_of_ble_eq_true rfl⟩ ⟨by omega, by omega⟩ ⟨by show _ ≤ 24; omega, by show _ ≤ 144; omega⟩ (Nat.le_of_ble_eq_true rfl) ?_
  clear hS hF n h
  intro n h hS hF
  refine V_istore 44 C dL_act_42 rfl (by decide) (L' := [(0, _), (1, _), (2, _), (3, _), (4, _), (5, _), (6, _)]) rfl ?_
  refine V_iload_n 45 C dL_act_44 rfl rfl ?_
  refine V_iload_n 46 C dL_act_45 rfl rfl ?_
  refine V_iremN 47 C dL_act_46 rfl (by omega) (by omega) (by omega) ?_
  refine V_istore 49 C dL_act_47 rfl (by decide) (L' := [(0, _), (1, _), (2, _), (3, _), (4, _), (5, _), (6, _), (7, _)]) rfl ?_
  refine V_iload_n 50 C dL_act_49 rfl rfl ?_
  refine V_bipush 52 C dL_act_50 rfl bip6 ?_
  refine V_idivN 53 C dL_act_52 rfl (by omega) (by omega) (by omega) ?_
  refine V_iload 55 C dL_act_53 rfl rfl ?_
  refine V_iremN 56 C dL_act_55 rfl (by omega) (by omega) (by omega) ?_
  refine V_istore 58 C dL_act_56 rfl (by decide) (L' := [(0, _), (1, _), (2, _), (3, _), (4, _), (5, _), (6, _), (7, _), (8, _)]) rfl ?_
  refine V_iload_n 59 C dL_act_58 rfl rfl ?_
  refine V_bipush 61 C dL_act_59 rfl bip72 ?_
  refine V_idivN 62 C dL_act_61 rfl (by omega) (by omega) (by omega) ?_
  refine V_iload 64 C dL_act_62 rfl rfl ?_
  refine V_iremN 65 C dL_act_64 rfl (by omega) (by omega) (by omega) ?_
  refine V_istore 67 C dL_act_65 rfl (by decide) (L' := [(0, _), (1, _), (2, _), (3, _), (4, _), (5, _), (6, _), (7, _), (8, _), (9, _)]) rfl ?_
  refine V_iload_n 68 C dL_act_67 rfl rfl ?_
  refine V_bipush 70 C dL_act_68 rfl bip16 ?_
  refine V_iremN 71 C dL_act_70 rfl (by omega) (by omega) (by omega) ?_
  refine V_tableOut 353 C dL_act_71 (by rw [nI_toInt (by omega)]; right; omega) (by decide) ?_
  refine V_aload_n 354 C dL_act_353 rfl rfl ?_
  refine V_bipush 356 C dL_act_354 rfl bip15 ?_
  refine V_iconst 357 C dL_act_356 rfl ic1 ?_
  refine V_iload_n 358 C dL_act_357 rfl rfl ?_
  refine V_bipush 360 C dL_act_358 rfl bip12 ?_
  refine V_iremN 361 C dL_act_360 rfl (by omega) (by omega) (by omega) ?_
  refine V_iaddN 362 C dL_act_361 rfl  ?_
  refine V_iconst 363 C dL_act_362 rfl ic0 ?_
  refine V_iconst 364 C dL_act_363 rfl ic0 ?_
  refine V_q1 367 (20) (120) C hF dL_act_364 rfl mL_call.z tw250 (k_hours l G _ _ hl x σ hS hI _ _ _ _ hv9 _ hs9) rfl rfl ⟨Nat.le_of_ble_eq_true rfl, Nat.le_of_ble_eq_true rfl⟩ ⟨by omega, by omega⟩ ⟨by show _ ≤ 24; omega, by show _ ≤ 144; omega⟩ (Nat.le_of_ble_eq_true rfl) ?_
  clear hS hF n h
  intro n h hS hF
  refine V_ireturn C dL_act_367 rfl rfl (by omega) (by omega) ?_
  exact ⟨rfl, hS, hF⟩

theorem act_ex (l : Launch) (G : GT) (hl : l.stackTraces = false) (B : Nat) (hB : B < 2 ^ 30) (σ : St) (hJ : JS B σ) (X : Nat) (hX : X < 2 ^ 31) : ∃ (v9 : Int32) (σ9 : St), JS (B + 60) σ9 ∧ ∀ (n0 : Nat) (h0 : AH) (x : Nat) (hS0 : SC x σ h0), Ct l yL_act cL_act 10 (some .int) 11 24 144 G n0 h0 [.ref x, .int (nI X)] (PoS x h0 v9 σ9) := by
  have hI := hJ.si
  have hIv : Iv σ.1 := hI.1
  have hE := hJ.1.1
  have h3 := hJ.1.2
  have hb5 : σ.1 5 < 2 ^ 31 := by have := hE.2.2.2.2.1; omega
  by_cases h16 : X % 16 = 0
  · skip
    by_cases hc : X / 16 % 3 = 0
    · skip
      exact ⟨_, _, JS_act hJ ⟨(EA_tw hE).1.up (by omega), (EA_tw hE).2⟩ (ok_tw hIv _ _ _), fun n0 h0 x hS0 => c_act_0a l G n0 h0 hl x σ hS0 hI h3 hb5 X hX h16 hc _ rfl _ rfl⟩
    · skip
      exact ⟨_, _, JS_act hJ ⟨(EA_ru hE _).1.up (by omega), (EA_ru hE _).2⟩ (ok_ru hIv _ _ _ _), fun n0 h0 x hS0 => c_act_0b l G n0 h0 hl x σ hS0 hI h3 hb5 X hX h16 hc _ rfl _ rfl⟩
  by_cases h16 : X % 16 = 1
  · skip
    exact ⟨_, _, JS_act hJ ⟨(EA_rd hE _ _ _).1.up (by omega), (EA_rd hE _ _ _).2⟩ (ok_rd hIv _ _ _ _ _ _), fun n0 h0 x hS0 => c_act_1 l G n0 h0 hl x σ hS0 hI h3 hb5 X hX h16 _ rfl _ rfl⟩
  by_cases h16 : X % 16 = 2
  · skip
    exact ⟨_, _, JS_act hJ ⟨(EA_wr hE _ _ _).1.up (by omega), (EA_wr hE _ _ _).2⟩ (ok_wr hIv _ _ _ _ _ _), fun n0 h0 x hS0 => c_act_2 l G n0 h0 hl x σ hS0 hI h3 hb5 X hX h16 _ rfl _ rfl⟩
  by_cases h16 : X % 16 = 3
  · skip
    exact ⟨_, _, JS_act hJ ⟨(EA_tk hE _ _).1.up (by omega), (EA_tk hE _ _).2⟩ (ok_tk _ _ _ _ _), fun n0 h0 x hS0 => c_act_3 l G n0 h0 hl x σ hS0 hI h3 hb5 X hX h16 _ rfl _ rfl⟩
  by_cases h16 : X % 16 = 4
  · skip
    exact ⟨_, _, JS_act hJ ⟨(EA_tk hE _ _).1.up (by omega), (EA_tk hE _ _).2⟩ (ok_tk _ _ _ _ _), fun n0 h0 x hS0 => c_act_4 l G n0 h0 hl x σ hS0 hI h3 hb5 X hX h16 _ rfl _ rfl⟩
  by_cases h16 : X % 16 = 5
  · skip
    exact ⟨_, _, JS_act hJ ⟨(EA_ly hE _).1.up (by omega), (EA_ly hE _).2⟩ (ok_ly hIv _ _ _ _), fun n0 h0 x hS0 => c_act_5 l G n0 h0 hl x σ hS0 hI h3 hb5 X hX h16 _ rfl _ rfl⟩
  by_cases h16 : X % 16 = 6
  · skip
    by_cases hc : σ.1 1 = 0
    · skip
      exact ⟨_, _, hJ.up (by omega), fun n0 h0 x hS0 => c_act_6a l G n0 h0 hl x σ hS0 hI h3 hb5 X hX h16 hc⟩
    · skip
      exact ⟨_, _, JS_act hJ ⟨(EA_go hE _ _).1.up (by omega), (EA_go hE _ _).2⟩ (ok_go hIv _ _ _ _ _), fun n0 h0 x hS0 => c_act_6b l G n0 h0 hl x σ hS0 hI h3 hb5 X hX h16 hc _ rfl _ rfl⟩
  by_cases h16 : X % 16 = 7
  · skip
    by_cases hc : σ.1 1 = 0
    · skip
      exact ⟨_, _, hJ.up (by omega), fun n0 h0 x hS0 => c_act_7a l G n0 h0 hl x σ hS0 hI h3 hb5 X hX h16 hc⟩
    · skip
      exact ⟨_, _, JS_act hJ ⟨(EA_go hE _ _).1.up (by omega), (EA_go hE _ _).2⟩ (ok_go hIv _ _ _ _ _), fun n0 h0 x hS0 => c_act_7b l G n0 h0 hl x σ hS0 hI h3 hb5 X hX h16 hc _ rfl _ rfl⟩
  by_cases h16 : X % 16 = 8
  · skip
    exact ⟨_, _, JS_act hJ ⟨(EA_cp hE _ _).1.up (by omega), (EA_cp hE _ _).2⟩ (ok_cp _ _ _ _ _), fun n0 h0 x hS0 => c_act_8 l G n0 h0 hl x σ hS0 hI h3 hb5 X hX h16 _ rfl _ rfl⟩
  by_cases h16 : X % 16 = 9
  · skip
    exact ⟨_, _, JS_act hJ ⟨(EA_cp hE _ _).1.up (by omega), (EA_cp hE _ _).2⟩ (ok_cp _ _ _ _ _), fun n0 h0 x hS0 => c_act_9 l G n0 h0 hl x σ hS0 hI h3 hb5 X hX h16 _ rfl _ rfl⟩
  by_cases h16 : X % 16 = 10
  · skip
    exact ⟨_, _, JS_act hJ ⟨(EA_pr hE _ _ _ _).1.up (by omega), (EA_pr hE _ _ _ _).2⟩ (ok_pr _ _ _ _ _ _ _), fun n0 h0 x hS0 => c_act_10 l G n0 h0 hl x σ hS0 hI h3 hb5 X hX h16 _ rfl _ rfl⟩
  by_cases h16 : X % 16 = 11
  · skip
    by_cases hc : σ.1 5 < 2
    · skip
      exact ⟨_, _, hJ.up (by omega), fun n0 h0 x hS0 => c_act_11a l G n0 h0 hl x σ hS0 hI h3 hb5 X hX h16 hc⟩
    · skip
      exact ⟨_, _, (JS_undo hJ (by omega)).up (by omega), fun n0 h0 x hS0 => c_act_11b l G n0 h0 hl x σ hS0 hI h3 hb5 X hX h16 hc _ rfl _ rfl⟩
  by_cases h16 : X % 16 = 12
  · skip
    by_cases hc : X / 16 % 2 = 0
    · skip
      exact ⟨_, _, (JS_keep hJ _ _).up (by omega), fun n0 h0 x hS0 => c_act_12a l G n0 h0 hl x σ hS0 hI h3 hb5 X hX h16 hc _ rfl _ rfl⟩
    · skip
      exact ⟨_, _, (JS_back hJ).up (by omega), fun n0 h0 x hS0 => c_act_12b l G n0 h0 hl x σ hS0 hI h3 hb5 X hX h16 hc _ rfl _ rfl⟩
  have h16 : 13 ≤ X % 16 := by omega
  exact ⟨_, _, JS_act hJ (EA_hr hE _) (ok_hr hIv _ _ _ _), fun n0 h0 x hS0 => c_act_13 l G n0 h0 hl x σ hS0 hI h3 hb5 X hX h16 _ rfl _ rfl⟩
