/-! THE TEXT: the reference reads a command, and all -/
theorem rdP_v {m a N p0 o n : Nat} {rf sc : Int32} {T y : Nat → Nat} {h : AH} {v : Option Value} {n' : Nat} {h' : AH} (q : rdP m a N p0 o n rf sc T y h v n' h') : ∃ b, v = some (.int (nI b)) ∧ b ≤ 1 ∧ n = n' := by
  obtain ⟨e, ⟨-, hv, -⟩ | ⟨_, _, _, -, hv, -⟩⟩ := q
  · exact ⟨0, hv, by omega, e⟩
  · exact ⟨1, hv, by omega, e⟩
theorem rdP_mH {m a N p0 o n q : Nat} {rf sc : Int32} {T y : Nat → Nat} {h : AH} {v : Option Value} {n' : Nat} {h' : AH} (e : rdP m a N p0 o n rf sc T y (mH h m rf N sc q o) v n' h') : rdP m a N p0 o n rf sc T y h v n' h' := by
  obtain ⟨e0, ⟨e1, hv, e2⟩ | ⟨a1, b1, c1, e1, hv, e2⟩⟩ := e
  · exact ⟨e0, Or.inl ⟨e1, hv, by rw [e2, mH_mH]⟩⟩
  · exact ⟨e0, Or.inr ⟨a1, b1, c1, e1, hv, by rw [e2, mH_mH]⟩⟩
theorem nar_01 {b : Nat} (h : b ≤ 1) : narrow .boolean (.int (nI b)) = .int (nI b) := by
  rcases (by omega : b = 0 ∨ b = 1) with e | e <;> rw [e] <;> decide
theorem coms_le {y : Nat → Nat} (hI : Iv y) : ∀ k, coms y k ≤ 5 * k
  | 0 => Nat.le_refl _
  | k + 1 => by
    have h1 := coms_le hI k
    have h2 := comek_le (hrs y k) (hrs y k 2)
    have h3 := (Iv_hrs hI k).1.2.2.1
    simp only [coms]
    omega
/-- the reference's reader wherever it stands -/
def mx0 (m N : Nat) (rf sc sp ou : Int32) (T : Nat → Nat) (g : Nat → Int32) (h : AH) : Prop := N ≤ 120 ∧ h m = some (obM m rf (nI N) sc sp ou) ∧ h (m + 1) = some (aT g) ∧ ∀ i, i < N → g i = nI (T i) ∧ T i < 256
theorem mx0_mH {m N q o : Nat} {rf sc sp ou : Int32} {T : Nat → Nat} {g : Nat → Int32} {h : AH} (hT : mx0 m N rf sc sp ou T g h) (hq : q ≤ N) : mx m N q o rf sc T g (mH h m rf N sc q o) := by
  obtain ⟨h0, h1, h2, h3⟩ := hT
  exact ⟨⟨h0, hq⟩, up_s _ _ _, by unfold mH; rw [up_n _ (by omega)]; exact h2, h3⟩
theorem mHR {h : AH} {a m : Nat} (hne : ¬ a = m) (rf : Int32) (N : Nat) (sc : Int32) (q o : Nat) (y : Nat → Nat) : mH (HR h a y) m rf N sc q o = HR (mH h m rf N sc q o) a y := by
  funext k
  unfold mH HR
  by_cases e : k = a
  · subst e
    rw [up_n _ hne, up_s, up_s]
  · rw [up_n (q := k) (a := a) _ e]
    by_cases e2 : k = m
    · subst e2; rw [up_s, up_s]
    · rw [up_n _ e2, up_n _ e2, up_n _ e]
theorem rdP_u {m a N p p0 o n : Nat} {rf sc : Int32} {T y : Nat → Nat} {h : AH} {v : Option Value} {n' : Nat} {h' : AH} (hne : ¬ a = m) (q : rdP m a N p0 o n rf sc T y (HR (mH h m rf N sc p o) a y) v n' h') : n = n' ∧ ∃ b y2 o2, v = some (.int (nI b)) ∧ b ≤ 1 ∧ h' = HR (mH h m rf N sc (rcm T N p0).2 o2) a y2 ∧ ((b = 0 ∧ (rcm T N p0).1 = none ∧ y2 = y ∧ o2 = o) ∨ (b = 1 ∧ ∃ a1 b1 c1, (rcm T N p0).1 = some (a1, b1, c1) ∧ y2 = (gv (T p0) a1 b1 c1 y).2 ∧ o2 = o + bp ((gv (T p0) a1 b1 c1 y).1 = false))) := by
  obtain ⟨e, ⟨e1, hv, e2⟩ | ⟨a1, b1, c1, e1, hv, e2⟩⟩ := q
  · exact ⟨e, 0, y, o, hv, by omega, by rw [e2, mH_HR hne], Or.inl ⟨rfl, e1, rfl, rfl⟩⟩
  · exact ⟨e, 1, _, _, hv, by omega, by rw [e2, mH_HR hne, HR_HR], Or.inr ⟨rfl, a1, b1, c1, e1, rfl, rfl⟩⟩
theorem dX10_readCommand_0 : decode cX10_readCommand 0 = .ok (.aload_n 0, 1) := by decide +kernel
theorem dX10_readCommand_1 : decode cX10_readCommand 1 = .ok (.getfield 7, 3) := by decide +kernel
theorem dX10_readCommand_4 : decode cX10_readCommand 4 = .ok (.aload_n 0, 1) := by decide +kernel
theorem dX10_readCommand_5 : decode cX10_readCommand 5 = .ok (.getfield 128, 3) := by decide +kernel
theorem dX10_readCommand_8 : decode cX10_readCommand 8 = .ok (.iaload, 1) := by decide +kernel
theorem dX10_readCommand_9 : decode cX10_readCommand 9 = .ok (.istore_n 2, 1) := by decide +kernel
theorem dX10_readCommand_10 : decode cX10_readCommand 10 = .ok (.aload_n 0, 1) := by decide +kernel
theorem dX10_readCommand_11 : decode cX10_readCommand 11 = .ok (.dup, 1) := by decide +kernel
theorem dX10_readCommand_12 : decode cX10_readCommand 12 = .ok (.getfield 128, 3) := by decide +kernel
theorem dX10_readCommand_15 : decode cX10_readCommand 15 = .ok (.iconst 1, 1) := by decide +kernel
theorem dX10_readCommand_16 : decode cX10_readCommand 16 = .ok (.iadd, 1) := by decide +kernel
theorem dX10_readCommand_17 : decode cX10_readCommand 17 = .ok (.putfield 128, 3) := by decide +kernel
theorem dX10_readCommand_20 : decode cX10_readCommand 20 = .ok (.iload_n 2, 1) := by decide +kernel
theorem dX10_readCommand_21 : decode cX10_readCommand 21 = .ok (.tableswitch 301 99 119 #[253, 301, 301, 301, 247, 259, 301, 301, 188, 194, 301, 301, 301, 301, 301, 124, 301, 99, 130, 301, 182], 99) := by decide +kernel
theorem dX10_readCommand_120 : decode cX10_readCommand 120 = .ok (.aload_n 0, 1) := by decide +kernel
theorem dX10_readCommand_121 : decode cX10_readCommand 121 = .ok (.aload_n 1, 1) := by decide +kernel
theorem dX10_readCommand_122 : decode cX10_readCommand 122 = .ok (.iconst 0, 1) := by decide +kernel
theorem dX10_readCommand_123 : decode cX10_readCommand 123 = .ok (.iaload, 1) := by decide +kernel
theorem dX10_readCommand_124 : decode cX10_readCommand 124 = .ok (.bipush 6, 2) := by decide +kernel
theorem dX10_readCommand_126 : decode cX10_readCommand 126 = .ok (.if_icmp .ge 14, 3) := by decide +kernel
theorem dX10_readCommand_129 : decode cX10_readCommand 129 = .ok (.aload_n 1, 1) := by decide +kernel
theorem dX10_readCommand_130 : decode cX10_readCommand 130 = .ok (.invokestatic 190, 3) := by decide +kernel
theorem dX10_readCommand_133 : decode cX10_readCommand 133 = .ok (.ifCond .lt 7, 3) := by decide +kernel
theorem dX10_readCommand_136 : decode cX10_readCommand 136 = .ok (.iconst 1, 1) := by decide +kernel
theorem dX10_readCommand_137 : decode cX10_readCommand 137 = .ok (.goto 4, 3) := by decide +kernel
theorem dX10_readCommand_140 : decode cX10_readCommand 140 = .ok (.iconst 0, 1) := by decide +kernel
theorem dX10_readCommand_141 : decode cX10_readCommand 141 = .ok (.invokevirtual 147, 3) := by decide +kernel
theorem dX10_readCommand_144 : decode cX10_readCommand 144 = .ok (.ireturn, 1) := by decide +kernel
theorem dX10_readCommand_145 : decode cX10_readCommand 145 = .ok (.aload_n 0, 1) := by decide +kernel
theorem dX10_readCommand_146 : decode cX10_readCommand 146 = .ok (.aload_n 1, 1) := by decide +kernel
theorem dX10_readCommand_147 : decode cX10_readCommand 147 = .ok (.invokevirtual 193, 3) := by decide +kernel
theorem dX10_readCommand_150 : decode cX10_readCommand 150 = .ok (.ireturn, 1) := by decide +kernel
theorem dX10_readCommand_151 : decode cX10_readCommand 151 = .ok (.aload_n 0, 1) := by decide +kernel
theorem dX10_readCommand_152 : decode cX10_readCommand 152 = .ok (.iconst 0, 1) := by decide +kernel
theorem dX10_readCommand_153 : decode cX10_readCommand 153 = .ok (.invokevirtual 138, 3) := by decide +kernel
theorem dX10_readCommand_156 : decode cX10_readCommand 156 = .ok (.istore_n 3, 1) := by decide +kernel
theorem dX10_readCommand_157 : decode cX10_readCommand 157 = .ok (.iload_n 3, 1) := by decide +kernel
theorem dX10_readCommand_158 : decode cX10_readCommand 158 = .ok (.iconst (-1), 1) := by decide +kernel
theorem dX10_readCommand_159 : decode cX10_readCommand 159 = .ok (.if_icmp .eq 42, 3) := by decide +kernel
theorem dX10_readCommand_162 : decode cX10_readCommand 162 = .ok (.aload_n 0, 1) := by decide +kernel
theorem dX10_readCommand_163 : decode cX10_readCommand 163 = .ok (.aload_n 1, 1) := by decide +kernel
theorem dX10_readCommand_164 : decode cX10_readCommand 164 = .ok (.iload_n 3, 1) := by decide +kernel
theorem dX10_readCommand_165 : decode cX10_readCommand 165 = .ok (.invokestatic 94, 3) := by decide +kernel
theorem dX10_readCommand_168 : decode cX10_readCommand 168 = .ok (.ifCond .eq 22, 3) := by decide +kernel
theorem dX10_readCommand_171 : decode cX10_readCommand 171 = .ok (.aload_n 1, 1) := by decide +kernel
theorem dX10_readCommand_172 : decode cX10_readCommand 172 = .ok (.iconst 2, 1) := by decide +kernel
theorem dX10_readCommand_173 : decode cX10_readCommand 173 = .ok (.iaload, 1) := by decide +kernel
theorem dX10_readCommand_174 : decode cX10_readCommand 174 = .ok (.iconst 5, 1) := by decide +kernel
theorem dX10_readCommand_175 : decode cX10_readCommand 175 = .ok (.if_icmp .ge 15, 3) := by decide +kernel
theorem dX10_readCommand_178 : decode cX10_readCommand 178 = .ok (.aload_n 1, 1) := by decide +kernel
theorem dX10_readCommand_179 : decode cX10_readCommand 179 = .ok (.iload_n 3, 1) := by decide +kernel
theorem dX10_readCommand_180 : decode cX10_readCommand 180 = .ok (.invokestatic 196, 3) := by decide +kernel
theorem dX10_readCommand_183 : decode cX10_readCommand 183 = .ok (.ifCond .lt 7, 3) := by decide +kernel
theorem dX10_readCommand_186 : decode cX10_readCommand 186 = .ok (.iconst 1, 1) := by decide +kernel
theorem dX10_readCommand_187 : decode cX10_readCommand 187 = .ok (.goto 4, 3) := by decide +kernel
theorem dX10_readCommand_190 : decode cX10_readCommand 190 = .ok (.iconst 0, 1) := by decide +kernel
theorem dX10_readCommand_191 : decode cX10_readCommand 191 = .ok (.invokevirtual 147, 3) := by decide +kernel
theorem dX10_readCommand_194 : decode cX10_readCommand 194 = .ok (.ifCond .eq 7, 3) := by decide +kernel
theorem dX10_readCommand_197 : decode cX10_readCommand 197 = .ok (.iconst 1, 1) := by decide +kernel
theorem dX10_readCommand_198 : decode cX10_readCommand 198 = .ok (.goto 4, 3) := by decide +kernel
theorem dX10_readCommand_201 : decode cX10_readCommand 201 = .ok (.iconst 0, 1) := by decide +kernel
theorem dX10_readCommand_202 : decode cX10_readCommand 202 = .ok (.ireturn, 1) := by decide +kernel
theorem dX10_readCommand_203 : decode cX10_readCommand 203 = .ok (.aload_n 0, 1) := by decide +kernel
theorem dX10_readCommand_204 : decode cX10_readCommand 204 = .ok (.aload_n 1, 1) := by decide +kernel
theorem dX10_readCommand_205 : decode cX10_readCommand 205 = .ok (.invokevirtual 199, 3) := by decide +kernel
theorem dX10_readCommand_208 : decode cX10_readCommand 208 = .ok (.ireturn, 1) := by decide +kernel
theorem dX10_readCommand_209 : decode cX10_readCommand 209 = .ok (.aload_n 0, 1) := by decide +kernel
theorem dX10_readCommand_210 : decode cX10_readCommand 210 = .ok (.aload_n 1, 1) := by decide +kernel
theorem dX10_readCommand_211 : decode cX10_readCommand 211 = .ok (.invokevirtual 202, 3) := by decide +kernel
theorem dX10_readCommand_214 : decode cX10_readCommand 214 = .ok (.ireturn, 1) := by decide +kernel
theorem dX10_readCommand_215 : decode cX10_readCommand 215 = .ok (.aload_n 0, 1) := by decide +kernel
theorem dX10_readCommand_216 : decode cX10_readCommand 216 = .ok (.iconst 0, 1) := by decide +kernel
theorem dX10_readCommand_217 : decode cX10_readCommand 217 = .ok (.invokevirtual 163, 3) := by decide +kernel
theorem dX10_readCommand_220 : decode cX10_readCommand 220 = .ok (.istore_n 3, 1) := by decide +kernel
theorem dX10_readCommand_221 : decode cX10_readCommand 221 = .ok (.iload_n 3, 1) := by decide +kernel
theorem dX10_readCommand_222 : decode cX10_readCommand 222 = .ok (.iconst (-1), 1) := by decide +kernel
theorem dX10_readCommand_223 : decode cX10_readCommand 223 = .ok (.if_icmp .eq 43, 3) := by decide +kernel
theorem dX10_readCommand_226 : decode cX10_readCommand 226 = .ok (.aload_n 0, 1) := by decide +kernel
theorem dX10_readCommand_227 : decode cX10_readCommand 227 = .ok (.aload_n 1, 1) := by decide +kernel
theorem dX10_readCommand_228 : decode cX10_readCommand 228 = .ok (.iload_n 3, 1) := by decide +kernel
theorem dX10_readCommand_229 : decode cX10_readCommand 229 = .ok (.invokestatic 169, 3) := by decide +kernel
theorem dX10_readCommand_232 : decode cX10_readCommand 232 = .ok (.ifCond .eq 23, 3) := by decide +kernel
theorem dX10_readCommand_235 : decode cX10_readCommand 235 = .ok (.aload_n 1, 1) := by decide +kernel
theorem dX10_readCommand_236 : decode cX10_readCommand 236 = .ok (.iload_n 3, 1) := by decide +kernel
theorem dX10_readCommand_237 : decode cX10_readCommand 237 = .ok (.invokestatic 205, 3) := by decide +kernel
theorem dX10_readCommand_240 : decode cX10_readCommand 240 = .ok (.ifCond .eq 15, 3) := by decide +kernel
theorem dX10_readCommand_243 : decode cX10_readCommand 243 = .ok (.aload_n 1, 1) := by decide +kernel
theorem dX10_readCommand_244 : decode cX10_readCommand 244 = .ok (.iload_n 3, 1) := by decide +kernel
theorem dX10_readCommand_245 : decode cX10_readCommand 245 = .ok (.invokestatic 208, 3) := by decide +kernel
theorem dX10_readCommand_248 : decode cX10_readCommand 248 = .ok (.ifCond .lt 7, 3) := by decide +kernel
theorem dX10_readCommand_251 : decode cX10_readCommand 251 = .ok (.iconst 1, 1) := by decide +kernel
theorem dX10_readCommand_252 : decode cX10_readCommand 252 = .ok (.goto 4, 3) := by decide +kernel
theorem dX10_readCommand_255 : decode cX10_readCommand 255 = .ok (.iconst 0, 1) := by decide +kernel
theorem dX10_readCommand_256 : decode cX10_readCommand 256 = .ok (.invokevirtual 147, 3) := by decide +kernel
theorem dX10_readCommand_259 : decode cX10_readCommand 259 = .ok (.ifCond .eq 7, 3) := by decide +kernel
theorem dX10_readCommand_262 : decode cX10_readCommand 262 = .ok (.iconst 1, 1) := by decide +kernel
theorem dX10_readCommand_263 : decode cX10_readCommand 263 = .ok (.goto 4, 3) := by decide +kernel
theorem dX10_readCommand_266 : decode cX10_readCommand 266 = .ok (.iconst 0, 1) := by decide +kernel
theorem dX10_readCommand_267 : decode cX10_readCommand 267 = .ok (.ireturn, 1) := by decide +kernel
theorem dX10_readCommand_268 : decode cX10_readCommand 268 = .ok (.aload_n 0, 1) := by decide +kernel
theorem dX10_readCommand_269 : decode cX10_readCommand 269 = .ok (.aload_n 1, 1) := by decide +kernel
theorem dX10_readCommand_270 : decode cX10_readCommand 270 = .ok (.invokevirtual 211, 3) := by decide +kernel
theorem dX10_readCommand_273 : decode cX10_readCommand 273 = .ok (.ireturn, 1) := by decide +kernel
theorem dX10_readCommand_274 : decode cX10_readCommand 274 = .ok (.aload_n 0, 1) := by decide +kernel
theorem dX10_readCommand_275 : decode cX10_readCommand 275 = .ok (.aload_n 1, 1) := by decide +kernel
theorem dX10_readCommand_276 : decode cX10_readCommand 276 = .ok (.invokevirtual 214, 3) := by decide +kernel
theorem dX10_readCommand_279 : decode cX10_readCommand 279 = .ok (.ireturn, 1) := by decide +kernel
theorem dX10_readCommand_280 : decode cX10_readCommand 280 = .ok (.aload_n 0, 1) := by decide +kernel
theorem dX10_readCommand_281 : decode cX10_readCommand 281 = .ok (.iconst 0, 1) := by decide +kernel
theorem dX10_readCommand_282 : decode cX10_readCommand 282 = .ok (.bipush 10, 2) := by decide +kernel
theorem dX10_readCommand_284 : decode cX10_readCommand 284 = .ok (.iconst 1, 1) := by decide +kernel
theorem dX10_readCommand_285 : decode cX10_readCommand 285 = .ok (.bipush 60, 2) := by decide +kernel
theorem dX10_readCommand_287 : decode cX10_readCommand 287 = .ok (.invokevirtual 134, 3) := by decide +kernel
theorem dX10_readCommand_290 : decode cX10_readCommand 290 = .ok (.istore_n 3, 1) := by decide +kernel
theorem dX10_readCommand_291 : decode cX10_readCommand 291 = .ok (.iload_n 3, 1) := by decide +kernel
theorem dX10_readCommand_292 : decode cX10_readCommand 292 = .ok (.iconst (-1), 1) := by decide +kernel
theorem dX10_readCommand_293 : decode cX10_readCommand 293 = .ok (.if_icmp .eq 27, 3) := by decide +kernel
theorem dX10_readCommand_296 : decode cX10_readCommand 296 = .ok (.aload_n 0, 1) := by decide +kernel
theorem dX10_readCommand_297 : decode cX10_readCommand 297 = .ok (.aload_n 1, 1) := by decide +kernel
theorem dX10_readCommand_298 : decode cX10_readCommand 298 = .ok (.iload_n 3, 1) := by decide +kernel
theorem dX10_readCommand_299 : decode cX10_readCommand 299 = .ok (.invokestatic 217, 3) := by decide +kernel
theorem dX10_readCommand_302 : decode cX10_readCommand 302 = .ok (.ifCond .lt 7, 3) := by decide +kernel
theorem dX10_readCommand_305 : decode cX10_readCommand 305 = .ok (.iconst 1, 1) := by decide +kernel
theorem dX10_readCommand_306 : decode cX10_readCommand 306 = .ok (.goto 4, 3) := by decide +kernel
theorem dX10_readCommand_309 : decode cX10_readCommand 309 = .ok (.iconst 0, 1) := by decide +kernel
theorem dX10_readCommand_310 : decode cX10_readCommand 310 = .ok (.invokevirtual 147, 3) := by decide +kernel
theorem dX10_readCommand_313 : decode cX10_readCommand 313 = .ok (.ifCond .eq 7, 3) := by decide +kernel
theorem dX10_readCommand_316 : decode cX10_readCommand 316 = .ok (.iconst 1, 1) := by decide +kernel
theorem dX10_readCommand_317 : decode cX10_readCommand 317 = .ok (.goto 4, 3) := by decide +kernel
theorem dX10_readCommand_320 : decode cX10_readCommand 320 = .ok (.iconst 0, 1) := by decide +kernel
theorem dX10_readCommand_321 : decode cX10_readCommand 321 = .ok (.ireturn, 1) := by decide +kernel
theorem dX10_readCommand_322 : decode cX10_readCommand 322 = .ok (.aload_n 0, 1) := by decide +kernel
theorem dX10_readCommand_323 : decode cX10_readCommand 323 = .ok (.dup, 1) := by decide +kernel
theorem dX10_readCommand_324 : decode cX10_readCommand 324 = .ok (.getfield 128, 3) := by decide +kernel
theorem dX10_readCommand_327 : decode cX10_readCommand 327 = .ok (.iconst 1, 1) := by decide +kernel
theorem dX10_readCommand_328 : decode cX10_readCommand 328 = .ok (.isub, 1) := by decide +kernel
theorem dX10_readCommand_329 : decode cX10_readCommand 329 = .ok (.putfield 128, 3) := by decide +kernel
theorem dX10_readCommand_332 : decode cX10_readCommand 332 = .ok (.iconst 0, 1) := by decide +kernel
theorem dX10_readCommand_333 : decode cX10_readCommand 333 = .ok (.ireturn, 1) := by decide +kernel
set_option maxRecDepth 100000 in
set_option maxHeartbeats 4000000 in
theorem c_X10_readCommand (l : Launch) (G : GT) (n : Nat) (h : AH) (m N p0 o : Nat) (rf sc : Int32) (T : Nat → Nat) (g : Nat → Int32) (hT : mx m N p0 o rf sc T g h) (a : Nat) (y : Nat → Nat) (hx : Row a y h) (hI : Iv y) (hne : ¬ a = m) (hne1 : ¬ a = m + 1) (hp : p0 < N) : Ct l yX10_readCommand cX10_readCommand 4 (some .boolean) 8 0 0 G n h [.ref m, .ref a] (rdP m a N p0 o n rf sc T y h) := by
  obtain ⟨⟨hN, hpN⟩, hm, hg, hch⟩ := id hT
  have NE := NO_eq
  obtain ⟨⟨i0, i1, i2, i3, i4⟩, iR, iU, iM, iS⟩ := id hI
  obtain ⟨hg0, hT0⟩ := hch p0 hp
  refine Ct_of mX10_readCommand.1 (Nat.le_of_ble_eq_true rfl) ?_
  intro p₀ e₀ s₀ m₀ as₀ bl₀ me₀ c₀ C hin
  refine V_Le (L' := [(0, .ref m), (1, .ref a)]) rfl ?_
  refine V_aload_n 1 C dX10_readCommand_0 rfl rfl ?_
  refine V_get (k := 1) 4 C dX10_readCommand_1 rfl fcX10 tw937 (by decide) rfl hm rfl ?_
  refine V_aload_n 5 C dX10_readCommand_4 rfl rfl ?_
  refine V_get (k := 10) 8 C dX10_readCommand_5 rfl fcX10 tw946 (by decide) rfl hm rfl ?_
  refine V_iald (j := p0) 9 C dX10_readCommand_8 rfl hg rfl (by omega) (by omega) ?_
  rw [hg0]
  refine V_istore_n 10 C dX10_readCommand_9 rfl (by decide) (L' := [(0, _), (1, _), (2, _)]) rfl ?_
  refine V_aload_n 11 C dX10_readCommand_10 rfl rfl ?_
  refine V_dup 12 C dX10_readCommand_11 rfl rfl ?_
  refine V_get (k := 10) 15 C dX10_readCommand_12 rfl fcX10 tw946 (by decide) rfl hm rfl ?_
  refine V_iconst 16 C dX10_readCommand_15 rfl ic1 ?_
  refine V_iaddN 17 C dX10_readCommand_16 rfl  ?_
  refine V_put (fs' := [_, _, _, _, _, _, _, _, _, _, _, _]) (k := 10) 20 C dX10_readCommand_17 rfl fcX10 tw946 (by decide) rfl rfl hm rfl rfl (Nat.le_of_ble_eq_true rfl) rfl ?_
  rw [show (up h m (obM m rf (nI N) sc (nI (p0 + 1)) (nI o))) = mH h m rf N sc (p0 + 1) o from rfl]
  have hT1 : mx m N (p0 + 1) o rf sc T g (mH h m rf N sc (p0 + 1) o) := mH_mx hT (by omega)
  have hx1 : Row a y (mH h m rf N sc (p0 + 1) o) := mH_row hx hne
  refine V_iload_n 21 C dX10_readCommand_20 rfl rfl ?_
  refine V_case 99 (fun c21_99 => ?_) (fun n21_99 => ?_)
  · refine V_tsI 274 C dX10_readCommand_21 c21_99 (by decide) (by decide) (by decide) rfl (by decide) ?_
    refine V_aload_n 275 C dX10_readCommand_274 rfl rfl ?_
    refine V_aload_n 276 C dX10_readCommand_275 rfl rfl ?_
    refine V_callV 279 C dX10_readCommand_276 rfl mX10_readCopy tw1113 fcX10 hT1.2.1 (c_X10_readCopy l G _ _ m N p0 o rf sc T g hT1 a y hx1 hI hne hne1 c21_99) rfl rfl (by decide) ⟨by omega, by omega⟩ (Nat.le_of_ble_eq_true rfl) ?_
    intro v9 n9 h9 hq9
    obtain ⟨b9, rfl, hb9, rfl⟩ := rdP_v hq9
    refine V_ireturn C dX10_readCommand_279 rfl (nar_01 hb9) (by omega) (by omega) ?_
    exact (rdP_mH hq9)
  · skip
    refine V_case 103 (fun c21_103 => ?_) (fun n21_103 => ?_)
    · refine V_tsI 268 C dX10_readCommand_21 c21_103 (by decide) (by decide) (by decide) rfl (by decide) ?_
      refine V_aload_n 269 C dX10_readCommand_268 rfl rfl ?_
      refine V_aload_n 270 C dX10_readCommand_269 rfl rfl ?_
      refine V_callV 273 C dX10_readCommand_270 rfl mX10_readGo tw1097 fcX10 hT1.2.1 (c_X10_readGo l G _ _ m N p0 o rf sc T g hT1 a y hx1 hI hne hne1 c21_103) rfl rfl (by decide) ⟨by omega, by omega⟩ (Nat.le_of_ble_eq_true rfl) ?_
      intro v9 n9 h9 hq9
      obtain ⟨b9, rfl, hb9, rfl⟩ := rdP_v hq9
      refine V_ireturn C dX10_readCommand_273 rfl (nar_01 hb9) (by omega) (by omega) ?_
      exact (rdP_mH hq9)
    · skip
      refine V_case 104 (fun c21_104 => ?_) (fun n21_104 => ?_)
      · refine V_tsI 280 C dX10_readCommand_21 c21_104 (by decide) (by decide) (by decide) rfl (by decide) ?_
        refine V_aload_n 281 C dX10_readCommand_280 rfl rfl ?_
        refine V_iconst 282 C dX10_readCommand_281 rfl ic0 ?_
        refine V_bipush 284 C dX10_readCommand_282 rfl bip10 ?_
        refine V_iconst 285 C dX10_readCommand_284 rfl ic1 ?_
        refine V_bipush 287 C dX10_readCommand_285 rfl bip60 ?_
        refine V_callV 290 C dX10_readCommand_287 rfl mX10_figures tw1020 fcX10 hT1.2.1 (c_X10_figures l G _ _ m N (p0 + 1) o rf sc T g hT1 0 2 1 60 (Or.inr (by decide)) (by omega) (by omega) (by omega) (by omega)) rfl rfl (by decide) ⟨by omega, by omega⟩ (Nat.le_of_ble_eq_true rfl) ?_
        rintro _ _ _ ⟨rfl, rfl, rfl⟩
        rw [mH_mH]
        obtain ⟨r1, er1⟩ : ∃ r, r = fg T N 1 60 2 0 (p0 + 1) := ⟨_, rfl⟩
        rw [← er1]
        have hq1 : r1.2 ≤ N := by rw [er1]; exact (fg_q (by omega)).2
        have ho1 : ona r1.1 = NO ∨ ona r1.1 < 2 ^ 31 := by rw [er1]; exact fg_o (by omega) (by omega)
        have hT2 : mx m N r1.2 o rf sc T g (mH h m rf N sc r1.2 o) := mH_mx hT hq1
        have hx2 : Row a y (mH h m rf N sc r1.2 o) := mH_row hx hne
        refine V_istore_n 291 C dX10_readCommand_290 rfl (by decide) (L' := [(0, _), (1, _), (2, _), (3, _)]) rfl ?_
        refine V_iload_n 292 C dX10_readCommand_291 rfl rfl ?_
        refine V_iconst 293 C dX10_readCommand_292 rfl icm1 ?_
        refine V_icmp_eqN 320 296 C dX10_readCommand_293 (by decide) rfl (by omega) (by omega) (fun c293 => ?_) (fun c293 => ?_)
        · have hR : rcm T N p0 = (none, r1.2) := by
            rw [rcm_h c21_104]
            rcases ch1' er1 (by omega) (by omega) with ⟨-, g2⟩ | ⟨a1, gb, g1, -⟩
            · exact g2
            · exfalso; omega
          refine V_iconst 321 C dX10_readCommand_320 rfl ic0 ?_
          refine V_ireturn C dX10_readCommand_321 rfl (by decide) (by omega) (by omega) ?_
          first | exact rdP_n hR | exact rdP_f hx hne hR hg | exact rdP_t hR hg
        · obtain ⟨a1, ba, ga, hR⟩ : ∃ a, (1 ≤ a ∧ a ≤ 60) ∧ ona r1.1 = a ∧ rcm T N p0 = (some (a, 0, 0), r1.2) := by
            rw [rcm_h c21_104]
            rcases ch1' er1 (by omega) (by omega) with ⟨g1, -⟩ | g
            · exact absurd g1 c293
            · exact g
          rw [ga]
          have za := zn (show a1 < 2 ^ 31 by omega)
          have hcm := coms_le hI a1
          have hin : 1 ≤ (nI a1).toInt ∧ (nI a1).toInt ≤ 60 := by rw [nI_toInt (by omega)]; omega
          refine V_aload_n 297 C dX10_readCommand_296 rfl rfl ?_
          refine V_aload_n 298 C dX10_readCommand_297 rfl rfl ?_
          refine V_iload_n 299 C dX10_readCommand_298 rfl rfl ?_
          refine V_callS 302 C dX10_readCommand_299 rfl mX10_hoursOn tw1141 (c_X10_hoursOn l G _ _ a y hx2 hI a1 (by omega)) rfl rfl (by decide) ⟨by omega, by omega⟩ (Nat.le_of_ble_eq_true rfl) ?_
          rintro _ _ _ ⟨rfl, rfl, rfl⟩
          refine V_if_ltN 309 305 C dX10_readCommand_302 (by decide) rfl (by omega) (fun c302 => ?_) (fun c302 => ?_)
          · exact c302.elim
          · have hg : gv (T p0) a1 0 0 y = (true, hrs y a1) := by rw [gv_h (by omega)]; unfold aHr; rw [if_pos hin, za, okn (by omega)]
            have hTd := mx_HR (y := hrs y a1) hT2 hne hne1
            refine V_iconst 306 C dX10_readCommand_305 rfl ic1 ?_
            refine V_goto 310 C dX10_readCommand_306 (by decide) ?_
            refine V_callV 313 C dX10_readCommand_310 rfl mX10_done tw1008 fcX10 hTd.2.1 (c_X10_done l G _ _ m N _ o rf sc T g hTd _ (by omega)) rfl rfl (by decide) ⟨by omega, by omega⟩ (Nat.le_of_ble_eq_true rfl) ?_
            rintro _ _ _ ⟨rfl, rfl, rfl⟩
            first | rw [mH_mH] | rw [mH_HR hne]
            refine V_if_eqN 320 316 C dX10_readCommand_313 (by decide) rfl (by omega) (fun c313 => ?_) (fun c313 => ?_)
            · exact absurd c313 (by decide)
            · refine V_iconst 317 C dX10_readCommand_316 rfl ic1 ?_
              refine V_goto 321 C dX10_readCommand_317 (by decide) ?_
              refine V_ireturn C dX10_readCommand_321 rfl (by decide) (by omega) (by omega) ?_
              first | exact rdP_n hR | exact rdP_f hx hne hR hg | exact rdP_t hR hg
      · skip
        refine V_case 107 (fun c21_107 => ?_) (fun n21_107 => ?_)
        · refine V_tsI 209 C dX10_readCommand_21 c21_107 (by decide) (by decide) (by decide) rfl (by decide) ?_
          refine V_aload_n 210 C dX10_readCommand_209 rfl rfl ?_
          refine V_aload_n 211 C dX10_readCommand_210 rfl rfl ?_
          refine V_callV 214 C dX10_readCommand_211 rfl mX10_readTake tw1052 fcX10 hT1.2.1 (c_X10_readTake l G _ _ m N p0 o rf sc T g hT1 a y hx1 hI hne hne1 c21_107) rfl rfl (by decide) ⟨by omega, by omega⟩ (Nat.le_of_ble_eq_true rfl) ?_
          intro v9 n9 h9 hq9
          obtain ⟨b9, rfl, hb9, rfl⟩ := rdP_v hq9
          refine V_ireturn C dX10_readCommand_214 rfl (nar_01 hb9) (by omega) (by omega) ?_
          exact (rdP_mH hq9)
        · skip
          refine V_case 108 (fun c21_108 => ?_) (fun n21_108 => ?_)
          · refine V_tsI 215 C dX10_readCommand_21 c21_108 (by decide) (by decide) (by decide) rfl (by decide) ?_
            refine V_aload_n 216 C dX10_readCommand_215 rfl rfl ?_
            refine V_iconst 217 C dX10_readCommand_216 rfl ic0 ?_
            refine V_callV 220 C dX10_readCommand_217 rfl mX10_sheetSign tw1060 fcX10 hT1.2.1 (c_X10_sheetSign l G _ _ m N (p0 + 1) o rf sc T g hT1 0 (Or.inr (by decide))) rfl rfl (by decide) ⟨by omega, by omega⟩ (Nat.le_of_ble_eq_true rfl) ?_
            rintro _ _ _ ⟨rfl, rfl, rfl⟩
            rw [mH_mH]
            obtain ⟨r1, er1⟩ : ∃ r, r = fg T N 0 11 2 0 (p0 + 1) := ⟨_, rfl⟩
            rw [← er1]
            have hq1 : r1.2 ≤ N := by rw [er1]; exact (fg_q (by omega)).2
            have ho1 : ona r1.1 = NO ∨ ona r1.1 < 2 ^ 31 := by rw [er1]; exact fg_o (by omega) (by omega)
            have hT2 : mx m N r1.2 o rf sc T g (mH h m rf N sc r1.2 o) := mH_mx hT hq1
            have hx2 : Row a y (mH h m rf N sc r1.2 o) := mH_row hx hne
            refine V_istore_n 221 C dX10_readCommand_220 rfl (by decide) (L' := [(0, _), (1, _), (2, _), (3, _)]) rfl ?_
            refine V_iload_n 222 C dX10_readCommand_221 rfl rfl ?_
            refine V_iconst 223 C dX10_readCommand_222 rfl icm1 ?_
            refine V_icmp_eqN 266 226 C dX10_readCommand_223 (by decide) rfl (by omega) (by omega) (fun c223 => ?_) (fun c223 => ?_)
            · have hR : rcm T N p0 = (none, r1.2) := by
                rw [rcm_l c21_108]
                rcases ch1' er1 (by omega) (by omega) with ⟨-, g2⟩ | ⟨a1, gb, g1, -⟩
                · exact g2
                · exfalso; omega
              refine V_iconst 267 C dX10_readCommand_266 rfl ic0 ?_
              refine V_ireturn C dX10_readCommand_267 rfl (by decide) (by omega) (by omega) ?_
              first | exact rdP_n hR | exact rdP_f hx hne hR hg | exact rdP_t hR hg
            · obtain ⟨a1, ba, ga, hR⟩ : ∃ a, (0 ≤ a ∧ a ≤ 11) ∧ ona r1.1 = a ∧ rcm T N p0 = (some (a, 0, 0), r1.2) := by
                rw [rcm_l c21_108]
                rcases ch1' er1 (by omega) (by omega) with ⟨g1, -⟩ | g
                · exact absurd g1 c223
                · exact g
              rw [ga]
              have za := zn (show a1 < 2 ^ 31 by omega)
              refine V_aload_n 227 C dX10_readCommand_226 rfl rfl ?_
              refine V_aload_n 228 C dX10_readCommand_227 rfl rfl ?_
              refine V_iload_n 229 C dX10_readCommand_228 rfl rfl ?_
              refine V_callS 232 C dX10_readCommand_229 rfl mX10_isSheet tw1067 (c_X10_isSheet l G _ _ a y hx2 hI (nI a1)) rfl rfl (by decide) ⟨by omega, by omega⟩ (Nat.le_of_ble_eq_true rfl) ?_
              rintro _ _ _ ⟨rfl, rfl, rfl⟩
              refine V_if_eqB 255 235 C dX10_readCommand_232 (by decide) rfl  (fun c232 => ?_) (fun c232 => ?_)
              · have hg : gv (T p0) a1 0 0 y = (false, y) := by rw [gv_l c21_108]; unfold aLy; rw [if_neg c232, okN]
                have hTd := hT2
                refine V_iconst 256 C dX10_readCommand_255 rfl ic0 ?_
                refine V_callV 259 C dX10_readCommand_256 rfl mX10_done tw1008 fcX10 hTd.2.1 (c_X10_done l G _ _ m N _ o rf sc T g hTd _ (by omega)) rfl rfl (by decide) ⟨by omega, by omega⟩ (Nat.le_of_ble_eq_true rfl) ?_
                rintro _ _ _ ⟨rfl, rfl, rfl⟩
                first | rw [mH_mH] | rw [mH_HR hne]
                refine V_if_eqN 266 262 C dX10_readCommand_259 (by decide) rfl (by omega) (fun c259 => ?_) (fun c259 => ?_)
                · exact absurd c259 (by decide)
                · refine V_iconst 263 C dX10_readCommand_262 rfl ic1 ?_
                  refine V_goto 267 C dX10_readCommand_263 (by decide) ?_
                  refine V_ireturn C dX10_readCommand_267 rfl (by decide) (by omega) (by omega) ?_
                  first | exact rdP_n hR | exact rdP_f hx hne hR hg | exact rdP_t hR hg
              · have ia : a1 < y 4 := (ix_nI (by omega)).mp c232
                refine V_aload_n 236 C dX10_readCommand_235 rfl rfl ?_
                refine V_iload_n 237 C dX10_readCommand_236 rfl rfl ?_
                refine V_callS 240 C dX10_readCommand_237 rfl mX10_canLay tw1091 (c_X10_canLay l G _ _ a y hx2 hI a1 ia) rfl rfl (by decide) ⟨by omega, by omega⟩ (Nat.le_of_ble_eq_true rfl) ?_
                rintro _ _ _ ⟨rfl, rfl, rfl⟩
                refine V_if_eqB 255 243 C dX10_readCommand_240 (by decide) rfl  (fun c240 => ?_) (fun c240 => ?_)
                · have hg : gv (T p0) a1 0 0 y = (false, y) := by rw [gv_l c21_108]; unfold aLy; rw [if_pos c232, za, if_neg c240, okW]
                  have hTd := hT2
                  refine V_iconst 256 C dX10_readCommand_255 rfl ic0 ?_
                  refine V_callV 259 C dX10_readCommand_256 rfl mX10_done tw1008 fcX10 hTd.2.1 (c_X10_done l G _ _ m N _ o rf sc T g hTd _ (by omega)) rfl rfl (by decide) ⟨by omega, by omega⟩ (Nat.le_of_ble_eq_true rfl) ?_
                  rintro _ _ _ ⟨rfl, rfl, rfl⟩
                  first | rw [mH_mH] | rw [mH_HR hne]
                  refine V_if_eqN 266 262 C dX10_readCommand_259 (by decide) rfl (by omega) (fun c259 => ?_) (fun c259 => ?_)
                  · exact absurd c259 (by decide)
                  · refine V_iconst 263 C dX10_readCommand_262 rfl ic1 ?_
                    refine V_goto 267 C dX10_readCommand_263 (by decide) ?_
                    refine V_ireturn C dX10_readCommand_267 rfl (by decide) (by omega) (by omega) ?_
                    first | exact rdP_n hR | exact rdP_f hx hne hR hg | exact rdP_t hR hg
                · have hp31 : pof y a1 < 2 ^ 31 := by
                    rcases pof_b hI ia with e | e
                    · omega
                    · exact absurd e c240.1
                  refine V_aload_n 244 C dX10_readCommand_243 rfl rfl ?_
                  refine V_iload_n 245 C dX10_readCommand_244 rfl rfl ?_
                  refine V_callS 248 C dX10_readCommand_245 rfl mX10_layOn tw1094 (c_X10_layOn l G _ _ a y hx2 hI a1 ia) rfl rfl (by decide) ⟨by omega, by omega⟩ (Nat.le_of_ble_eq_true rfl) ?_
                  rintro _ _ _ ⟨rfl, rfl, rfl⟩
                  refine V_if_ltN 255 251 C dX10_readCommand_248 (by decide) rfl (by omega) (fun c248 => ?_) (fun c248 => ?_)
                  · exact c248.elim
                  · have hg : gv (T p0) a1 0 0 y = (true, lyOn y a1) := by rw [gv_l c21_108]; unfold aLy; rw [if_pos c232, za, if_pos c240, okn hp31]
                    have hTd := mx_HR (y := lyOn y a1) hT2 hne hne1
                    refine V_iconst 252 C dX10_readCommand_251 rfl ic1 ?_
                    refine V_goto 256 C dX10_readCommand_252 (by decide) ?_
                    refine V_callV 259 C dX10_readCommand_256 rfl mX10_done tw1008 fcX10 hTd.2.1 (c_X10_done l G _ _ m N _ o rf sc T g hTd _ (by omega)) rfl rfl (by decide) ⟨by omega, by omega⟩ (Nat.le_of_ble_eq_true rfl) ?_
                    rintro _ _ _ ⟨rfl, rfl, rfl⟩
                    first | rw [mH_mH] | rw [mH_HR hne]
                    refine V_if_eqN 266 262 C dX10_readCommand_259 (by decide) rfl (by omega) (fun c259 => ?_) (fun c259 => ?_)
                    · exact absurd c259 (by decide)
                    · refine V_iconst 263 C dX10_readCommand_262 rfl ic1 ?_
                      refine V_goto 267 C dX10_readCommand_263 (by decide) ?_
                      refine V_ireturn C dX10_readCommand_267 rfl (by decide) (by omega) (by omega) ?_
                      first | exact rdP_n hR | exact rdP_f hx hne hR hg | exact rdP_t hR hg
          · skip
            refine V_case 114 (fun c21_114 => ?_) (fun n21_114 => ?_)
            · refine V_tsI 145 C dX10_readCommand_21 c21_114 (by decide) (by decide) (by decide) rfl (by decide) ?_
              refine V_aload_n 146 C dX10_readCommand_145 rfl rfl ?_
              refine V_aload_n 147 C dX10_readCommand_146 rfl rfl ?_
              refine V_callV 150 C dX10_readCommand_147 rfl mX10_readRoad tw1012 fcX10 hT1.2.1 (c_X10_readRoad l G _ _ m N p0 o rf sc T g hT1 a y hx1 hI hne hne1 c21_114) rfl rfl (by decide) ⟨by omega, by omega⟩ (Nat.le_of_ble_eq_true rfl) ?_
              intro v9 n9 h9 hq9
              obtain ⟨b9, rfl, hb9, rfl⟩ := rdP_v hq9
              refine V_ireturn C dX10_readCommand_150 rfl (nar_01 hb9) (by omega) (by omega) ?_
              exact (rdP_mH hq9)
            · skip
              refine V_case 116 (fun c21_116 => ?_) (fun n21_116 => ?_)
              · refine V_tsI 120 C dX10_readCommand_21 c21_116 (by decide) (by decide) (by decide) rfl (by decide) ?_
                refine V_aload_n 121 C dX10_readCommand_120 rfl rfl ?_
                refine V_aload_n 122 C dX10_readCommand_121 rfl rfl ?_
                refine V_iconst 123 C dX10_readCommand_122 rfl ic0 ?_
                refine V_iald (j := 0) 124 C dX10_readCommand_123 rfl hx1 rfl (by omega) (by omega) ?_
                refine V_bipush 126 C dX10_readCommand_124 rfl bip6 ?_
                refine V_icmp_geN 140 129 C dX10_readCommand_126 (by decide) rfl (by omega) (by omega) (fun c126 => ?_) (fun c126 => ?_)
                · have hR : rcm T N p0 = (some (0, 0, 0), p0 + 1) := rcm_t c21_116
                  have hg : gv (T p0) 0 0 0 y = (false, y) := by rw [gv_t c21_116]; unfold aTw; rw [if_neg (by omega), okW]
                  have hTd := hT1
                  refine V_iconst 141 C dX10_readCommand_140 rfl ic0 ?_
                  refine V_callV 144 C dX10_readCommand_141 rfl mX10_done tw1008 fcX10 hTd.2.1 (c_X10_done l G _ _ m N _ o rf sc T g hTd _ (by omega)) rfl rfl (by decide) ⟨by omega, by omega⟩ (Nat.le_of_ble_eq_true rfl) ?_
                  rintro _ _ _ ⟨rfl, rfl, rfl⟩
                  first | rw [mH_mH] | rw [mH_HR hne]
                  refine V_ireturn C dX10_readCommand_144 rfl (by decide) (by omega) (by omega) ?_
                  first | exact rdP_n hR | exact rdP_f hx hne hR hg | exact rdP_t hR hg
                · refine V_aload_n 130 C dX10_readCommand_129 rfl rfl ?_
                  refine V_callS 133 C dX10_readCommand_130 rfl mX10_townOn tw1005 (c_X10_townOn l G _ _ a y hx1) rfl rfl (by decide) ⟨by omega, by omega⟩ (Nat.le_of_ble_eq_true rfl) ?_
                  rintro _ _ _ ⟨rfl, rfl, rfl⟩
                  refine V_if_ltN 140 136 C dX10_readCommand_133 (by decide) rfl (by omega) (fun c133 => ?_) (fun c133 => ?_)
                  · exact c133.elim
                  · have hR : rcm T N p0 = (some (0, 0, 0), p0 + 1) := rcm_t c21_116
                    have hg : gv (T p0) 0 0 0 y = (true, twOn y) := by rw [gv_t c21_116]; unfold aTw; rw [if_pos (by omega), okn (by omega)]
                    have hTd := mx_HR (y := twOn y) hT1 hne hne1
                    refine V_iconst 137 C dX10_readCommand_136 rfl ic1 ?_
                    refine V_goto 141 C dX10_readCommand_137 (by decide) ?_
                    refine V_callV 144 C dX10_readCommand_141 rfl mX10_done tw1008 fcX10 hTd.2.1 (c_X10_done l G _ _ m N _ o rf sc T g hTd _ (by omega)) rfl rfl (by decide) ⟨by omega, by omega⟩ (Nat.le_of_ble_eq_true rfl) ?_
                    rintro _ _ _ ⟨rfl, rfl, rfl⟩
                    first | rw [mH_mH] | rw [mH_HR hne]
                    refine V_ireturn C dX10_readCommand_144 rfl (by decide) (by omega) (by omega) ?_
                    first | exact rdP_n hR | exact rdP_f hx hne hR hg | exact rdP_t hR hg
              · skip
                refine V_case 117 (fun c21_117 => ?_) (fun n21_117 => ?_)
                · refine V_tsI 151 C dX10_readCommand_21 c21_117 (by decide) (by decide) (by decide) rfl (by decide) ?_
                  refine V_aload_n 152 C dX10_readCommand_151 rfl rfl ?_
                  refine V_iconst 153 C dX10_readCommand_152 rfl ic0 ?_
                  refine V_callV 156 C dX10_readCommand_153 rfl mX10_townSign tw1016 fcX10 hT1.2.1 (c_X10_townSign l G _ _ m N (p0 + 1) o rf sc T g hT1 0 (Or.inr (by decide))) rfl rfl (by decide) ⟨by omega, by omega⟩ (Nat.le_of_ble_eq_true rfl) ?_
                  rintro _ _ _ ⟨rfl, rfl, rfl⟩
                  rw [mH_mH]
                  obtain ⟨r1, er1⟩ : ∃ r, r = fg T N 0 5 1 0 (p0 + 1) := ⟨_, rfl⟩
                  rw [← er1]
                  have hq1 : r1.2 ≤ N := by rw [er1]; exact (fg_q (by omega)).2
                  have ho1 : ona r1.1 = NO ∨ ona r1.1 < 2 ^ 31 := by rw [er1]; exact fg_o (by omega) (by omega)
                  have hT2 : mx m N r1.2 o rf sc T g (mH h m rf N sc r1.2 o) := mH_mx hT hq1
                  have hx2 : Row a y (mH h m rf N sc r1.2 o) := mH_row hx hne
                  refine V_istore_n 157 C dX10_readCommand_156 rfl (by decide) (L' := [(0, _), (1, _), (2, _), (3, _)]) rfl ?_
                  refine V_iload_n 158 C dX10_readCommand_157 rfl rfl ?_
                  refine V_iconst 159 C dX10_readCommand_158 rfl icm1 ?_
                  refine V_icmp_eqN 201 162 C dX10_readCommand_159 (by decide) rfl (by omega) (by omega) (fun c159 => ?_) (fun c159 => ?_)
                  · have hR : rcm T N p0 = (none, r1.2) := by
                      rw [rcm_u c21_117]
                      rcases ch1' er1 (by omega) (by omega) with ⟨-, g2⟩ | ⟨a1, gb, g1, -⟩
                      · exact g2
                      · exfalso; omega
                    refine V_iconst 202 C dX10_readCommand_201 rfl ic0 ?_
                    refine V_ireturn C dX10_readCommand_202 rfl (by decide) (by omega) (by omega) ?_
                    first | exact rdP_n hR | exact rdP_f hx hne hR hg | exact rdP_t hR hg
                  · obtain ⟨a1, ba, ga, hR⟩ : ∃ a, (0 ≤ a ∧ a ≤ 5) ∧ ona r1.1 = a ∧ rcm T N p0 = (some (a, 0, 0), r1.2) := by
                      rw [rcm_u c21_117]
                      rcases ch1' er1 (by omega) (by omega) with ⟨g1, -⟩ | g
                      · exact absurd g1 c159
                      · exact g
                    rw [ga]
                    have za := zn (show a1 < 2 ^ 31 by omega)
                    refine V_aload_n 163 C dX10_readCommand_162 rfl rfl ?_
                    refine V_aload_n 164 C dX10_readCommand_163 rfl rfl ?_
                    refine V_iload_n 165 C dX10_readCommand_164 rfl rfl ?_
                    refine V_callS 168 C dX10_readCommand_165 rfl mX10_isTown tw1028 (c_X10_isTown l G _ _ a y hx2 hI (nI a1)) rfl rfl (by decide) ⟨by omega, by omega⟩ (Nat.le_of_ble_eq_true rfl) ?_
                    rintro _ _ _ ⟨rfl, rfl, rfl⟩
                    refine V_if_eqB 190 171 C dX10_readCommand_168 (by decide) rfl  (fun c168 => ?_) (fun c168 => ?_)
                    · have hg : gv (T p0) a1 0 0 y = (false, y) := by rw [gv_u c21_117]; unfold aRu; rw [if_neg c168, okN]
                      have hTd := hT2
                      refine V_iconst 191 C dX10_readCommand_190 rfl ic0 ?_
                      refine V_callV 194 C dX10_readCommand_191 rfl mX10_done tw1008 fcX10 hTd.2.1 (c_X10_done l G _ _ m N _ o rf sc T g hTd _ (by omega)) rfl rfl (by decide) ⟨by omega, by omega⟩ (Nat.le_of_ble_eq_true rfl) ?_
                      rintro _ _ _ ⟨rfl, rfl, rfl⟩
                      first | rw [mH_mH] | rw [mH_HR hne]
                      refine V_if_eqN 201 197 C dX10_readCommand_194 (by decide) rfl (by omega) (fun c194 => ?_) (fun c194 => ?_)
                      · exact absurd c194 (by decide)
                      · refine V_iconst 198 C dX10_readCommand_197 rfl ic1 ?_
                        refine V_goto 202 C dX10_readCommand_198 (by decide) ?_
                        refine V_ireturn C dX10_readCommand_202 rfl (by decide) (by omega) (by omega) ?_
                        first | exact rdP_n hR | exact rdP_f hx hne hR hg | exact rdP_t hR hg
                    · refine V_aload_n 172 C dX10_readCommand_171 rfl rfl ?_
                      refine V_iconst 173 C dX10_readCommand_172 rfl ic2 ?_
                      refine V_iald (j := 2) 174 C dX10_readCommand_173 rfl hx2 rfl (by omega) (by omega) ?_
                      refine V_iconst 175 C dX10_readCommand_174 rfl ic5 ?_
                      refine V_icmp_geN 190 178 C dX10_readCommand_175 (by decide) rfl (by omega) (by omega) (fun c175 => ?_) (fun c175 => ?_)
                      · have hg : gv (T p0) a1 0 0 y = (false, y) := by rw [gv_u c21_117]; unfold aRu; rw [if_pos c168, if_neg (by omega), okW]
                        have hTd := hT2
                        refine V_iconst 191 C dX10_readCommand_190 rfl ic0 ?_
                        refine V_callV 194 C dX10_readCommand_191 rfl mX10_done tw1008 fcX10 hTd.2.1 (c_X10_done l G _ _ m N _ o rf sc T g hTd _ (by omega)) rfl rfl (by decide) ⟨by omega, by omega⟩ (Nat.le_of_ble_eq_true rfl) ?_
                        rintro _ _ _ ⟨rfl, rfl, rfl⟩
                        first | rw [mH_mH] | rw [mH_HR hne]
                        refine V_if_eqN 201 197 C dX10_readCommand_194 (by decide) rfl (by omega) (fun c194 => ?_) (fun c194 => ?_)
                        · exact absurd c194 (by decide)
                        · refine V_iconst 198 C dX10_readCommand_197 rfl ic1 ?_
                          refine V_goto 202 C dX10_readCommand_198 (by decide) ?_
                          refine V_ireturn C dX10_readCommand_202 rfl (by decide) (by omega) (by omega) ?_
                          first | exact rdP_n hR | exact rdP_f hx hne hR hg | exact rdP_t hR hg
                      · refine V_aload_n 179 C dX10_readCommand_178 rfl rfl ?_
                        refine V_iload_n 180 C dX10_readCommand_179 rfl rfl ?_
                        refine V_callS 183 C dX10_readCommand_180 rfl mX10_runnerOn tw1034 (c_X10_runnerOn l G _ _ a y hx2 (by omega) a1) rfl rfl (by decide) ⟨by omega, by omega⟩ (Nat.le_of_ble_eq_true rfl) ?_
                        rintro _ _ _ ⟨rfl, rfl, rfl⟩
                        refine V_if_ltN 190 186 C dX10_readCommand_183 (by decide) rfl (by omega) (fun c183 => ?_) (fun c183 => ?_)
                        · exact c183.elim
                        · have hg : gv (T p0) a1 0 0 y = (true, ruOn y a1) := by rw [gv_u c21_117]; unfold aRu; rw [if_pos c168, if_pos (by omega), za, okn (by omega)]
                          have hTd := mx_HR (y := ruOn y a1) hT2 hne hne1
                          refine V_iconst 187 C dX10_readCommand_186 rfl ic1 ?_
                          refine V_goto 191 C dX10_readCommand_187 (by decide) ?_
                          refine V_callV 194 C dX10_readCommand_191 rfl mX10_done tw1008 fcX10 hTd.2.1 (c_X10_done l G _ _ m N _ o rf sc T g hTd _ (by omega)) rfl rfl (by decide) ⟨by omega, by omega⟩ (Nat.le_of_ble_eq_true rfl) ?_
                          rintro _ _ _ ⟨rfl, rfl, rfl⟩
                          first | rw [mH_mH] | rw [mH_HR hne]
                          refine V_if_eqN 201 197 C dX10_readCommand_194 (by decide) rfl (by omega) (fun c194 => ?_) (fun c194 => ?_)
                          · exact absurd c194 (by decide)
                          · refine V_iconst 198 C dX10_readCommand_197 rfl ic1 ?_
                            refine V_goto 202 C dX10_readCommand_198 (by decide) ?_
                            refine V_ireturn C dX10_readCommand_202 rfl (by decide) (by omega) (by omega) ?_
                            first | exact rdP_n hR | exact rdP_f hx hne hR hg | exact rdP_t hR hg
                · skip
                  refine V_case 119 (fun c21_119 => ?_) (fun n21_119 => ?_)
                  · refine V_tsI 203 C dX10_readCommand_21 c21_119 (by decide) (by decide) (by decide) rfl (by decide) ?_
                    refine V_aload_n 204 C dX10_readCommand_203 rfl rfl ?_
                    refine V_aload_n 205 C dX10_readCommand_204 rfl rfl ?_
                    refine V_callV 208 C dX10_readCommand_205 rfl mX10_readWrite tw1037 fcX10 hT1.2.1 (c_X10_readWrite l G _ _ m N p0 o rf sc T g hT1 a y hx1 hI hne hne1 c21_119) rfl rfl (by decide) ⟨by omega, by omega⟩ (Nat.le_of_ble_eq_true rfl) ?_
                    intro v9 n9 h9 hq9
                    obtain ⟨b9, rfl, hb9, rfl⟩ := rdP_v hq9
                    refine V_ireturn C dX10_readCommand_208 rfl (nar_01 hb9) (by omega) (by omega) ?_
                    exact (rdP_mH hq9)
                  · skip
                    refine V_tsD 322 [99, 103, 104, 107, 108, 114, 116, 117, 119] C dX10_readCommand_21 (lo' := 99) rfl rfl (by omega) ⟨n21_99, n21_103, n21_104, n21_107, n21_108, n21_114, n21_116, n21_117, n21_119, trivial⟩ (by decide) (by decide) ?_
                    refine V_aload_n 323 C dX10_readCommand_322 rfl rfl ?_
                    refine V_dup 324 C dX10_readCommand_323 rfl rfl ?_
                    refine V_get (k := 10) 327 C dX10_readCommand_324 rfl fcX10 tw946 (by decide) rfl hT1.2.1 rfl ?_
                    refine V_iconst 328 C dX10_readCommand_327 rfl ic1 ?_
                    refine V_isubN 329 C dX10_readCommand_328 rfl (by omega) ?_
                    refine V_put (fs' := [_, _, _, _, _, _, _, _, _, _, _, _]) (k := 10) 332 C dX10_readCommand_329 rfl fcX10 tw946 (by decide) rfl rfl hT1.2.1 rfl rfl (Nat.le_of_ble_eq_true rfl) rfl ?_
                    rw [show (up (mH h m rf N sc (p0 + 1) o) m (obM m rf (nI N) sc (nI (p0 + 1 - 1)) (nI o))) = mH h m rf N sc (p0 + 1 - 1) o from up_up _ _ _ _]
                    have hR : rcm T N p0 = (none, p0 + 1 - 1) := by rw [rcm_n ⟨n21_116, n21_114, n21_117, n21_119, n21_107, n21_108, n21_103, n21_99, n21_104⟩, Nat.add_sub_cancel]
                    refine V_iconst 333 C dX10_readCommand_332 rfl ic0 ?_
                    refine V_ireturn C dX10_readCommand_333 rfl (by decide) (by omega) (by omega) ?_
                    exact (rdP_n hR)

theorem dX10_readText_0 : decode cX10_readText 0 = .ok (.aload_n 1, 1) := by decide +kernel
theorem dX10_readText_1 : decode cX10_readText 1 = .ok (.invokestatic 32, 3) := by decide +kernel
theorem dX10_readText_4 : decode cX10_readText 4 = .ok (.aload_n 0, 1) := by decide +kernel
theorem dX10_readText_5 : decode cX10_readText 5 = .ok (.iconst 0, 1) := by decide +kernel
theorem dX10_readText_6 : decode cX10_readText 6 = .ok (.putfield 131, 3) := by decide +kernel
theorem dX10_readText_9 : decode cX10_readText 9 = .ok (.aload_n 0, 1) := by decide +kernel
theorem dX10_readText_10 : decode cX10_readText 10 = .ok (.iconst 0, 1) := by decide +kernel
theorem dX10_readText_11 : decode cX10_readText 11 = .ok (.putfield 128, 3) := by decide +kernel
theorem dX10_readText_14 : decode cX10_readText 14 = .ok (.aload_n 0, 1) := by decide +kernel
theorem dX10_readText_15 : decode cX10_readText 15 = .ok (.getfield 121, 3) := by decide +kernel
theorem dX10_readText_18 : decode cX10_readText 18 = .ok (.ifCond .eq 14, 3) := by decide +kernel
theorem dX10_readText_21 : decode cX10_readText 21 = .ok (.aload_n 0, 1) := by decide +kernel
theorem dX10_readText_22 : decode cX10_readText 22 = .ok (.getfield 7, 3) := by decide +kernel
theorem dX10_readText_25 : decode cX10_readText 25 = .ok (.iconst 0, 1) := by decide +kernel
theorem dX10_readText_26 : decode cX10_readText 26 = .ok (.iaload, 1) := by decide +kernel
theorem dX10_readText_27 : decode cX10_readText 27 = .ok (.bipush 70, 2) := by decide +kernel
theorem dX10_readText_29 : decode cX10_readText 29 = .ok (.if_icmp .eq 5, 3) := by decide +kernel
theorem dX10_readText_32 : decode cX10_readText 32 = .ok (.iconst 0, 1) := by decide +kernel
theorem dX10_readText_33 : decode cX10_readText 33 = .ok (.ireturn, 1) := by decide +kernel
theorem dX10_readText_34 : decode cX10_readText 34 = .ok (.aload_n 0, 1) := by decide +kernel
theorem dX10_readText_35 : decode cX10_readText 35 = .ok (.iconst 1, 1) := by decide +kernel
theorem dX10_readText_36 : decode cX10_readText 36 = .ok (.putfield 128, 3) := by decide +kernel
theorem dX10_readText_39 : decode cX10_readText 39 = .ok (.aload_n 0, 1) := by decide +kernel
theorem dX10_readText_40 : decode cX10_readText 40 = .ok (.getfield 128, 3) := by decide +kernel
theorem dX10_readText_43 : decode cX10_readText 43 = .ok (.aload_n 0, 1) := by decide +kernel
theorem dX10_readText_44 : decode cX10_readText 44 = .ok (.getfield 121, 3) := by decide +kernel
theorem dX10_readText_47 : decode cX10_readText 47 = .ok (.if_icmp .ge 16, 3) := by decide +kernel
theorem dX10_readText_50 : decode cX10_readText 50 = .ok (.aload_n 0, 1) := by decide +kernel
theorem dX10_readText_51 : decode cX10_readText 51 = .ok (.aload_n 1, 1) := by decide +kernel
theorem dX10_readText_52 : decode cX10_readText 52 = .ok (.invokevirtual 220, 3) := by decide +kernel
theorem dX10_readText_55 : decode cX10_readText 55 = .ok (.ifCond .ne (-16), 3) := by decide +kernel
theorem dX10_readText_58 : decode cX10_readText 58 = .ok (.aload_n 0, 1) := by decide +kernel
theorem dX10_readText_59 : decode cX10_readText 59 = .ok (.getfield 128, 3) := by decide +kernel
theorem dX10_readText_62 : decode cX10_readText 62 = .ok (.ireturn, 1) := by decide +kernel
theorem dX10_readText_63 : decode cX10_readText 63 = .ok (.iconst (-1), 1) := by decide +kernel
theorem dX10_readText_64 : decode cX10_readText 64 = .ok (.ireturn, 1) := by decide +kernel
set_option maxRecDepth 100000 in
set_option maxHeartbeats 4000000 in
theorem c_X10_readText (l : Launch) (G : GT) (n : Nat) (h : AH) (m N : Nat) (rf sc sp ou : Int32) (T : Nat → Nat) (g : Nat → Int32) (hT : mx0 m N rf sc sp ou T g h) (a : Nat) (y : Nat → Nat) (hx : Row a y h) (hne : ¬ a = m) (hne1 : ¬ a = m + 1) : Ct l yX10_readText cX10_readText 2 (some .int) 9 0 0 G n h [.ref m, .ref a] (fun v n' h' => v = some (.int (nI (fer T N))) ∧ n = n' ∧ ∃ p' o' y', p' ≤ N ∧ Iv y' ∧ h' = HR (mH h m rf N sc p' o') a y' ∧ (fer T N = NO → y' = (rdt T N N 1 (fun _ => 0) 0).2.1 ∧ o' = (rdt T N N 1 (fun _ => 0) 0).2.2)) := by
  obtain ⟨hN, hm, hg, hch⟩ := id hT
  have NE := NO_eq
  refine Ct_of mX10_readText.1 (Nat.le_of_ble_eq_true rfl) ?_
  intro p₀ e₀ s₀ m₀ as₀ bl₀ me₀ c₀ C hin
  refine V_Le (L' := [(0, .ref m), (1, .ref a)]) rfl ?_
  refine V_aload_n 1 C dX10_readText_0 rfl rfl ?_
  refine V_callS 4 C dX10_readText_1 rfl mX10_clear tw933 (c_X10_clear l G _ _ a y hx) rfl rfl (by decide) ⟨by omega, by omega⟩ (Nat.le_of_ble_eq_true rfl) ?_
  rintro _ _ _ ⟨rfl, rfl, rfl⟩
  refine V_ext (f' := fun j => nI ((fun _ => 0 : Nat → Nat) j)) (HR_row _ _ _) (fun j hj => by show nI (if j < 130 then 0 else y j) = nI 0; rw [if_pos hj]) ?_
  rw [show (up (HR h a (fun j => if j < 130 then 0 else y j)) a (.inl (0, 130, .inl (fun j => nI ((fun _ => 0 : Nat → Nat) j))))) = HR h a (fun _ => 0) from up_up _ _ _ _]
  have hm0 : (HR h a (fun _ => 0)) m = _ := (HR_n (fun e => hne e.symm)).trans hm
  have hI0 : Iv (fun _ => 0) := Iv_0 (fun _ _ => rfl)
  refine V_aload_n 5 C dX10_readText_4 rfl rfl ?_
  refine V_iconst 6 C dX10_readText_5 rfl ic0 ?_
  refine V_put (fs' := [_, _, _, _, _, _, _, _, _, _, _, _]) (k := 11) 9 C dX10_readText_6 rfl fcX10 tw947 (by decide) rfl rfl hm0 rfl rfl (Nat.le_of_ble_eq_true rfl) rfl ?_
  refine V_aload_n 10 C dX10_readText_9 rfl rfl ?_
  refine V_iconst 11 C dX10_readText_10 rfl ic0 ?_
  refine V_put (fs' := [_, _, _, _, _, _, _, _, _, _, _, _]) (k := 10) 14 C dX10_readText_11 rfl fcX10 tw946 (by decide) rfl rfl (up_s _ _ _) rfl rfl (Nat.le_of_ble_eq_true rfl) rfl ?_
  rw [up_up]
  rw [show (up (HR h a (fun _ => 0)) m (obM m rf (nI N) sc (nI 0) (nI 0))) = mH (HR h a (fun _ => 0)) m rf N sc 0 0 from rfl]
  have hTb : mx m N 0 0 rf sc T g (mH (HR h a (fun _ => 0)) m rf N sc 0 0) := by rw [mHR hne]; exact mx_HR (mx0_mH hT (by omega)) hne hne1
  refine V_aload_n 15 C dX10_readText_14 rfl rfl ?_
  refine V_get (k := 2) 18 C dX10_readText_15 rfl fcX10 tw938 (by decide) rfl hTb.2.1 rfl ?_
  refine V_if_eqN 32 21 C dX10_readText_18 (by decide) rfl (by omega) (fun c18 => ?_) (fun c18 => ?_)
  · have hz : fer T N = 0 := if_pos (by omega)
    refine V_iconst 33 C dX10_readText_32 rfl ic0 ?_
    refine V_ireturn C dX10_readText_33 rfl rfl (by omega) (by omega) ?_
    exact ⟨by rw [hz], rfl, 0, 0, _, by omega, hI0, mHR hne .., fun e => by rw [hz] at e; exact absurd e (by decide)⟩
  · obtain ⟨hg00, hT00⟩ := hch 0 (by omega)
    refine V_aload_n 22 C dX10_readText_21 rfl rfl ?_
    refine V_get (k := 1) 25 C dX10_readText_22 rfl fcX10 tw937 (by decide) rfl hTb.2.1 rfl ?_
    refine V_iconst 26 C dX10_readText_25 rfl ic0 ?_
    refine V_iald (j := 0) 27 C dX10_readText_26 rfl hTb.2.2.1 rfl (by omega) (by omega) ?_
    rw [hg00]
    refine V_bipush 29 C dX10_readText_27 rfl bip70 ?_
    refine V_icmp_eqN 34 32 C dX10_readText_29 (by decide) rfl (by omega) (by omega) (fun c29 => ?_) (fun c29 => ?_)
    · have hF0 : ¬ (N = 0 ∨ ¬ T 0 = 70) := by omega
      refine V_aload_n 35 C dX10_readText_34 rfl rfl ?_
      refine V_iconst 36 C dX10_readText_35 rfl ic1 ?_
      refine V_put (fs' := [_, _, _, _, _, _, _, _, _, _, _, _]) (k := 10) 39 C dX10_readText_36 rfl fcX10 tw946 (by decide) rfl rfl hTb.2.1 rfl rfl (Nat.le_of_ble_eq_true rfl) rfl ?_
      rw [show (up (mH (HR h a (fun _ => 0)) m rf N sc 0 0) m (obM m rf (nI N) sc (nI 1) (nI 0))) = HR (mH h m rf N sc 1 0) a (fun _ => 0) from (up_up _ _ _ _).trans (mHR hne ..)]
      have J39 : ∀ (fuel : Nat) (p1 o1 : Nat) (y1 : Nat → Nat) (h1p : 1 ≤ p1) (hp1 : p1 ≤ N) (hI1 : Iv y1) (hr : rdt T N (N - p1) p1 y1 o1 = rdt T N N 1 (fun _ => 0) 0), N - p1 < fuel → V p₀ l e₀ (rmD 9 0 0) s₀ m₀ as₀ bl₀ me₀ c₀ (MQ bl₀ (Po G (fun v n' h' => v = some (.int (nI (fer T N))) ∧ n = n' ∧ ∃ p' o' y', p' ≤ N ∧ Iv y' ∧ h' = HR (mH h m rf N sc p' o') a y' ∧ (fer T N = NO → y' = (rdt T N N 1 (fun _ => 0) 0).2.1 ∧ o' = (rdt T N N 1 (fun _ => 0) 0).2.2))) as₀ s₀ 0 0 (rg G)) G 2 0 0 n (HR (mH h m rf N sc p1 o1) a y1) 39 [(0, .ref m), (1, .ref a)] [] := by
        intro fuel
        induction fuel with
        | zero => intro p1 o1 y1 h1p hp1 hI1 hr hf; omega
        | succ fuel ih39 =>
          intro p1 o1 y1 h1p hp1 hI1 hr hf
          have hT1 : mx m N p1 o1 rf sc T g (HR (mH h m rf N sc p1 o1) a y1) := mx_HR (mx0_mH hT hp1) hne hne1
          have hx1 : Row a y1 (HR (mH h m rf N sc p1 o1) a y1) := HR_row _ _ _
          refine V_aload_n 40 C dX10_readText_39 rfl rfl ?_
          refine V_get (k := 10) 43 C dX10_readText_40 rfl fcX10 tw946 (by decide) rfl hT1.2.1 rfl ?_
          refine V_aload_n 44 C dX10_readText_43 rfl rfl ?_
          refine V_get (k := 2) 47 C dX10_readText_44 rfl fcX10 tw938 (by decide) rfl hT1.2.1 rfl ?_
          refine V_icmp_geN 63 50 C dX10_readText_47 (by decide) rfl (by omega) (by omega) (fun c47 => ?_) (fun c47 => ?_)
          · have hz : rdt T N N 1 (fun _ => 0) 0 = (NO, y1, o1) := by rw [← hr, rdt_e (by omega)]
            have hfe : fer T N = NO := by unfold fer; rw [if_neg hF0, hz]
            refine V_iconst 64 C dX10_readText_63 rfl icm1 ?_
            refine V_ireturn C dX10_readText_64 rfl rfl (by omega) (by omega) ?_
            exact ⟨by rw [hfe]; rfl, rfl, _, _, _, hp1, hI1, rfl, fun _ => by rw [hz]; exact ⟨rfl, rfl⟩⟩
          · refine V_aload_n 51 C dX10_readText_50 rfl rfl ?_
            refine V_aload_n 52 C dX10_readText_51 rfl rfl ?_
            refine V_callV 55 C dX10_readText_52 rfl mX10_readCommand tw1001 fcX10 hT1.2.1 (c_X10_readCommand l G _ _ m N p1 o1 rf sc T g hT1 a y1 hx1 hI1 hne hne1 (by omega)) rfl rfl (by decide) ⟨by omega, by omega⟩ (Nat.le_of_ble_eq_true rfl) ?_
            intro v9 n9 h9 hq9
            obtain ⟨rfl, b9, y2, o2, rfl, hb9, rfl, hd9⟩ := rdP_u hne hq9
            have hrp := rcm_p (T := T) (N := N) (p := p1) (by omega)
            have hT9 : mx m N (rcm T N p1).2 o2 rf sc T g (HR (mH h m rf N sc (rcm T N p1).2 o2) a y2) := mx_HR (mx0_mH hT hrp.1) hne hne1
            refine V_if_neN 39 58 C dX10_readText_55 (by decide) rfl (by omega) (fun c55 => ?_) (fun c55 => ?_)
            · obtain ⟨a2, b2, c2, e1, rfl, rfl⟩ := (hd9.resolve_left (fun e => c55 e.1)).2
              have e2 := hrp.2 _ e1
              have e4 : rdt T N (N - (rcm T N p1).2) (rcm T N p1).2 (gv (T p1) a2 b2 c2 y1).2 (o1 + bp ((gv (T p1) a2 b2 c2 y1).1 = false)) = rdt T N N 1 (fun _ => 0) 0 := by
                rw [← hr, rdt_s (k := N - p1) (by omega) (by omega) e1]
                exact rdt_k (by omega) (by omega)
              refine V_L [0, 1] rfl ?_
              exact ih39 _ _ _ (by omega) hrp.1 (Iv_gv hI1 _ _ _ _) e4 (by omega)
            · obtain ⟨e1, rfl, rfl⟩ := (hd9.resolve_right (fun e => by omega)).2
              have hz : rdt T N N 1 (fun _ => 0) 0 = ((rcm T N p1).2, y2, o2) := by rw [← hr, rdt_n (k := N - p1) (by omega) (by omega) e1]
              have hfe : fer T N = (rcm T N p1).2 := by unfold fer; rw [if_neg hF0, hz]
              have hrq := hrp.1
              refine V_aload_n 59 C dX10_readText_58 rfl rfl ?_
              refine V_get (k := 10) 62 C dX10_readText_59 rfl fcX10 tw946 (by decide) rfl hT9.2.1 rfl ?_
              refine V_ireturn C dX10_readText_62 rfl rfl (by omega) (by omega) ?_
              exact ⟨by rw [hfe], rfl, _, _, _, hrp.1, hI1, rfl, fun e => by exfalso; rw [hfe] at e; omega⟩
      refine V_L [0, 1] rfl ?_
      exact J39 (N + 1) 1 0 _ (by omega) (by omega) hI0 (rdt_k (by omega) (by omega)) (by omega)
    · have hz : fer T N = 0 := if_pos (by omega)
      refine V_iconst 33 C dX10_readText_32 rfl ic0 ?_
      refine V_ireturn C dX10_readText_33 rfl rfl (by omega) (by omega) ?_
      exact ⟨by rw [hz], rfl, 0, 0, _, by omega, hI0, mHR hne .., fun e => by rw [hz] at e; exact absurd e (by decide)⟩

