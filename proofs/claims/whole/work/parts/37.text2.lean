/-! THE TEXT: commands, and what the reference reads -/
/-- the reader wherever it stands -/
def tx0 (X : Nat) (T : Nat → Nat) (N : Nat) (a0 lt : Int32) (f g : Nat → Int32) (h : AH) : Prop := N ≤ 120 ∧ h X = some (txo X (nI N) a0 lt) ∧ h (X + 1) = some (aC f) ∧ h (X + 2) = some (a3 g) ∧ ∀ i, i < N → f i = nI (T i) ∧ T i < 256
theorem tx_0 {X N p : Nat} {T : Nat → Nat} {lt : Int32} {f g : Nat → Int32} {h : AH} (ht : tx X T N p lt f g h) : tx0 X T N (nI p) lt f g h := ⟨ht.1.1, ht.2⟩
theorem tH_tx0 {X N q : Nat} {T : Nat → Nat} {a0 lt lt' : Int32} {f g : Nat → Int32} {h : AH} (ht : tx0 X T N a0 lt f g h) (g' : Nat → Int32) (hq : q ≤ N) : tx X T N q lt' f g' (tH h X N q lt' g') := by
  obtain ⟨h0, h1, h2, h3, h4⟩ := ht
  unfold tH
  exact ⟨⟨h0, hq⟩, by rw [up_n _ (by omega)]; exact up_s _ _ _, by rw [up_n _ (by omega), up_n _ (by omega)]; exact h2, up_s _ _ _, h4⟩
theorem tH_ob0 {X N q : Nat} {T : Nat → Nat} {a0 lt lt' : Int32} {f g : Nat → Int32} {h : AH} (ht : tx0 X T N a0 lt f g h) : up h X (txo X (nI N) (nI q) lt') = tH h X N q lt' g := by
  unfold tH
  exact (up_id (by rw [up_n _ (by omega)]; exact ht.2.2.2.1)).symm
theorem tx0_fr {X N : Nat} {T : Nat → Nat} {a0 lt : Int32} {f g : Nat → Int32} {h h' : AH} (ht : tx0 X T N a0 lt f g h) (hF : ∀ a, X ≤ a → a < X + 3 → h' a = h a) : tx0 X T N a0 lt f g h' := by
  obtain ⟨h0, h1, h2, h3, h4⟩ := ht
  exact ⟨h0, by rw [hF _ (by omega) (by omega)]; exact h1, by rw [hF _ (by omega) (by omega)]; exact h2, by rw [hF _ (by omega) (by omega)]; exact h3, h4⟩
theorem dX0_isFull_0 : decode cX0_isFull 0 = .ok (.aload_n 0, 1) := by decide +kernel
theorem dX0_isFull_1 : decode cX0_isFull 1 = .ok (.getfield 19, 3) := by decide +kernel
theorem dX0_isFull_4 : decode cX0_isFull 4 = .ok (.bipush 120, 2) := by decide +kernel
theorem dX0_isFull_6 : decode cX0_isFull 6 = .ok (.if_icmp .lt 7, 3) := by decide +kernel
theorem dX0_isFull_9 : decode cX0_isFull 9 = .ok (.iconst 1, 1) := by decide +kernel
theorem dX0_isFull_10 : decode cX0_isFull 10 = .ok (.goto 4, 3) := by decide +kernel
theorem dX0_isFull_13 : decode cX0_isFull 13 = .ok (.iconst 0, 1) := by decide +kernel
theorem dX0_isFull_14 : decode cX0_isFull 14 = .ok (.ireturn, 1) := by decide +kernel
set_option maxRecDepth 100000 in
set_option maxHeartbeats 4000000 in
theorem c_X0_isFull (l : Launch) (G : GT) (n : Nat) (h : AH) (X N : Nat) (T : Nat → Nat) (a0 lt : Int32) (f g : Nat → Int32) (hT : tx0 X T N a0 lt f g h) : Ct l yX0_isFull cX0_isFull 1 (some .boolean) 1 0 0 G n h [.ref X] (Rt (nI (bp (120 ≤ N))) n h) := by
  obtain ⟨hN, hX, hf, hg, hch⟩ := id hT
  refine Ct_of mX0_isFull.1 (Nat.le_of_ble_eq_true rfl) ?_
  intro p₀ e₀ s₀ m₀ as₀ bl₀ me₀ c₀ C hin
  refine V_Le (L' := [(0, .ref X)]) rfl ?_
  refine V_aload_n 1 C dX0_isFull_0 rfl rfl ?_
  refine V_get (k := 2) 4 C dX0_isFull_1 rfl fcX0 tw214 (by decide) rfl hX rfl ?_
  refine V_bipush 6 C dX0_isFull_4 rfl bip120 ?_
  refine V_icmp_ltN 13 9 C dX0_isFull_6 (by decide) rfl (by omega) (by omega) (fun c6 => ?_) (fun c6 => ?_)
  · have e1 : bp (120 ≤ N) = 0 := bp_f (by omega)
    refine V_iconst 14 C dX0_isFull_13 rfl ic0 ?_
    refine V_ireturn C dX0_isFull_14 rfl (by decide) (by omega) (by omega) ?_
    exact (Rt_mk (by omega))
  · have e1 : bp (120 ≤ N) = 1 := bp_t (by omega)
    refine V_iconst 10 C dX0_isFull_9 rfl ic1 ?_
    refine V_goto 14 C dX0_isFull_10 (by decide) ?_
    refine V_ireturn C dX0_isFull_14 rfl (by decide) (by omega) (by omega) ?_
    exact (Rt_mk (by omega))

theorem dX0_empty_0 : decode cX0_empty 0 = .ok (.aload_n 0, 1) := by decide +kernel
theorem dX0_empty_1 : decode cX0_empty 1 = .ok (.getfield 19, 3) := by decide +kernel
theorem dX0_empty_4 : decode cX0_empty 4 = .ok (.istore_n 1, 1) := by decide +kernel
theorem dX0_empty_5 : decode cX0_empty 5 = .ok (.aload_n 0, 1) := by decide +kernel
theorem dX0_empty_6 : decode cX0_empty 6 = .ok (.iconst 0, 1) := by decide +kernel
theorem dX0_empty_7 : decode cX0_empty 7 = .ok (.putfield 19, 3) := by decide +kernel
theorem dX0_empty_10 : decode cX0_empty 10 = .ok (.iload_n 1, 1) := by decide +kernel
theorem dX0_empty_11 : decode cX0_empty 11 = .ok (.ireturn, 1) := by decide +kernel
set_option maxRecDepth 100000 in
set_option maxHeartbeats 4000000 in
theorem c_X0_empty (l : Launch) (G : GT) (n : Nat) (h : AH) (X N : Nat) (T : Nat → Nat) (a0 lt : Int32) (f g : Nat → Int32) (hT : tx0 X T N a0 lt f g h) : Ct l yX0_empty cX0_empty 2 (some .int) 1 0 0 G n h [.ref X] (Ri (nI N) n (fun h' => h' = up h X (txo X (nI 0) a0 lt))) := by
  obtain ⟨hN, hX, hf, hg, hch⟩ := id hT
  refine Ct_of mX0_empty.1 (Nat.le_of_ble_eq_true rfl) ?_
  intro p₀ e₀ s₀ m₀ as₀ bl₀ me₀ c₀ C hin
  refine V_Le (L' := [(0, .ref X)]) rfl ?_
  refine V_aload_n 1 C dX0_empty_0 rfl rfl ?_
  refine V_get (k := 2) 4 C dX0_empty_1 rfl fcX0 tw214 (by decide) rfl hX rfl ?_
  refine V_istore_n 5 C dX0_empty_4 rfl (by decide) (L' := [(0, _), (1, _)]) rfl ?_
  refine V_aload_n 6 C dX0_empty_5 rfl rfl ?_
  refine V_iconst 7 C dX0_empty_6 rfl ic0 ?_
  refine V_put (fs' := [_, _, _, _, _]) (k := 2) 10 C dX0_empty_7 rfl fcX0 tw214 (by decide) rfl rfl hX rfl rfl (Nat.le_of_ble_eq_true rfl) rfl ?_
  refine V_iload_n 11 C dX0_empty_10 rfl rfl ?_
  refine V_ireturn C dX0_empty_11 rfl rfl (by omega) (by omega) ?_
  exact ⟨rfl, rfl, rfl⟩

theorem dX0_add_0 : decode cX0_add 0 = .ok (.aload_n 0, 1) := by decide +kernel
theorem dX0_add_1 : decode cX0_add 1 = .ok (.getfield 9, 3) := by decide +kernel
theorem dX0_add_4 : decode cX0_add 4 = .ok (.aload_n 0, 1) := by decide +kernel
theorem dX0_add_5 : decode cX0_add 5 = .ok (.getfield 19, 3) := by decide +kernel
theorem dX0_add_8 : decode cX0_add 8 = .ok (.iload_n 1, 1) := by decide +kernel
theorem dX0_add_9 : decode cX0_add 9 = .ok (.castore, 1) := by decide +kernel
theorem dX0_add_10 : decode cX0_add 10 = .ok (.aload_n 0, 1) := by decide +kernel
theorem dX0_add_11 : decode cX0_add 11 = .ok (.dup, 1) := by decide +kernel
theorem dX0_add_12 : decode cX0_add 12 = .ok (.getfield 19, 3) := by decide +kernel
theorem dX0_add_15 : decode cX0_add 15 = .ok (.iconst 1, 1) := by decide +kernel
theorem dX0_add_16 : decode cX0_add 16 = .ok (.iadd, 1) := by decide +kernel
theorem dX0_add_17 : decode cX0_add 17 = .ok (.putfield 19, 3) := by decide +kernel
theorem dX0_add_20 : decode cX0_add 20 = .ok (.aload_n 0, 1) := by decide +kernel
theorem dX0_add_21 : decode cX0_add 21 = .ok (.getfield 19, 3) := by decide +kernel
theorem dX0_add_24 : decode cX0_add 24 = .ok (.ireturn, 1) := by decide +kernel
set_option maxRecDepth 100000 in
set_option maxHeartbeats 4000000 in
theorem c_X0_add (l : Launch) (G : GT) (n : Nat) (h : AH) (X N : Nat) (T : Nat → Nat) (a0 lt : Int32) (f g : Nat → Int32) (hT : tx0 X T N a0 lt f g h) (ch : Nat) (hc : ch < 256) (h120 : N < 120) : Ct l yX0_add cX0_add 2 (some .int) 1 0 0 G n h [.ref X, .int (nI ch)] (Ri (nI (N + 1)) n (fun h' => h' = up (up h (X + 1) (aC (upd f N (nI ch)))) X (txo X (nI (N + 1)) a0 lt))) := by
  obtain ⟨hN, hX, hf, hg, hch⟩ := id hT
  have ec : vp_nar .char (nI ch) = nI ch := by have := nar_c hc; exact Value.int.inj this
  refine Ct_of mX0_add.1 (Nat.le_of_ble_eq_true rfl) ?_
  intro p₀ e₀ s₀ m₀ as₀ bl₀ me₀ c₀ C hin
  refine V_Le (L' := [(0, .ref X), (1, .int (nI ch))]) rfl ?_
  refine V_aload_n 1 C dX0_add_0 rfl rfl ?_
  refine V_get (k := 0) 4 C dX0_add_1 rfl fcX0 tw212 (by decide) rfl hX rfl ?_
  refine V_aload_n 5 C dX0_add_4 rfl rfl ?_
  refine V_get (k := 2) 8 C dX0_add_5 rfl fcX0 tw214 (by decide) rfl hX rfl ?_
  refine V_iload_n 9 C dX0_add_8 rfl rfl ?_
  refine V_cast (j := N) 10 C dX0_add_9 rfl hf rfl (by omega) (by omega) ?_
  rw [ec]
  have hX2 : (up h (X + 1) (aC (upd f N (nI ch)))) X = _ := (up_n _ (by omega)).trans hX
  refine V_aload_n 11 C dX0_add_10 rfl rfl ?_
  refine V_dup 12 C dX0_add_11 rfl rfl ?_
  refine V_get (k := 2) 15 C dX0_add_12 rfl fcX0 tw214 (by decide) rfl hX2 rfl ?_
  refine V_iconst 16 C dX0_add_15 rfl ic1 ?_
  refine V_iaddN 17 C dX0_add_16 rfl  ?_
  refine V_put (fs' := [_, _, _, _, _]) (k := 2) 20 C dX0_add_17 rfl fcX0 tw214 (by decide) rfl rfl hX2 rfl rfl (Nat.le_of_ble_eq_true rfl) rfl ?_
  refine V_aload_n 21 C dX0_add_20 rfl rfl ?_
  refine V_get (k := 2) 24 C dX0_add_21 rfl fcX0 tw214 (by decide) rfl (up_s _ _ _) rfl ?_
  refine V_ireturn C dX0_add_24 rfl rfl (by omega) (by omega) ?_
  exact ⟨rfl, rfl, rfl⟩

theorem dX0_readCommand_0 : decode cX0_readCommand 0 = .ok (.aload_n 0, 1) := by decide +kernel
theorem dX0_readCommand_1 : decode cX0_readCommand 1 = .ok (.getfield 23, 3) := by decide +kernel
theorem dX0_readCommand_4 : decode cX0_readCommand 4 = .ok (.aload_n 0, 1) := by decide +kernel
theorem dX0_readCommand_5 : decode cX0_readCommand 5 = .ok (.getfield 19, 3) := by decide +kernel
theorem dX0_readCommand_8 : decode cX0_readCommand 8 = .ok (.if_icmp .lt 5, 3) := by decide +kernel
theorem dX0_readCommand_11 : decode cX0_readCommand 11 = .ok (.iconst 0, 1) := by decide +kernel
theorem dX0_readCommand_12 : decode cX0_readCommand 12 = .ok (.ireturn, 1) := by decide +kernel
theorem dX0_readCommand_13 : decode cX0_readCommand 13 = .ok (.aload_n 0, 1) := by decide +kernel
theorem dX0_readCommand_14 : decode cX0_readCommand 14 = .ok (.aload_n 0, 1) := by decide +kernel
theorem dX0_readCommand_15 : decode cX0_readCommand 15 = .ok (.getfield 9, 3) := by decide +kernel
theorem dX0_readCommand_18 : decode cX0_readCommand 18 = .ok (.aload_n 0, 1) := by decide +kernel
theorem dX0_readCommand_19 : decode cX0_readCommand 19 = .ok (.getfield 23, 3) := by decide +kernel
theorem dX0_readCommand_22 : decode cX0_readCommand 22 = .ok (.caload, 1) := by decide +kernel
theorem dX0_readCommand_23 : decode cX0_readCommand 23 = .ok (.putfield 34, 3) := by decide +kernel
theorem dX0_readCommand_26 : decode cX0_readCommand 26 = .ok (.aload_n 0, 1) := by decide +kernel
theorem dX0_readCommand_27 : decode cX0_readCommand 27 = .ok (.dup, 1) := by decide +kernel
theorem dX0_readCommand_28 : decode cX0_readCommand 28 = .ok (.getfield 23, 3) := by decide +kernel
theorem dX0_readCommand_31 : decode cX0_readCommand 31 = .ok (.iconst 1, 1) := by decide +kernel
theorem dX0_readCommand_32 : decode cX0_readCommand 32 = .ok (.iadd, 1) := by decide +kernel
theorem dX0_readCommand_33 : decode cX0_readCommand 33 = .ok (.putfield 23, 3) := by decide +kernel
theorem dX0_readCommand_36 : decode cX0_readCommand 36 = .ok (.aload_n 0, 1) := by decide +kernel
theorem dX0_readCommand_37 : decode cX0_readCommand 37 = .ok (.getfield 34, 3) := by decide +kernel
theorem dX0_readCommand_40 : decode cX0_readCommand 40 = .ok (.tableswitch 271 99 119 #[235, 271, 271, 271, 209, 261, 271, 271, 181, 203, 271, 271, 271, 271, 271, 102, 271, 100, 136, 271, 142], 100) := by decide +kernel
theorem dX0_readCommand_140 : decode cX0_readCommand 140 = .ok (.iconst 1, 1) := by decide +kernel
theorem dX0_readCommand_141 : decode cX0_readCommand 141 = .ok (.ireturn, 1) := by decide +kernel
theorem dX0_readCommand_142 : decode cX0_readCommand 142 = .ok (.aload_n 0, 1) := by decide +kernel
theorem dX0_readCommand_143 : decode cX0_readCommand 143 = .ok (.iconst 0, 1) := by decide +kernel
theorem dX0_readCommand_144 : decode cX0_readCommand 144 = .ok (.invokevirtual 38, 3) := by decide +kernel
theorem dX0_readCommand_147 : decode cX0_readCommand 147 = .ok (.ifCond .eq 27, 3) := by decide +kernel
theorem dX0_readCommand_150 : decode cX0_readCommand 150 = .ok (.aload_n 0, 1) := by decide +kernel
theorem dX0_readCommand_151 : decode cX0_readCommand 151 = .ok (.iconst 1, 1) := by decide +kernel
theorem dX0_readCommand_152 : decode cX0_readCommand 152 = .ok (.invokevirtual 38, 3) := by decide +kernel
theorem dX0_readCommand_155 : decode cX0_readCommand 155 = .ok (.ifCond .eq 19, 3) := by decide +kernel
theorem dX0_readCommand_158 : decode cX0_readCommand 158 = .ok (.aload_n 0, 1) := by decide +kernel
theorem dX0_readCommand_159 : decode cX0_readCommand 159 = .ok (.iconst 2, 1) := by decide +kernel
theorem dX0_readCommand_160 : decode cX0_readCommand 160 = .ok (.iconst 2, 1) := by decide +kernel
theorem dX0_readCommand_161 : decode cX0_readCommand 161 = .ok (.iconst 1, 1) := by decide +kernel
theorem dX0_readCommand_162 : decode cX0_readCommand 162 = .ok (.bipush 20, 2) := by decide +kernel
theorem dX0_readCommand_164 : decode cX0_readCommand 164 = .ok (.invokevirtual 42, 3) := by decide +kernel
theorem dX0_readCommand_167 : decode cX0_readCommand 167 = .ok (.ifCond .eq 7, 3) := by decide +kernel
theorem dX0_readCommand_170 : decode cX0_readCommand 170 = .ok (.iconst 1, 1) := by decide +kernel
theorem dX0_readCommand_171 : decode cX0_readCommand 171 = .ok (.goto 4, 3) := by decide +kernel
theorem dX0_readCommand_174 : decode cX0_readCommand 174 = .ok (.iconst 0, 1) := by decide +kernel
theorem dX0_readCommand_175 : decode cX0_readCommand 175 = .ok (.ireturn, 1) := by decide +kernel
theorem dX0_readCommand_176 : decode cX0_readCommand 176 = .ok (.aload_n 0, 1) := by decide +kernel
theorem dX0_readCommand_177 : decode cX0_readCommand 177 = .ok (.iconst 0, 1) := by decide +kernel
theorem dX0_readCommand_178 : decode cX0_readCommand 178 = .ok (.invokevirtual 38, 3) := by decide +kernel
theorem dX0_readCommand_181 : decode cX0_readCommand 181 = .ok (.ireturn, 1) := by decide +kernel
theorem dX0_readCommand_182 : decode cX0_readCommand 182 = .ok (.aload_n 0, 1) := by decide +kernel
theorem dX0_readCommand_183 : decode cX0_readCommand 183 = .ok (.iconst 0, 1) := by decide +kernel
theorem dX0_readCommand_184 : decode cX0_readCommand 184 = .ok (.invokevirtual 38, 3) := by decide +kernel
theorem dX0_readCommand_187 : decode cX0_readCommand 187 = .ok (.ifCond .eq 32, 3) := by decide +kernel
theorem dX0_readCommand_190 : decode cX0_readCommand 190 = .ok (.aload_n 0, 1) := by decide +kernel
theorem dX0_readCommand_191 : decode cX0_readCommand 191 = .ok (.iconst 1, 1) := by decide +kernel
theorem dX0_readCommand_192 : decode cX0_readCommand 192 = .ok (.bipush 6, 2) := by decide +kernel
theorem dX0_readCommand_194 : decode cX0_readCommand 194 = .ok (.iconst 0, 1) := by decide +kernel
theorem dX0_readCommand_195 : decode cX0_readCommand 195 = .ok (.ldc 46, 2) := by decide +kernel
theorem dX0_readCommand_197 : decode cX0_readCommand 197 = .ok (.invokevirtual 42, 3) := by decide +kernel
theorem dX0_readCommand_200 : decode cX0_readCommand 200 = .ok (.ifCond .eq 19, 3) := by decide +kernel
theorem dX0_readCommand_203 : decode cX0_readCommand 203 = .ok (.aload_n 0, 1) := by decide +kernel
theorem dX0_readCommand_204 : decode cX0_readCommand 204 = .ok (.iconst 2, 1) := by decide +kernel
theorem dX0_readCommand_205 : decode cX0_readCommand 205 = .ok (.iconst 1, 1) := by decide +kernel
theorem dX0_readCommand_206 : decode cX0_readCommand 206 = .ok (.iconst 0, 1) := by decide +kernel
theorem dX0_readCommand_207 : decode cX0_readCommand 207 = .ok (.bipush 9, 2) := by decide +kernel
theorem dX0_readCommand_209 : decode cX0_readCommand 209 = .ok (.invokevirtual 42, 3) := by decide +kernel
theorem dX0_readCommand_212 : decode cX0_readCommand 212 = .ok (.ifCond .eq 7, 3) := by decide +kernel
theorem dX0_readCommand_215 : decode cX0_readCommand 215 = .ok (.iconst 1, 1) := by decide +kernel
theorem dX0_readCommand_216 : decode cX0_readCommand 216 = .ok (.goto 4, 3) := by decide +kernel
theorem dX0_readCommand_219 : decode cX0_readCommand 219 = .ok (.iconst 0, 1) := by decide +kernel
theorem dX0_readCommand_220 : decode cX0_readCommand 220 = .ok (.ireturn, 1) := by decide +kernel
theorem dX0_readCommand_221 : decode cX0_readCommand 221 = .ok (.aload_n 0, 1) := by decide +kernel
theorem dX0_readCommand_222 : decode cX0_readCommand 222 = .ok (.iconst 0, 1) := by decide +kernel
theorem dX0_readCommand_223 : decode cX0_readCommand 223 = .ok (.invokevirtual 47, 3) := by decide +kernel
theorem dX0_readCommand_226 : decode cX0_readCommand 226 = .ok (.ifCond .eq 15, 3) := by decide +kernel
theorem dX0_readCommand_229 : decode cX0_readCommand 229 = .ok (.aload_n 0, 1) := by decide +kernel
theorem dX0_readCommand_230 : decode cX0_readCommand 230 = .ok (.iconst 1, 1) := by decide +kernel
theorem dX0_readCommand_231 : decode cX0_readCommand 231 = .ok (.invokevirtual 50, 3) := by decide +kernel
theorem dX0_readCommand_234 : decode cX0_readCommand 234 = .ok (.ifCond .eq 7, 3) := by decide +kernel
theorem dX0_readCommand_237 : decode cX0_readCommand 237 = .ok (.iconst 1, 1) := by decide +kernel
theorem dX0_readCommand_238 : decode cX0_readCommand 238 = .ok (.goto 4, 3) := by decide +kernel
theorem dX0_readCommand_241 : decode cX0_readCommand 241 = .ok (.iconst 0, 1) := by decide +kernel
theorem dX0_readCommand_242 : decode cX0_readCommand 242 = .ok (.ireturn, 1) := by decide +kernel
theorem dX0_readCommand_243 : decode cX0_readCommand 243 = .ok (.aload_n 0, 1) := by decide +kernel
theorem dX0_readCommand_244 : decode cX0_readCommand 244 = .ok (.iconst 0, 1) := by decide +kernel
theorem dX0_readCommand_245 : decode cX0_readCommand 245 = .ok (.invokevirtual 50, 3) := by decide +kernel
theorem dX0_readCommand_248 : decode cX0_readCommand 248 = .ok (.ireturn, 1) := by decide +kernel
theorem dX0_readCommand_249 : decode cX0_readCommand 249 = .ok (.aload_n 0, 1) := by decide +kernel
theorem dX0_readCommand_250 : decode cX0_readCommand 250 = .ok (.iconst 0, 1) := by decide +kernel
theorem dX0_readCommand_251 : decode cX0_readCommand 251 = .ok (.invokevirtual 47, 3) := by decide +kernel
theorem dX0_readCommand_254 : decode cX0_readCommand 254 = .ok (.ifCond .eq 19, 3) := by decide +kernel
theorem dX0_readCommand_257 : decode cX0_readCommand 257 = .ok (.aload_n 0, 1) := by decide +kernel
theorem dX0_readCommand_258 : decode cX0_readCommand 258 = .ok (.iconst 1, 1) := by decide +kernel
theorem dX0_readCommand_259 : decode cX0_readCommand 259 = .ok (.iconst 1, 1) := by decide +kernel
theorem dX0_readCommand_260 : decode cX0_readCommand 260 = .ok (.iconst 0, 1) := by decide +kernel
theorem dX0_readCommand_261 : decode cX0_readCommand 261 = .ok (.bipush 9, 2) := by decide +kernel
theorem dX0_readCommand_263 : decode cX0_readCommand 263 = .ok (.invokevirtual 42, 3) := by decide +kernel
theorem dX0_readCommand_266 : decode cX0_readCommand 266 = .ok (.ifCond .eq 7, 3) := by decide +kernel
theorem dX0_readCommand_269 : decode cX0_readCommand 269 = .ok (.iconst 1, 1) := by decide +kernel
theorem dX0_readCommand_270 : decode cX0_readCommand 270 = .ok (.goto 4, 3) := by decide +kernel
theorem dX0_readCommand_273 : decode cX0_readCommand 273 = .ok (.iconst 0, 1) := by decide +kernel
theorem dX0_readCommand_274 : decode cX0_readCommand 274 = .ok (.ireturn, 1) := by decide +kernel
theorem dX0_readCommand_275 : decode cX0_readCommand 275 = .ok (.aload_n 0, 1) := by decide +kernel
theorem dX0_readCommand_276 : decode cX0_readCommand 276 = .ok (.iconst 0, 1) := by decide +kernel
theorem dX0_readCommand_277 : decode cX0_readCommand 277 = .ok (.invokevirtual 50, 3) := by decide +kernel
theorem dX0_readCommand_280 : decode cX0_readCommand 280 = .ok (.ifCond .eq 19, 3) := by decide +kernel
theorem dX0_readCommand_283 : decode cX0_readCommand 283 = .ok (.aload_n 0, 1) := by decide +kernel
theorem dX0_readCommand_284 : decode cX0_readCommand 284 = .ok (.iconst 1, 1) := by decide +kernel
theorem dX0_readCommand_285 : decode cX0_readCommand 285 = .ok (.iconst 1, 1) := by decide +kernel
theorem dX0_readCommand_286 : decode cX0_readCommand 286 = .ok (.iconst 0, 1) := by decide +kernel
theorem dX0_readCommand_287 : decode cX0_readCommand 287 = .ok (.bipush 9, 2) := by decide +kernel
theorem dX0_readCommand_289 : decode cX0_readCommand 289 = .ok (.invokevirtual 42, 3) := by decide +kernel
theorem dX0_readCommand_292 : decode cX0_readCommand 292 = .ok (.ifCond .eq 7, 3) := by decide +kernel
theorem dX0_readCommand_295 : decode cX0_readCommand 295 = .ok (.iconst 1, 1) := by decide +kernel
theorem dX0_readCommand_296 : decode cX0_readCommand 296 = .ok (.goto 4, 3) := by decide +kernel
theorem dX0_readCommand_299 : decode cX0_readCommand 299 = .ok (.iconst 0, 1) := by decide +kernel
theorem dX0_readCommand_300 : decode cX0_readCommand 300 = .ok (.ireturn, 1) := by decide +kernel
theorem dX0_readCommand_301 : decode cX0_readCommand 301 = .ok (.aload_n 0, 1) := by decide +kernel
theorem dX0_readCommand_302 : decode cX0_readCommand 302 = .ok (.iconst 0, 1) := by decide +kernel
theorem dX0_readCommand_303 : decode cX0_readCommand 303 = .ok (.iconst 2, 1) := by decide +kernel
theorem dX0_readCommand_304 : decode cX0_readCommand 304 = .ok (.iconst 1, 1) := by decide +kernel
theorem dX0_readCommand_305 : decode cX0_readCommand 305 = .ok (.bipush 60, 2) := by decide +kernel
theorem dX0_readCommand_307 : decode cX0_readCommand 307 = .ok (.invokevirtual 42, 3) := by decide +kernel
theorem dX0_readCommand_310 : decode cX0_readCommand 310 = .ok (.ireturn, 1) := by decide +kernel
theorem dX0_readCommand_311 : decode cX0_readCommand 311 = .ok (.aload_n 0, 1) := by decide +kernel
theorem dX0_readCommand_312 : decode cX0_readCommand 312 = .ok (.dup, 1) := by decide +kernel
theorem dX0_readCommand_313 : decode cX0_readCommand 313 = .ok (.getfield 23, 3) := by decide +kernel
theorem dX0_readCommand_316 : decode cX0_readCommand 316 = .ok (.iconst 1, 1) := by decide +kernel
theorem dX0_readCommand_317 : decode cX0_readCommand 317 = .ok (.isub, 1) := by decide +kernel
theorem dX0_readCommand_318 : decode cX0_readCommand 318 = .ok (.putfield 23, 3) := by decide +kernel
theorem dX0_readCommand_321 : decode cX0_readCommand 321 = .ok (.iconst 0, 1) := by decide +kernel
theorem dX0_readCommand_322 : decode cX0_readCommand 322 = .ok (.ireturn, 1) := by decide +kernel
set_option maxRecDepth 100000 in
set_option maxHeartbeats 4000000 in
theorem c_X0_readCommand (l : Launch) (G : GT) (n : Nat) (h : AH) (X N p : Nat) (T : Nat → Nat) (lt : Int32) (f g : Nat → Int32) (hT : tx X T N p lt f g h) (hp : p < N) : Ct l yX0_readCommand cX0_readCommand 1 (some .boolean) 4 0 0 G n h [.ref X] (Ri (nI (bp ((rcm T N p).1.isSome = true))) n (fun h' => ∃ g', h' = tH h X N (rcm T N p).2 (nI (T p)) g' ∧ ∀ a b c, (rcm T N p).1 = some (a, b, c) → agr (ar (T p)) g' a b c)) := by
  obtain ⟨⟨hN, hpN⟩, hX, hf, hg, hch⟩ := id hT
  refine Ct_of mX0_readCommand.1 (Nat.le_of_ble_eq_true rfl) ?_
  intro p₀ e₀ s₀ m₀ as₀ bl₀ me₀ c₀ C hin
  refine V_Le (L' := [(0, .ref X)]) rfl ?_
  refine V_aload_n 1 C dX0_readCommand_0 rfl rfl ?_
  refine V_get (k := 3) 4 C dX0_readCommand_1 rfl fcX0 tw215 (by decide) rfl hX rfl ?_
  refine V_aload_n 5 C dX0_readCommand_4 rfl rfl ?_
  refine V_get (k := 2) 8 C dX0_readCommand_5 rfl fcX0 tw214 (by decide) rfl hX rfl ?_
  refine V_icmp_ltN 13 11 C dX0_readCommand_8 (by decide) rfl (by omega) (by omega) (fun c8 => ?_) (fun c8 => ?_)
  · obtain ⟨hfp, hTp⟩ := hch p hp
    refine V_aload_n 14 C dX0_readCommand_13 rfl rfl ?_
    refine V_aload_n 15 C dX0_readCommand_14 rfl rfl ?_
    refine V_get (k := 0) 18 C dX0_readCommand_15 rfl fcX0 tw212 (by decide) rfl hX rfl ?_
    refine V_aload_n 19 C dX0_readCommand_18 rfl rfl ?_
    refine V_get (k := 3) 22 C dX0_readCommand_19 rfl fcX0 tw215 (by decide) rfl hX rfl ?_
    refine V_cald (j := p) 23 C dX0_readCommand_22 rfl hf rfl (by omega) (by omega) ?_
    rw [hfp]
    refine V_put (fs' := [_, _, _, _, _]) (k := 4) 26 C dX0_readCommand_23 rfl fcX0 tw216 (by decide) rfl rfl hX (nar_c hTp) (fit_c hTp) (Nat.le_of_ble_eq_true rfl) rfl ?_
    refine V_aload_n 27 C dX0_readCommand_26 rfl rfl ?_
    refine V_dup 28 C dX0_readCommand_27 rfl rfl ?_
    refine V_get (k := 3) 31 C dX0_readCommand_28 rfl fcX0 tw215 (by decide) rfl (up_s _ _ _) rfl ?_
    refine V_iconst 32 C dX0_readCommand_31 rfl ic1 ?_
    refine V_iaddN 33 C dX0_readCommand_32 rfl  ?_
    refine V_put (fs' := [_, _, _, _, _]) (k := 3) 36 C dX0_readCommand_33 rfl fcX0 tw215 (by decide) rfl rfl (up_s _ _ _) rfl rfl (Nat.le_of_ble_eq_true rfl) rfl ?_
    rw [up_up, tH_ob hT]
    have hT0 : tx X T N (p + 1) (nI (T p)) f g (tH h X N (p + 1) (nI (T p)) g) := tH_tx hT g (by omega)
    have hX0 := hT0.2.1
    refine V_aload_n 37 C dX0_readCommand_36 rfl rfl ?_
    refine V_get (k := 4) 40 C dX0_readCommand_37 rfl fcX0 tw216 (by decide) rfl hX0 rfl ?_
    refine V_case 99 (fun c40_99 => ?_) (fun n40_99 => ?_)
    · refine V_tsI 275 C dX0_readCommand_40 c40_99 (by decide) (by decide) (by decide) rfl (by decide) ?_
      refine V_aload_n 276 C dX0_readCommand_275 rfl rfl ?_
      refine V_iconst 277 C dX0_readCommand_276 rfl ic0 ?_
      refine V_callV 280 C dX0_readCommand_277 rfl mX0_readSheet tw287 fcX0 hX0 (c_X0_readSheet l G _ _ X N (p + 1) T (nI (T p)) f g hT0 0 (by omega)) rfl rfl (by decide) ⟨by omega, by omega⟩ (Nat.le_of_ble_eq_true rfl) ?_
      rintro _ _ _ ⟨rfl, rfl, rfl⟩
      rw [tH_tH]
      have hq0 : p + 1 ≤ (rSh T N (p + 1)).2 ∧ (rSh T N (p + 1)).2 ≤ N := by have := rn_p (T := T) (N := N) (lo := 0) (hi := 11) (k := 2) (v := 0) (p := (p + 1)) (by omega); exact ⟨Nat.le_trans (by omega) this.1, this.2⟩
      have hT1 : tx X T N (rSh T N (p + 1)).2 (nI (T p)) f (stn g 0 (rSh T N (p + 1)).1) (tH h X N (rSh T N (p + 1)).2 (nI (T p)) (stn g 0 (rSh T N (p + 1)).1)) := tH_tx hT _ hq0.2
      have hX1 := hT1.2.1
      refine V_if_eqB 299 283 C dX0_readCommand_280 (by decide) rfl  (fun c280 => ?_) (fun c280 => ?_)
      · have e0 : (rSh T N (p + 1)).1 = none := by cases hc : (rSh T N (p + 1)).1 with | none => rfl | some v => exact absurd (by rw [hc]; rfl) c280
        have hR : rcm T N p = (none, (rSh T N (p + 1)).2) := by rw [rcm_c c40_99, bd_n e0]
        have hb : nI 0 = nI (bp ((rcm T N p).1.isSome = true)) := by rw [hR]; rfl
        have hz : ∃ g', tH h X N (rSh T N (p + 1)).2 (nI (T p)) (stn g 0 (rSh T N (p + 1)).1) = tH h X N (rcm T N p).2 (nI (T p)) g' ∧ ∀ a b c, (rcm T N p).1 = some (a, b, c) → agr (ar (T p)) g' a b c := ⟨_, by rw [hR], fun a b c e => by rw [hR] at e; cases e⟩
        refine V_iconst 300 C dX0_readCommand_299 rfl ic0 ?_
        refine V_ireturn C dX0_readCommand_300 rfl (by decide) (by omega) (by omega) ?_
        exact ⟨by rw [← hb], rfl, hz⟩
      · obtain ⟨v0, e0⟩ := Option.isSome_iff_exists.mp c280
        refine V_aload_n 284 C dX0_readCommand_283 rfl rfl ?_
        refine V_iconst 285 C dX0_readCommand_284 rfl ic1 ?_
        refine V_iconst 286 C dX0_readCommand_285 rfl ic1 ?_
        refine V_iconst 287 C dX0_readCommand_286 rfl ic0 ?_
        refine V_bipush 289 C dX0_readCommand_287 rfl bip9 ?_
        refine V_callV 292 C dX0_readCommand_289 rfl mX0_readNumber tw275 fcX0 hX1 (c_X0_readNumber l G _ _ X N (rSh T N (p + 1)).2 T (nI (T p)) f (stn g 0 (rSh T N (p + 1)).1) hT1 1 1 0 9 (by omega) (by omega) (by omega) (by omega) (by omega)) rfl rfl (by decide) ⟨by omega, by omega⟩ (Nat.le_of_ble_eq_true rfl) ?_
        rintro _ _ _ ⟨rfl, rfl, rfl⟩
        rw [tH_tH]
        have hq1 : p + 1 ≤ (r9 T N (rSh T N (p + 1)).2).2 ∧ (r9 T N (rSh T N (p + 1)).2).2 ≤ N := by have := rn_p (T := T) (N := N) (lo := 0) (hi := 9) (k := 1) (v := 0) (p := (rSh T N (p + 1)).2) (by omega); exact ⟨Nat.le_trans (by omega) this.1, this.2⟩
        have hT2 : tx X T N (r9 T N (rSh T N (p + 1)).2).2 (nI (T p)) f (stn (stn g 0 (rSh T N (p + 1)).1) 1 (r9 T N (rSh T N (p + 1)).2).1) (tH h X N (r9 T N (rSh T N (p + 1)).2).2 (nI (T p)) (stn (stn g 0 (rSh T N (p + 1)).1) 1 (r9 T N (rSh T N (p + 1)).2).1)) := tH_tx hT _ hq1.2
        have hX2 := hT2.2.1
        refine V_if_eqB 299 295 C dX0_readCommand_292 (by decide) rfl  (fun c292 => ?_) (fun c292 => ?_)
        · have e1 : (r9 T N (rSh T N (p + 1)).2).1 = none := by cases hc : (r9 T N (rSh T N (p + 1)).2).1 with | none => rfl | some v => exact absurd (by rw [hc]; rfl) c292
          have hR : rcm T N p = (none, (r9 T N (rSh T N (p + 1)).2).2) := by rw [rcm_c c40_99, bd_s e0, bd_n e1]
          have hb : nI 0 = nI (bp ((rcm T N p).1.isSome = true)) := by rw [hR]; rfl
          have hz : ∃ g', tH h X N (r9 T N (rSh T N (p + 1)).2).2 (nI (T p)) (stn (stn g 0 (rSh T N (p + 1)).1) 1 (r9 T N (rSh T N (p + 1)).2).1) = tH h X N (rcm T N p).2 (nI (T p)) g' ∧ ∀ a b c, (rcm T N p).1 = some (a, b, c) → agr (ar (T p)) g' a b c := ⟨_, by rw [hR], fun a b c e => by rw [hR] at e; cases e⟩
          refine V_iconst 300 C dX0_readCommand_299 rfl ic0 ?_
          refine V_ireturn C dX0_readCommand_300 rfl (by decide) (by omega) (by omega) ?_
          exact ⟨by rw [← hb], rfl, hz⟩
        · obtain ⟨v1, e1⟩ := Option.isSome_iff_exists.mp c292
          have hR : rcm T N p = (some (v0, v1, 0), (r9 T N (rSh T N (p + 1)).2).2) := by rw [rcm_c c40_99, bd_s e0, bd_s e1]
          have ha : ar (T p) = 2 := by rw [c40_99]; rfl
          have hb : nI 1 = nI (bp ((rcm T N p).1.isSome = true)) := by rw [hR]; rfl
          have hz : ∃ g', tH h X N (r9 T N (rSh T N (p + 1)).2).2 (nI (T p)) (stn (stn g 0 (rSh T N (p + 1)).1) 1 (r9 T N (rSh T N (p + 1)).2).1) = tH h X N (rcm T N p).2 (nI (T p)) g' ∧ ∀ a b c, (rcm T N p).1 = some (a, b, c) → agr (ar (T p)) g' a b c := ⟨_, by rw [hR], fun a b c e => by rw [hR] at e; cases e; rw [ha]; exact ⟨(fun _ => by rw [e1]; simp only [stn]; rw [pk_un (by omega)]; rw [e0]; exact pk_us), (fun _ => by rw [e1]; exact pk_us), (fun h9 => absurd h9 (by omega))⟩⟩
          refine V_iconst 296 C dX0_readCommand_295 rfl ic1 ?_
          refine V_goto 300 C dX0_readCommand_296 (by decide) ?_
          refine V_ireturn C dX0_readCommand_300 rfl (by decide) (by omega) (by omega) ?_
          exact ⟨by rw [← hb], rfl, hz⟩
    · skip
      refine V_case 103 (fun c40_103 => ?_) (fun n40_103 => ?_)
      · refine V_tsI 249 C dX0_readCommand_40 c40_103 (by decide) (by decide) (by decide) rfl (by decide) ?_
        refine V_aload_n 250 C dX0_readCommand_249 rfl rfl ?_
        refine V_iconst 251 C dX0_readCommand_250 rfl ic0 ?_
        refine V_callV 254 C dX0_readCommand_251 rfl mX0_readRunner tw283 fcX0 hX0 (c_X0_readRunner l G _ _ X N (p + 1) T (nI (T p)) f g hT0 0 (by omega)) rfl rfl (by decide) ⟨by omega, by omega⟩ (Nat.le_of_ble_eq_true rfl) ?_
        rintro _ _ _ ⟨rfl, rfl, rfl⟩
        rw [tH_tH]
        have hq0 : p + 1 ≤ (rRu T N (p + 1)).2 ∧ (rRu T N (p + 1)).2 ≤ N := by have := rn_p (T := T) (N := N) (lo := 0) (hi := 4) (k := 1) (v := 0) (p := (p + 1)) (by omega); exact ⟨Nat.le_trans (by omega) this.1, this.2⟩
        have hT1 : tx X T N (rRu T N (p + 1)).2 (nI (T p)) f (stn g 0 (rRu T N (p + 1)).1) (tH h X N (rRu T N (p + 1)).2 (nI (T p)) (stn g 0 (rRu T N (p + 1)).1)) := tH_tx hT _ hq0.2
        have hX1 := hT1.2.1
        refine V_if_eqB 273 257 C dX0_readCommand_254 (by decide) rfl  (fun c254 => ?_) (fun c254 => ?_)
        · have e0 : (rRu T N (p + 1)).1 = none := by cases hc : (rRu T N (p + 1)).1 with | none => rfl | some v => exact absurd (by rw [hc]; rfl) c254
          have hR : rcm T N p = (none, (rRu T N (p + 1)).2) := by rw [rcm_g c40_103, bd_n e0]
          have hb : nI 0 = nI (bp ((rcm T N p).1.isSome = true)) := by rw [hR]; rfl
          have hz : ∃ g', tH h X N (rRu T N (p + 1)).2 (nI (T p)) (stn g 0 (rRu T N (p + 1)).1) = tH h X N (rcm T N p).2 (nI (T p)) g' ∧ ∀ a b c, (rcm T N p).1 = some (a, b, c) → agr (ar (T p)) g' a b c := ⟨_, by rw [hR], fun a b c e => by rw [hR] at e; cases e⟩
          refine V_iconst 274 C dX0_readCommand_273 rfl ic0 ?_
          refine V_ireturn C dX0_readCommand_274 rfl (by decide) (by omega) (by omega) ?_
          exact ⟨by rw [← hb], rfl, hz⟩
        · obtain ⟨v0, e0⟩ := Option.isSome_iff_exists.mp c254
          refine V_aload_n 258 C dX0_readCommand_257 rfl rfl ?_
          refine V_iconst 259 C dX0_readCommand_258 rfl ic1 ?_
          refine V_iconst 260 C dX0_readCommand_259 rfl ic1 ?_
          refine V_iconst 261 C dX0_readCommand_260 rfl ic0 ?_
          refine V_bipush 263 C dX0_readCommand_261 rfl bip9 ?_
          refine V_callV 266 C dX0_readCommand_263 rfl mX0_readNumber tw275 fcX0 hX1 (c_X0_readNumber l G _ _ X N (rRu T N (p + 1)).2 T (nI (T p)) f (stn g 0 (rRu T N (p + 1)).1) hT1 1 1 0 9 (by omega) (by omega) (by omega) (by omega) (by omega)) rfl rfl (by decide) ⟨by omega, by omega⟩ (Nat.le_of_ble_eq_true rfl) ?_
          rintro _ _ _ ⟨rfl, rfl, rfl⟩
          rw [tH_tH]
          have hq1 : p + 1 ≤ (r9 T N (rRu T N (p + 1)).2).2 ∧ (r9 T N (rRu T N (p + 1)).2).2 ≤ N := by have := rn_p (T := T) (N := N) (lo := 0) (hi := 9) (k := 1) (v := 0) (p := (rRu T N (p + 1)).2) (by omega); exact ⟨Nat.le_trans (by omega) this.1, this.2⟩
          have hT2 : tx X T N (r9 T N (rRu T N (p + 1)).2).2 (nI (T p)) f (stn (stn g 0 (rRu T N (p + 1)).1) 1 (r9 T N (rRu T N (p + 1)).2).1) (tH h X N (r9 T N (rRu T N (p + 1)).2).2 (nI (T p)) (stn (stn g 0 (rRu T N (p + 1)).1) 1 (r9 T N (rRu T N (p + 1)).2).1)) := tH_tx hT _ hq1.2
          have hX2 := hT2.2.1
          refine V_if_eqB 273 269 C dX0_readCommand_266 (by decide) rfl  (fun c266 => ?_) (fun c266 => ?_)
          · have e1 : (r9 T N (rRu T N (p + 1)).2).1 = none := by cases hc : (r9 T N (rRu T N (p + 1)).2).1 with | none => rfl | some v => exact absurd (by rw [hc]; rfl) c266
            have hR : rcm T N p = (none, (r9 T N (rRu T N (p + 1)).2).2) := by rw [rcm_g c40_103, bd_s e0, bd_n e1]
            have hb : nI 0 = nI (bp ((rcm T N p).1.isSome = true)) := by rw [hR]; rfl
            have hz : ∃ g', tH h X N (r9 T N (rRu T N (p + 1)).2).2 (nI (T p)) (stn (stn g 0 (rRu T N (p + 1)).1) 1 (r9 T N (rRu T N (p + 1)).2).1) = tH h X N (rcm T N p).2 (nI (T p)) g' ∧ ∀ a b c, (rcm T N p).1 = some (a, b, c) → agr (ar (T p)) g' a b c := ⟨_, by rw [hR], fun a b c e => by rw [hR] at e; cases e⟩
            refine V_iconst 274 C dX0_readCommand_273 rfl ic0 ?_
            refine V_ireturn C dX0_readCommand_274 rfl (by decide) (by omega) (by omega) ?_
            exact ⟨by rw [← hb], rfl, hz⟩
          · obtain ⟨v1, e1⟩ := Option.isSome_iff_exists.mp c266
            have hR : rcm T N p = (some (v0, v1, 0), (r9 T N (rRu T N (p + 1)).2).2) := by rw [rcm_g c40_103, bd_s e0, bd_s e1]
            have ha : ar (T p) = 2 := by rw [c40_103]; rfl
            have hb : nI 1 = nI (bp ((rcm T N p).1.isSome = true)) := by rw [hR]; rfl
            have hz : ∃ g', tH h X N (r9 T N (rRu T N (p + 1)).2).2 (nI (T p)) (stn (stn g 0 (rRu T N (p + 1)).1) 1 (r9 T N (rRu T N (p + 1)).2).1) = tH h X N (rcm T N p).2 (nI (T p)) g' ∧ ∀ a b c, (rcm T N p).1 = some (a, b, c) → agr (ar (T p)) g' a b c := ⟨_, by rw [hR], fun a b c e => by rw [hR] at e; cases e; rw [ha]; exact ⟨(fun _ => by rw [e1]; simp only [stn]; rw [pk_un (by omega)]; rw [e0]; exact pk_us), (fun _ => by rw [e1]; exact pk_us), (fun h9 => absurd h9 (by omega))⟩⟩
            refine V_iconst 270 C dX0_readCommand_269 rfl ic1 ?_
            refine V_goto 274 C dX0_readCommand_270 (by decide) ?_
            refine V_ireturn C dX0_readCommand_274 rfl (by decide) (by omega) (by omega) ?_
            exact ⟨by rw [← hb], rfl, hz⟩
      · skip
        refine V_case 104 (fun c40_104 => ?_) (fun n40_104 => ?_)
        · refine V_tsI 301 C dX0_readCommand_40 c40_104 (by decide) (by decide) (by decide) rfl (by decide) ?_
          refine V_aload_n 302 C dX0_readCommand_301 rfl rfl ?_
          refine V_iconst 303 C dX0_readCommand_302 rfl ic0 ?_
          refine V_iconst 304 C dX0_readCommand_303 rfl ic2 ?_
          refine V_iconst 305 C dX0_readCommand_304 rfl ic1 ?_
          refine V_bipush 307 C dX0_readCommand_305 rfl bip60 ?_
          refine V_callV 310 C dX0_readCommand_307 rfl mX0_readNumber tw275 fcX0 hX0 (c_X0_readNumber l G _ _ X N (p + 1) T (nI (T p)) f g hT0 0 2 1 60 (by omega) (by omega) (by omega) (by omega) (by omega)) rfl rfl (by decide) ⟨by omega, by omega⟩ (Nat.le_of_ble_eq_true rfl) ?_
          rintro _ _ _ ⟨rfl, rfl, rfl⟩
          rw [tH_tH]
          have hq0 : p + 1 ≤ (rn T N 1 60 2 0 (p + 1)).2 ∧ (rn T N 1 60 2 0 (p + 1)).2 ≤ N := by have := rn_p (T := T) (N := N) (lo := 1) (hi := 60) (k := 2) (v := 0) (p := (p + 1)) (by omega); exact ⟨Nat.le_trans (by omega) this.1, this.2⟩
          have hT1 : tx X T N (rn T N 1 60 2 0 (p + 1)).2 (nI (T p)) f (stn g 0 (rn T N 1 60 2 0 (p + 1)).1) (tH h X N (rn T N 1 60 2 0 (p + 1)).2 (nI (T p)) (stn g 0 (rn T N 1 60 2 0 (p + 1)).1)) := tH_tx hT _ hq0.2
          have hX1 := hT1.2.1
          refine V_ireturn C dX0_readCommand_310 rfl (nar_b _) (by omega) (by omega) ?_
          exact (by
            cases hc : (rn T N 1 60 2 0 (p + 1)).1 with
            | none =>
              have hR : rcm T N p = (none, (rn T N 1 60 2 0 (p + 1)).2) := by rw [rcm_h c40_104, bd_n hc]
              exact ⟨by rw [hR]; rfl, rfl, _, by rw [hR], fun a b c e => by rw [hR] at e; cases e⟩
            | some v =>
              have hR : rcm T N p = (some (v, 0, 0), (rn T N 1 60 2 0 (p + 1)).2) := by rw [rcm_h c40_104, bd_s hc]
              exact ⟨by rw [hR]; rfl, rfl, _, by rw [hR], fun a b c e => by rw [hR] at e; cases e; rw [show ar (T p) = 1 from by rw [c40_104]; rfl]; exact ⟨fun _ => by exact pk_us, fun h9 => absurd h9 (by omega), fun h9 => absurd h9 (by omega)⟩⟩)
        · skip
          refine V_case 107 (fun c40_107 => ?_) (fun n40_107 => ?_)
          · refine V_tsI 221 C dX0_readCommand_40 c40_107 (by decide) (by decide) (by decide) rfl (by decide) ?_
            refine V_aload_n 222 C dX0_readCommand_221 rfl rfl ?_
            refine V_iconst 223 C dX0_readCommand_222 rfl ic0 ?_
            refine V_callV 226 C dX0_readCommand_223 rfl mX0_readRunner tw283 fcX0 hX0 (c_X0_readRunner l G _ _ X N (p + 1) T (nI (T p)) f g hT0 0 (by omega)) rfl rfl (by decide) ⟨by omega, by omega⟩ (Nat.le_of_ble_eq_true rfl) ?_
            rintro _ _ _ ⟨rfl, rfl, rfl⟩
            rw [tH_tH]
            have hq0 : p + 1 ≤ (rRu T N (p + 1)).2 ∧ (rRu T N (p + 1)).2 ≤ N := by have := rn_p (T := T) (N := N) (lo := 0) (hi := 4) (k := 1) (v := 0) (p := (p + 1)) (by omega); exact ⟨Nat.le_trans (by omega) this.1, this.2⟩
            have hT1 : tx X T N (rRu T N (p + 1)).2 (nI (T p)) f (stn g 0 (rRu T N (p + 1)).1) (tH h X N (rRu T N (p + 1)).2 (nI (T p)) (stn g 0 (rRu T N (p + 1)).1)) := tH_tx hT _ hq0.2
            have hX1 := hT1.2.1
            refine V_if_eqB 241 229 C dX0_readCommand_226 (by decide) rfl  (fun c226 => ?_) (fun c226 => ?_)
            · have e0 : (rRu T N (p + 1)).1 = none := by cases hc : (rRu T N (p + 1)).1 with | none => rfl | some v => exact absurd (by rw [hc]; rfl) c226
              have hR : rcm T N p = (none, (rRu T N (p + 1)).2) := by rw [rcm_k c40_107, bd_n e0]
              have hb : nI 0 = nI (bp ((rcm T N p).1.isSome = true)) := by rw [hR]; rfl
              have hz : ∃ g', tH h X N (rRu T N (p + 1)).2 (nI (T p)) (stn g 0 (rRu T N (p + 1)).1) = tH h X N (rcm T N p).2 (nI (T p)) g' ∧ ∀ a b c, (rcm T N p).1 = some (a, b, c) → agr (ar (T p)) g' a b c := ⟨_, by rw [hR], fun a b c e => by rw [hR] at e; cases e⟩
              refine V_iconst 242 C dX0_readCommand_241 rfl ic0 ?_
              refine V_ireturn C dX0_readCommand_242 rfl (by decide) (by omega) (by omega) ?_
              exact ⟨by rw [← hb], rfl, hz⟩
            · obtain ⟨v0, e0⟩ := Option.isSome_iff_exists.mp c226
              refine V_aload_n 230 C dX0_readCommand_229 rfl rfl ?_
              refine V_iconst 231 C dX0_readCommand_230 rfl ic1 ?_
              refine V_callV 234 C dX0_readCommand_231 rfl mX0_readSheet tw287 fcX0 hX1 (c_X0_readSheet l G _ _ X N (rRu T N (p + 1)).2 T (nI (T p)) f (stn g 0 (rRu T N (p + 1)).1) hT1 1 (by omega)) rfl rfl (by decide) ⟨by omega, by omega⟩ (Nat.le_of_ble_eq_true rfl) ?_
              rintro _ _ _ ⟨rfl, rfl, rfl⟩
              rw [tH_tH]
              have hq1 : p + 1 ≤ (rSh T N (rRu T N (p + 1)).2).2 ∧ (rSh T N (rRu T N (p + 1)).2).2 ≤ N := by have := rn_p (T := T) (N := N) (lo := 0) (hi := 11) (k := 2) (v := 0) (p := (rRu T N (p + 1)).2) (by omega); exact ⟨Nat.le_trans (by omega) this.1, this.2⟩
              have hT2 : tx X T N (rSh T N (rRu T N (p + 1)).2).2 (nI (T p)) f (stn (stn g 0 (rRu T N (p + 1)).1) 1 (rSh T N (rRu T N (p + 1)).2).1) (tH h X N (rSh T N (rRu T N (p + 1)).2).2 (nI (T p)) (stn (stn g 0 (rRu T N (p + 1)).1) 1 (rSh T N (rRu T N (p + 1)).2).1)) := tH_tx hT _ hq1.2
              have hX2 := hT2.2.1
              refine V_if_eqB 241 237 C dX0_readCommand_234 (by decide) rfl  (fun c234 => ?_) (fun c234 => ?_)
              · have e1 : (rSh T N (rRu T N (p + 1)).2).1 = none := by cases hc : (rSh T N (rRu T N (p + 1)).2).1 with | none => rfl | some v => exact absurd (by rw [hc]; rfl) c234
                have hR : rcm T N p = (none, (rSh T N (rRu T N (p + 1)).2).2) := by rw [rcm_k c40_107, bd_s e0, bd_n e1]
                have hb : nI 0 = nI (bp ((rcm T N p).1.isSome = true)) := by rw [hR]; rfl
                have hz : ∃ g', tH h X N (rSh T N (rRu T N (p + 1)).2).2 (nI (T p)) (stn (stn g 0 (rRu T N (p + 1)).1) 1 (rSh T N (rRu T N (p + 1)).2).1) = tH h X N (rcm T N p).2 (nI (T p)) g' ∧ ∀ a b c, (rcm T N p).1 = some (a, b, c) → agr (ar (T p)) g' a b c := ⟨_, by rw [hR], fun a b c e => by rw [hR] at e; cases e⟩
                refine V_iconst 242 C dX0_readCommand_241 rfl ic0 ?_
                refine V_ireturn C dX0_readCommand_242 rfl (by decide) (by omega) (by omega) ?_
                exact ⟨by rw [← hb], rfl, hz⟩
              · obtain ⟨v1, e1⟩ := Option.isSome_iff_exists.mp c234
                have hR : rcm T N p = (some (v0, v1, 0), (rSh T N (rRu T N (p + 1)).2).2) := by rw [rcm_k c40_107, bd_s e0, bd_s e1]
                have ha : ar (T p) = 2 := by rw [c40_107]; rfl
                have hb : nI 1 = nI (bp ((rcm T N p).1.isSome = true)) := by rw [hR]; rfl
                have hz : ∃ g', tH h X N (rSh T N (rRu T N (p + 1)).2).2 (nI (T p)) (stn (stn g 0 (rRu T N (p + 1)).1) 1 (rSh T N (rRu T N (p + 1)).2).1) = tH h X N (rcm T N p).2 (nI (T p)) g' ∧ ∀ a b c, (rcm T N p).1 = some (a, b, c) → agr (ar (T p)) g' a b c := ⟨_, by rw [hR], fun a b c e => by rw [hR] at e; cases e; rw [ha]; exact ⟨(fun _ => by rw [e1]; simp only [stn]; rw [pk_un (by omega)]; rw [e0]; exact pk_us), (fun _ => by rw [e1]; exact pk_us), (fun h9 => absurd h9 (by omega))⟩⟩
                refine V_iconst 238 C dX0_readCommand_237 rfl ic1 ?_
                refine V_goto 242 C dX0_readCommand_238 (by decide) ?_
                refine V_ireturn C dX0_readCommand_242 rfl (by decide) (by omega) (by omega) ?_
                exact ⟨by rw [← hb], rfl, hz⟩
          · skip
            refine V_case 108 (fun c40_108 => ?_) (fun n40_108 => ?_)
            · refine V_tsI 243 C dX0_readCommand_40 c40_108 (by decide) (by decide) (by decide) rfl (by decide) ?_
              refine V_aload_n 244 C dX0_readCommand_243 rfl rfl ?_
              refine V_iconst 245 C dX0_readCommand_244 rfl ic0 ?_
              refine V_callV 248 C dX0_readCommand_245 rfl mX0_readSheet tw287 fcX0 hX0 (c_X0_readSheet l G _ _ X N (p + 1) T (nI (T p)) f g hT0 0 (by omega)) rfl rfl (by decide) ⟨by omega, by omega⟩ (Nat.le_of_ble_eq_true rfl) ?_
              rintro _ _ _ ⟨rfl, rfl, rfl⟩
              rw [tH_tH]
              have hq0 : p + 1 ≤ (rSh T N (p + 1)).2 ∧ (rSh T N (p + 1)).2 ≤ N := by have := rn_p (T := T) (N := N) (lo := 0) (hi := 11) (k := 2) (v := 0) (p := (p + 1)) (by omega); exact ⟨Nat.le_trans (by omega) this.1, this.2⟩
              have hT1 : tx X T N (rSh T N (p + 1)).2 (nI (T p)) f (stn g 0 (rSh T N (p + 1)).1) (tH h X N (rSh T N (p + 1)).2 (nI (T p)) (stn g 0 (rSh T N (p + 1)).1)) := tH_tx hT _ hq0.2
              have hX1 := hT1.2.1
              refine V_ireturn C dX0_readCommand_248 rfl (nar_b _) (by omega) (by omega) ?_
              exact (by
                cases hc : (rSh T N (p + 1)).1 with
                | none =>
                  have hR : rcm T N p = (none, (rSh T N (p + 1)).2) := by rw [rcm_l c40_108, bd_n hc]
                  exact ⟨by rw [hR]; rfl, rfl, _, by rw [hR], fun a b c e => by rw [hR] at e; cases e⟩
                | some v =>
                  have hR : rcm T N p = (some (v, 0, 0), (rSh T N (p + 1)).2) := by rw [rcm_l c40_108, bd_s hc]
                  exact ⟨by rw [hR]; rfl, rfl, _, by rw [hR], fun a b c e => by rw [hR] at e; cases e; rw [show ar (T p) = 1 from by rw [c40_108]; rfl]; exact ⟨fun _ => by exact pk_us, fun h9 => absurd h9 (by omega), fun h9 => absurd h9 (by omega)⟩⟩)
            · skip
              refine V_case 114 (fun c40_114 => ?_) (fun n40_114 => ?_)
              · refine V_tsI 142 C dX0_readCommand_40 c40_114 (by decide) (by decide) (by decide) rfl (by decide) ?_
                refine V_aload_n 143 C dX0_readCommand_142 rfl rfl ?_
                refine V_iconst 144 C dX0_readCommand_143 rfl ic0 ?_
                refine V_callV 147 C dX0_readCommand_144 rfl mX0_readTown tw271 fcX0 hX0 (c_X0_readTown l G _ _ X N (p + 1) T (nI (T p)) f g hT0 0 (by omega)) rfl rfl (by decide) ⟨by omega, by omega⟩ (Nat.le_of_ble_eq_true rfl) ?_
                rintro _ _ _ ⟨rfl, rfl, rfl⟩
                rw [tH_tH]
                have hq0 : p + 1 ≤ (rTn T N (p + 1)).2 ∧ (rTn T N (p + 1)).2 ≤ N := by have := rn_p (T := T) (N := N) (lo := 0) (hi := 5) (k := 1) (v := 0) (p := (p + 1)) (by omega); exact ⟨Nat.le_trans (by omega) this.1, this.2⟩
                have hT1 : tx X T N (rTn T N (p + 1)).2 (nI (T p)) f (stn g 0 (rTn T N (p + 1)).1) (tH h X N (rTn T N (p + 1)).2 (nI (T p)) (stn g 0 (rTn T N (p + 1)).1)) := tH_tx hT _ hq0.2
                have hX1 := hT1.2.1
                refine V_if_eqB 174 150 C dX0_readCommand_147 (by decide) rfl  (fun c147 => ?_) (fun c147 => ?_)
                · have e0 : (rTn T N (p + 1)).1 = none := by cases hc : (rTn T N (p + 1)).1 with | none => rfl | some v => exact absurd (by rw [hc]; rfl) c147
                  have hR : rcm T N p = (none, (rTn T N (p + 1)).2) := by rw [rcm_r c40_114, bd_n e0]
                  have hb : nI 0 = nI (bp ((rcm T N p).1.isSome = true)) := by rw [hR]; rfl
                  have hz : ∃ g', tH h X N (rTn T N (p + 1)).2 (nI (T p)) (stn g 0 (rTn T N (p + 1)).1) = tH h X N (rcm T N p).2 (nI (T p)) g' ∧ ∀ a b c, (rcm T N p).1 = some (a, b, c) → agr (ar (T p)) g' a b c := ⟨_, by rw [hR], fun a b c e => by rw [hR] at e; cases e⟩
                  refine V_iconst 175 C dX0_readCommand_174 rfl ic0 ?_
                  refine V_ireturn C dX0_readCommand_175 rfl (by decide) (by omega) (by omega) ?_
                  exact ⟨by rw [← hb], rfl, hz⟩
                · obtain ⟨v0, e0⟩ := Option.isSome_iff_exists.mp c147
                  refine V_aload_n 151 C dX0_readCommand_150 rfl rfl ?_
                  refine V_iconst 152 C dX0_readCommand_151 rfl ic1 ?_
                  refine V_callV 155 C dX0_readCommand_152 rfl mX0_readTown tw271 fcX0 hX1 (c_X0_readTown l G _ _ X N (rTn T N (p + 1)).2 T (nI (T p)) f (stn g 0 (rTn T N (p + 1)).1) hT1 1 (by omega)) rfl rfl (by decide) ⟨by omega, by omega⟩ (Nat.le_of_ble_eq_true rfl) ?_
                  rintro _ _ _ ⟨rfl, rfl, rfl⟩
                  rw [tH_tH]
                  have hq1 : p + 1 ≤ (rTn T N (rTn T N (p + 1)).2).2 ∧ (rTn T N (rTn T N (p + 1)).2).2 ≤ N := by have := rn_p (T := T) (N := N) (lo := 0) (hi := 5) (k := 1) (v := 0) (p := (rTn T N (p + 1)).2) (by omega); exact ⟨Nat.le_trans (by omega) this.1, this.2⟩
                  have hT2 : tx X T N (rTn T N (rTn T N (p + 1)).2).2 (nI (T p)) f (stn (stn g 0 (rTn T N (p + 1)).1) 1 (rTn T N (rTn T N (p + 1)).2).1) (tH h X N (rTn T N (rTn T N (p + 1)).2).2 (nI (T p)) (stn (stn g 0 (rTn T N (p + 1)).1) 1 (rTn T N (rTn T N (p + 1)).2).1)) := tH_tx hT _ hq1.2
                  have hX2 := hT2.2.1
                  refine V_if_eqB 174 158 C dX0_readCommand_155 (by decide) rfl  (fun c155 => ?_) (fun c155 => ?_)
                  · have e1 : (rTn T N (rTn T N (p + 1)).2).1 = none := by cases hc : (rTn T N (rTn T N (p + 1)).2).1 with | none => rfl | some v => exact absurd (by rw [hc]; rfl) c155
                    have hR : rcm T N p = (none, (rTn T N (rTn T N (p + 1)).2).2) := by rw [rcm_r c40_114, bd_s e0, bd_n e1]
                    have hb : nI 0 = nI (bp ((rcm T N p).1.isSome = true)) := by rw [hR]; rfl
                    have hz : ∃ g', tH h X N (rTn T N (rTn T N (p + 1)).2).2 (nI (T p)) (stn (stn g 0 (rTn T N (p + 1)).1) 1 (rTn T N (rTn T N (p + 1)).2).1) = tH h X N (rcm T N p).2 (nI (T p)) g' ∧ ∀ a b c, (rcm T N p).1 = some (a, b, c) → agr (ar (T p)) g' a b c := ⟨_, by rw [hR], fun a b c e => by rw [hR] at e; cases e⟩
                    refine V_iconst 175 C dX0_readCommand_174 rfl ic0 ?_
                    refine V_ireturn C dX0_readCommand_175 rfl (by decide) (by omega) (by omega) ?_
                    exact ⟨by rw [← hb], rfl, hz⟩
                  · obtain ⟨v1, e1⟩ := Option.isSome_iff_exists.mp c155
                    refine V_aload_n 159 C dX0_readCommand_158 rfl rfl ?_
                    refine V_iconst 160 C dX0_readCommand_159 rfl ic2 ?_
                    refine V_iconst 161 C dX0_readCommand_160 rfl ic2 ?_
                    refine V_iconst 162 C dX0_readCommand_161 rfl ic1 ?_
                    refine V_bipush 164 C dX0_readCommand_162 rfl bip20 ?_
                    refine V_callV 167 C dX0_readCommand_164 rfl mX0_readNumber tw275 fcX0 hX2 (c_X0_readNumber l G _ _ X N (rTn T N (rTn T N (p + 1)).2).2 T (nI (T p)) f (stn (stn g 0 (rTn T N (p + 1)).1) 1 (rTn T N (rTn T N (p + 1)).2).1) hT2 2 2 1 20 (by omega) (by omega) (by omega) (by omega) (by omega)) rfl rfl (by decide) ⟨by omega, by omega⟩ (Nat.le_of_ble_eq_true rfl) ?_
                    rintro _ _ _ ⟨rfl, rfl, rfl⟩
                    rw [tH_tH]
                    have hq2 : p + 1 ≤ (rn T N 1 20 2 0 (rTn T N (rTn T N (p + 1)).2).2).2 ∧ (rn T N 1 20 2 0 (rTn T N (rTn T N (p + 1)).2).2).2 ≤ N := by have := rn_p (T := T) (N := N) (lo := 1) (hi := 20) (k := 2) (v := 0) (p := (rTn T N (rTn T N (p + 1)).2).2) (by omega); exact ⟨Nat.le_trans (by omega) this.1, this.2⟩
                    have hT3 : tx X T N (rn T N 1 20 2 0 (rTn T N (rTn T N (p + 1)).2).2).2 (nI (T p)) f (stn (stn (stn g 0 (rTn T N (p + 1)).1) 1 (rTn T N (rTn T N (p + 1)).2).1) 2 (rn T N 1 20 2 0 (rTn T N (rTn T N (p + 1)).2).2).1) (tH h X N (rn T N 1 20 2 0 (rTn T N (rTn T N (p + 1)).2).2).2 (nI (T p)) (stn (stn (stn g 0 (rTn T N (p + 1)).1) 1 (rTn T N (rTn T N (p + 1)).2).1) 2 (rn T N 1 20 2 0 (rTn T N (rTn T N (p + 1)).2).2).1)) := tH_tx hT _ hq2.2
                    have hX3 := hT3.2.1
                    refine V_if_eqB 174 170 C dX0_readCommand_167 (by decide) rfl  (fun c167 => ?_) (fun c167 => ?_)
                    · have e2 : (rn T N 1 20 2 0 (rTn T N (rTn T N (p + 1)).2).2).1 = none := by cases hc : (rn T N 1 20 2 0 (rTn T N (rTn T N (p + 1)).2).2).1 with | none => rfl | some v => exact absurd (by rw [hc]; rfl) c167
                      have hR : rcm T N p = (none, (rn T N 1 20 2 0 (rTn T N (rTn T N (p + 1)).2).2).2) := by rw [rcm_r c40_114, bd_s e0, bd_s e1, bd_n e2]
                      have hb : nI 0 = nI (bp ((rcm T N p).1.isSome = true)) := by rw [hR]; rfl
                      have hz : ∃ g', tH h X N (rn T N 1 20 2 0 (rTn T N (rTn T N (p + 1)).2).2).2 (nI (T p)) (stn (stn (stn g 0 (rTn T N (p + 1)).1) 1 (rTn T N (rTn T N (p + 1)).2).1) 2 (rn T N 1 20 2 0 (rTn T N (rTn T N (p + 1)).2).2).1) = tH h X N (rcm T N p).2 (nI (T p)) g' ∧ ∀ a b c, (rcm T N p).1 = some (a, b, c) → agr (ar (T p)) g' a b c := ⟨_, by rw [hR], fun a b c e => by rw [hR] at e; cases e⟩
                      refine V_iconst 175 C dX0_readCommand_174 rfl ic0 ?_
                      refine V_ireturn C dX0_readCommand_175 rfl (by decide) (by omega) (by omega) ?_
                      exact ⟨by rw [← hb], rfl, hz⟩
                    · obtain ⟨v2, e2⟩ := Option.isSome_iff_exists.mp c167
                      have hR : rcm T N p = (some (v0, v1, v2), (rn T N 1 20 2 0 (rTn T N (rTn T N (p + 1)).2).2).2) := by rw [rcm_r c40_114, bd_s e0, bd_s e1, bd_s e2]
                      have ha : ar (T p) = 3 := by rw [c40_114]; rfl
                      have hb : nI 1 = nI (bp ((rcm T N p).1.isSome = true)) := by rw [hR]; rfl
                      have hz : ∃ g', tH h X N (rn T N 1 20 2 0 (rTn T N (rTn T N (p + 1)).2).2).2 (nI (T p)) (stn (stn (stn g 0 (rTn T N (p + 1)).1) 1 (rTn T N (rTn T N (p + 1)).2).1) 2 (rn T N 1 20 2 0 (rTn T N (rTn T N (p + 1)).2).2).1) = tH h X N (rcm T N p).2 (nI (T p)) g' ∧ ∀ a b c, (rcm T N p).1 = some (a, b, c) → agr (ar (T p)) g' a b c := ⟨_, by rw [hR], fun a b c e => by rw [hR] at e; cases e; rw [ha]; exact ⟨(fun _ => by rw [e2]; simp only [stn]; rw [pk_un (by omega)]; rw [e1]; simp only [stn]; rw [pk_un (by omega)]; rw [e0]; exact pk_us), (fun _ => by rw [e2]; simp only [stn]; rw [pk_un (by omega)]; rw [e1]; exact pk_us), (fun _ => by rw [e2]; exact pk_us)⟩⟩
                      refine V_iconst 171 C dX0_readCommand_170 rfl ic1 ?_
                      refine V_goto 175 C dX0_readCommand_171 (by decide) ?_
                      refine V_ireturn C dX0_readCommand_175 rfl (by decide) (by omega) (by omega) ?_
                      exact ⟨by rw [← hb], rfl, hz⟩
              · skip
                refine V_case 116 (fun c40_116 => ?_) (fun n40_116 => ?_)
                · refine V_tsI 140 C dX0_readCommand_40 c40_116 (by decide) (by decide) (by decide) rfl (by decide) ?_
                  refine V_iconst 141 C dX0_readCommand_140 rfl ic1 ?_
                  refine V_ireturn C dX0_readCommand_141 rfl (by decide) (by omega) (by omega) ?_
                  exact (by have hR := rcm_t (N := N) c40_116; exact ⟨by rw [hR]; rfl, rfl, _, by rw [hR], fun a b c e => by rw [show ar (T p) = 0 from by rw [c40_116]; rfl]; exact ⟨fun h9 => absurd h9 (by omega), fun h9 => absurd h9 (by omega), fun h9 => absurd h9 (by omega)⟩⟩)
                · skip
                  refine V_case 117 (fun c40_117 => ?_) (fun n40_117 => ?_)
                  · refine V_tsI 176 C dX0_readCommand_40 c40_117 (by decide) (by decide) (by decide) rfl (by decide) ?_
                    refine V_aload_n 177 C dX0_readCommand_176 rfl rfl ?_
                    refine V_iconst 178 C dX0_readCommand_177 rfl ic0 ?_
                    refine V_callV 181 C dX0_readCommand_178 rfl mX0_readTown tw271 fcX0 hX0 (c_X0_readTown l G _ _ X N (p + 1) T (nI (T p)) f g hT0 0 (by omega)) rfl rfl (by decide) ⟨by omega, by omega⟩ (Nat.le_of_ble_eq_true rfl) ?_
                    rintro _ _ _ ⟨rfl, rfl, rfl⟩
                    rw [tH_tH]
                    have hq0 : p + 1 ≤ (rTn T N (p + 1)).2 ∧ (rTn T N (p + 1)).2 ≤ N := by have := rn_p (T := T) (N := N) (lo := 0) (hi := 5) (k := 1) (v := 0) (p := (p + 1)) (by omega); exact ⟨Nat.le_trans (by omega) this.1, this.2⟩
                    have hT1 : tx X T N (rTn T N (p + 1)).2 (nI (T p)) f (stn g 0 (rTn T N (p + 1)).1) (tH h X N (rTn T N (p + 1)).2 (nI (T p)) (stn g 0 (rTn T N (p + 1)).1)) := tH_tx hT _ hq0.2
                    have hX1 := hT1.2.1
                    refine V_ireturn C dX0_readCommand_181 rfl (nar_b _) (by omega) (by omega) ?_
                    exact (by
                      cases hc : (rTn T N (p + 1)).1 with
                      | none =>
                        have hR : rcm T N p = (none, (rTn T N (p + 1)).2) := by rw [rcm_u c40_117, bd_n hc]
                        exact ⟨by rw [hR]; rfl, rfl, _, by rw [hR], fun a b c e => by rw [hR] at e; cases e⟩
                      | some v =>
                        have hR : rcm T N p = (some (v, 0, 0), (rTn T N (p + 1)).2) := by rw [rcm_u c40_117, bd_s hc]
                        exact ⟨by rw [hR]; rfl, rfl, _, by rw [hR], fun a b c e => by rw [hR] at e; cases e; rw [show ar (T p) = 1 from by rw [c40_117]; rfl]; exact ⟨fun _ => by exact pk_us, fun h9 => absurd h9 (by omega), fun h9 => absurd h9 (by omega)⟩⟩)
                  · skip
                    refine V_case 119 (fun c40_119 => ?_) (fun n40_119 => ?_)
                    · refine V_tsI 182 C dX0_readCommand_40 c40_119 (by decide) (by decide) (by decide) rfl (by decide) ?_
                      refine V_aload_n 183 C dX0_readCommand_182 rfl rfl ?_
                      refine V_iconst 184 C dX0_readCommand_183 rfl ic0 ?_
                      refine V_callV 187 C dX0_readCommand_184 rfl mX0_readTown tw271 fcX0 hX0 (c_X0_readTown l G _ _ X N (p + 1) T (nI (T p)) f g hT0 0 (by omega)) rfl rfl (by decide) ⟨by omega, by omega⟩ (Nat.le_of_ble_eq_true rfl) ?_
                      rintro _ _ _ ⟨rfl, rfl, rfl⟩
                      rw [tH_tH]
                      have hq0 : p + 1 ≤ (rTn T N (p + 1)).2 ∧ (rTn T N (p + 1)).2 ≤ N := by have := rn_p (T := T) (N := N) (lo := 0) (hi := 5) (k := 1) (v := 0) (p := (p + 1)) (by omega); exact ⟨Nat.le_trans (by omega) this.1, this.2⟩
                      have hT1 : tx X T N (rTn T N (p + 1)).2 (nI (T p)) f (stn g 0 (rTn T N (p + 1)).1) (tH h X N (rTn T N (p + 1)).2 (nI (T p)) (stn g 0 (rTn T N (p + 1)).1)) := tH_tx hT _ hq0.2
                      have hX1 := hT1.2.1
                      refine V_if_eqB 219 190 C dX0_readCommand_187 (by decide) rfl  (fun c187 => ?_) (fun c187 => ?_)
                      · have e0 : (rTn T N (p + 1)).1 = none := by cases hc : (rTn T N (p + 1)).1 with | none => rfl | some v => exact absurd (by rw [hc]; rfl) c187
                        have hR : rcm T N p = (none, (rTn T N (p + 1)).2) := by rw [rcm_w c40_119, bd_n e0]
                        have hb : nI 0 = nI (bp ((rcm T N p).1.isSome = true)) := by rw [hR]; rfl
                        have hz : ∃ g', tH h X N (rTn T N (p + 1)).2 (nI (T p)) (stn g 0 (rTn T N (p + 1)).1) = tH h X N (rcm T N p).2 (nI (T p)) g' ∧ ∀ a b c, (rcm T N p).1 = some (a, b, c) → agr (ar (T p)) g' a b c := ⟨_, by rw [hR], fun a b c e => by rw [hR] at e; cases e⟩
                        refine V_iconst 220 C dX0_readCommand_219 rfl ic0 ?_
                        refine V_ireturn C dX0_readCommand_220 rfl (by decide) (by omega) (by omega) ?_
                        exact ⟨by rw [← hb], rfl, hz⟩
                      · obtain ⟨v0, e0⟩ := Option.isSome_iff_exists.mp c187
                        refine V_aload_n 191 C dX0_readCommand_190 rfl rfl ?_
                        refine V_iconst 192 C dX0_readCommand_191 rfl ic1 ?_
                        refine V_bipush 194 C dX0_readCommand_192 rfl bip6 ?_
                        refine V_iconst 195 C dX0_readCommand_194 rfl ic0 ?_
                        refine V_ldc 197 C dX0_readCommand_195 rfl tw282 ?_
                        refine V_callV 200 C dX0_readCommand_197 rfl mX0_readNumber tw275 fcX0 hX1 (c_X0_readNumber l G _ _ X N (rTn T N (p + 1)).2 T (nI (T p)) f (stn g 0 (rTn T N (p + 1)).1) hT1 1 6 0 999999 (by omega) (by omega) (by omega) (by omega) (by omega)) rfl rfl (by decide) ⟨by omega, by omega⟩ (Nat.le_of_ble_eq_true rfl) ?_
                        rintro _ _ _ ⟨rfl, rfl, rfl⟩
                        rw [tH_tH]
                        have hq1 : p + 1 ≤ (rn T N 0 999999 6 0 (rTn T N (p + 1)).2).2 ∧ (rn T N 0 999999 6 0 (rTn T N (p + 1)).2).2 ≤ N := by have := rn_p (T := T) (N := N) (lo := 0) (hi := 999999) (k := 6) (v := 0) (p := (rTn T N (p + 1)).2) (by omega); exact ⟨Nat.le_trans (by omega) this.1, this.2⟩
                        have hT2 : tx X T N (rn T N 0 999999 6 0 (rTn T N (p + 1)).2).2 (nI (T p)) f (stn (stn g 0 (rTn T N (p + 1)).1) 1 (rn T N 0 999999 6 0 (rTn T N (p + 1)).2).1) (tH h X N (rn T N 0 999999 6 0 (rTn T N (p + 1)).2).2 (nI (T p)) (stn (stn g 0 (rTn T N (p + 1)).1) 1 (rn T N 0 999999 6 0 (rTn T N (p + 1)).2).1)) := tH_tx hT _ hq1.2
                        have hX2 := hT2.2.1
                        refine V_if_eqB 219 203 C dX0_readCommand_200 (by decide) rfl  (fun c200 => ?_) (fun c200 => ?_)
                        · have e1 : (rn T N 0 999999 6 0 (rTn T N (p + 1)).2).1 = none := by cases hc : (rn T N 0 999999 6 0 (rTn T N (p + 1)).2).1 with | none => rfl | some v => exact absurd (by rw [hc]; rfl) c200
                          have hR : rcm T N p = (none, (rn T N 0 999999 6 0 (rTn T N (p + 1)).2).2) := by rw [rcm_w c40_119, bd_s e0, bd_n e1]
                          have hb : nI 0 = nI (bp ((rcm T N p).1.isSome = true)) := by rw [hR]; rfl
                          have hz : ∃ g', tH h X N (rn T N 0 999999 6 0 (rTn T N (p + 1)).2).2 (nI (T p)) (stn (stn g 0 (rTn T N (p + 1)).1) 1 (rn T N 0 999999 6 0 (rTn T N (p + 1)).2).1) = tH h X N (rcm T N p).2 (nI (T p)) g' ∧ ∀ a b c, (rcm T N p).1 = some (a, b, c) → agr (ar (T p)) g' a b c := ⟨_, by rw [hR], fun a b c e => by rw [hR] at e; cases e⟩
                          refine V_iconst 220 C dX0_readCommand_219 rfl ic0 ?_
                          refine V_ireturn C dX0_readCommand_220 rfl (by decide) (by omega) (by omega) ?_
                          exact ⟨by rw [← hb], rfl, hz⟩
                        · obtain ⟨v1, e1⟩ := Option.isSome_iff_exists.mp c200
                          refine V_aload_n 204 C dX0_readCommand_203 rfl rfl ?_
                          refine V_iconst 205 C dX0_readCommand_204 rfl ic2 ?_
                          refine V_iconst 206 C dX0_readCommand_205 rfl ic1 ?_
                          refine V_iconst 207 C dX0_readCommand_206 rfl ic0 ?_
                          refine V_bipush 209 C dX0_readCommand_207 rfl bip9 ?_
                          refine V_callV 212 C dX0_readCommand_209 rfl mX0_readNumber tw275 fcX0 hX2 (c_X0_readNumber l G _ _ X N (rn T N 0 999999 6 0 (rTn T N (p + 1)).2).2 T (nI (T p)) f (stn (stn g 0 (rTn T N (p + 1)).1) 1 (rn T N 0 999999 6 0 (rTn T N (p + 1)).2).1) hT2 2 1 0 9 (by omega) (by omega) (by omega) (by omega) (by omega)) rfl rfl (by decide) ⟨by omega, by omega⟩ (Nat.le_of_ble_eq_true rfl) ?_
                          rintro _ _ _ ⟨rfl, rfl, rfl⟩
                          rw [tH_tH]
                          have hq2 : p + 1 ≤ (r9 T N (rn T N 0 999999 6 0 (rTn T N (p + 1)).2).2).2 ∧ (r9 T N (rn T N 0 999999 6 0 (rTn T N (p + 1)).2).2).2 ≤ N := by have := rn_p (T := T) (N := N) (lo := 0) (hi := 9) (k := 1) (v := 0) (p := (rn T N 0 999999 6 0 (rTn T N (p + 1)).2).2) (by omega); exact ⟨Nat.le_trans (by omega) this.1, this.2⟩
                          have hT3 : tx X T N (r9 T N (rn T N 0 999999 6 0 (rTn T N (p + 1)).2).2).2 (nI (T p)) f (stn (stn (stn g 0 (rTn T N (p + 1)).1) 1 (rn T N 0 999999 6 0 (rTn T N (p + 1)).2).1) 2 (r9 T N (rn T N 0 999999 6 0 (rTn T N (p + 1)).2).2).1) (tH h X N (r9 T N (rn T N 0 999999 6 0 (rTn T N (p + 1)).2).2).2 (nI (T p)) (stn (stn (stn g 0 (rTn T N (p + 1)).1) 1 (rn T N 0 999999 6 0 (rTn T N (p + 1)).2).1) 2 (r9 T N (rn T N 0 999999 6 0 (rTn T N (p + 1)).2).2).1)) := tH_tx hT _ hq2.2
                          have hX3 := hT3.2.1
                          refine V_if_eqB 219 215 C dX0_readCommand_212 (by decide) rfl  (fun c212 => ?_) (fun c212 => ?_)
                          · have e2 : (r9 T N (rn T N 0 999999 6 0 (rTn T N (p + 1)).2).2).1 = none := by cases hc : (r9 T N (rn T N 0 999999 6 0 (rTn T N (p + 1)).2).2).1 with | none => rfl | some v => exact absurd (by rw [hc]; rfl) c212
                            have hR : rcm T N p = (none, (r9 T N (rn T N 0 999999 6 0 (rTn T N (p + 1)).2).2).2) := by rw [rcm_w c40_119, bd_s e0, bd_s e1, bd_n e2]
                            have hb : nI 0 = nI (bp ((rcm T N p).1.isSome = true)) := by rw [hR]; rfl
                            have hz : ∃ g', tH h X N (r9 T N (rn T N 0 999999 6 0 (rTn T N (p + 1)).2).2).2 (nI (T p)) (stn (stn (stn g 0 (rTn T N (p + 1)).1) 1 (rn T N 0 999999 6 0 (rTn T N (p + 1)).2).1) 2 (r9 T N (rn T N 0 999999 6 0 (rTn T N (p + 1)).2).2).1) = tH h X N (rcm T N p).2 (nI (T p)) g' ∧ ∀ a b c, (rcm T N p).1 = some (a, b, c) → agr (ar (T p)) g' a b c := ⟨_, by rw [hR], fun a b c e => by rw [hR] at e; cases e⟩
                            refine V_iconst 220 C dX0_readCommand_219 rfl ic0 ?_
                            refine V_ireturn C dX0_readCommand_220 rfl (by decide) (by omega) (by omega) ?_
                            exact ⟨by rw [← hb], rfl, hz⟩
                          · obtain ⟨v2, e2⟩ := Option.isSome_iff_exists.mp c212
                            have hR : rcm T N p = (some (v0, v1, v2), (r9 T N (rn T N 0 999999 6 0 (rTn T N (p + 1)).2).2).2) := by rw [rcm_w c40_119, bd_s e0, bd_s e1, bd_s e2]
                            have ha : ar (T p) = 3 := by rw [c40_119]; rfl
                            have hb : nI 1 = nI (bp ((rcm T N p).1.isSome = true)) := by rw [hR]; rfl
                            have hz : ∃ g', tH h X N (r9 T N (rn T N 0 999999 6 0 (rTn T N (p + 1)).2).2).2 (nI (T p)) (stn (stn (stn g 0 (rTn T N (p + 1)).1) 1 (rn T N 0 999999 6 0 (rTn T N (p + 1)).2).1) 2 (r9 T N (rn T N 0 999999 6 0 (rTn T N (p + 1)).2).2).1) = tH h X N (rcm T N p).2 (nI (T p)) g' ∧ ∀ a b c, (rcm T N p).1 = some (a, b, c) → agr (ar (T p)) g' a b c := ⟨_, by rw [hR], fun a b c e => by rw [hR] at e; cases e; rw [ha]; exact ⟨(fun _ => by rw [e2]; simp only [stn]; rw [pk_un (by omega)]; rw [e1]; simp only [stn]; rw [pk_un (by omega)]; rw [e0]; exact pk_us), (fun _ => by rw [e2]; simp only [stn]; rw [pk_un (by omega)]; rw [e1]; exact pk_us), (fun _ => by rw [e2]; exact pk_us)⟩⟩
                            refine V_iconst 216 C dX0_readCommand_215 rfl ic1 ?_
                            refine V_goto 220 C dX0_readCommand_216 (by decide) ?_
                            refine V_ireturn C dX0_readCommand_220 rfl (by decide) (by omega) (by omega) ?_
                            exact ⟨by rw [← hb], rfl, hz⟩
                    · skip
                      refine V_tsD 311 [99, 103, 104, 107, 108, 114, 116, 117, 119] C dX0_readCommand_40 (lo' := 99) rfl rfl (by omega) ⟨n40_99, n40_103, n40_104, n40_107, n40_108, n40_114, n40_116, n40_117, n40_119, trivial⟩ (by decide) (by decide) ?_
                      refine V_aload_n 312 C dX0_readCommand_311 rfl rfl ?_
                      refine V_dup 313 C dX0_readCommand_312 rfl rfl ?_
                      refine V_get (k := 3) 316 C dX0_readCommand_313 rfl fcX0 tw215 (by decide) rfl hX0 rfl ?_
                      refine V_iconst 317 C dX0_readCommand_316 rfl ic1 ?_
                      refine V_isubN 318 C dX0_readCommand_317 rfl (by omega) ?_
                      refine V_put (fs' := [_, _, _, _, _]) (k := 3) 321 C dX0_readCommand_318 rfl fcX0 tw215 (by decide) rfl rfl hX0 rfl rfl (Nat.le_of_ble_eq_true rfl) rfl ?_
                      refine V_iconst 322 C dX0_readCommand_321 rfl ic0 ?_
                      refine V_ireturn C dX0_readCommand_322 rfl (by decide) (by omega) (by omega) ?_
                      exact (by have hR := rcm_n (T := T) (N := N) (p := p) ⟨n40_116, n40_114, n40_117, n40_119, n40_107, n40_108, n40_103, n40_99, n40_104⟩; exact ⟨by rw [hR]; rfl, rfl, g, by rw [hR, Nat.add_sub_cancel, tH_ob hT0, tH_tH], fun a b c e => by rw [hR] at e; cases e⟩)
  · exfalso
    omega

