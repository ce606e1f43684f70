/-! THE LAW'S call, BY WHAT IS ASKED -/
theorem dL_call_0 : decode cL_call 0 = .ok (.iload_n 1, 1) := by decide +kernel
theorem dL_call_1 : decode cL_call 1 = .ok (.tableswitch 280 0 24 #[115, 121, 126, 132, 139, 146, 153, 159, 164, 173, 179, 188, 195, 201, 208, 215, 221, 226, 232, 239, 245, 254, 261, 268, 274], 115) := by decide +kernel
theorem dL_call_116 : decode cL_call 116 = .ok (.aload_n 0, 1) := by decide +kernel
theorem dL_call_117 : decode cL_call 117 = .ok (.iload_n 2, 1) := by decide +kernel
theorem dL_call_118 : decode cL_call 118 = .ok (.invokestatic 112, 3) := by decide +kernel
theorem dL_call_121 : decode cL_call 121 = .ok (.ireturn, 1) := by decide +kernel
theorem dL_call_122 : decode cL_call 122 = .ok (.aload_n 0, 1) := by decide +kernel
theorem dL_call_123 : decode cL_call 123 = .ok (.invokestatic 118, 3) := by decide +kernel
theorem dL_call_126 : decode cL_call 126 = .ok (.ireturn, 1) := by decide +kernel
theorem dL_call_127 : decode cL_call 127 = .ok (.aload_n 0, 1) := by decide +kernel
theorem dL_call_128 : decode cL_call 128 = .ok (.iload_n 2, 1) := by decide +kernel
theorem dL_call_129 : decode cL_call 129 = .ok (.invokestatic 122, 3) := by decide +kernel
theorem dL_call_132 : decode cL_call 132 = .ok (.ireturn, 1) := by decide +kernel
theorem dL_call_133 : decode cL_call 133 = .ok (.aload_n 0, 1) := by decide +kernel
theorem dL_call_134 : decode cL_call 134 = .ok (.iload_n 2, 1) := by decide +kernel
theorem dL_call_135 : decode cL_call 135 = .ok (.iload_n 3, 1) := by decide +kernel
theorem dL_call_136 : decode cL_call 136 = .ok (.invokestatic 125, 3) := by decide +kernel
theorem dL_call_139 : decode cL_call 139 = .ok (.ireturn, 1) := by decide +kernel
theorem dL_call_140 : decode cL_call 140 = .ok (.aload_n 0, 1) := by decide +kernel
theorem dL_call_141 : decode cL_call 141 = .ok (.iload_n 2, 1) := by decide +kernel
theorem dL_call_142 : decode cL_call 142 = .ok (.iload_n 3, 1) := by decide +kernel
theorem dL_call_143 : decode cL_call 143 = .ok (.invokestatic 129, 3) := by decide +kernel
theorem dL_call_146 : decode cL_call 146 = .ok (.ireturn, 1) := by decide +kernel
theorem dL_call_147 : decode cL_call 147 = .ok (.aload_n 0, 1) := by decide +kernel
theorem dL_call_148 : decode cL_call 148 = .ok (.iload_n 2, 1) := by decide +kernel
theorem dL_call_149 : decode cL_call 149 = .ok (.iload_n 3, 1) := by decide +kernel
theorem dL_call_150 : decode cL_call 150 = .ok (.invokestatic 132, 3) := by decide +kernel
theorem dL_call_153 : decode cL_call 153 = .ok (.ireturn, 1) := by decide +kernel
theorem dL_call_154 : decode cL_call 154 = .ok (.aload_n 0, 1) := by decide +kernel
theorem dL_call_155 : decode cL_call 155 = .ok (.iload_n 2, 1) := by decide +kernel
theorem dL_call_156 : decode cL_call 156 = .ok (.invokestatic 135, 3) := by decide +kernel
theorem dL_call_159 : decode cL_call 159 = .ok (.ireturn, 1) := by decide +kernel
theorem dL_call_160 : decode cL_call 160 = .ok (.aload_n 0, 1) := by decide +kernel
theorem dL_call_161 : decode cL_call 161 = .ok (.invokestatic 138, 3) := by decide +kernel
theorem dL_call_164 : decode cL_call 164 = .ok (.ireturn, 1) := by decide +kernel
theorem dL_call_165 : decode cL_call 165 = .ok (.aload_n 0, 1) := by decide +kernel
theorem dL_call_166 : decode cL_call 166 = .ok (.iload_n 2, 1) := by decide +kernel
theorem dL_call_167 : decode cL_call 167 = .ok (.iload_n 3, 1) := by decide +kernel
theorem dL_call_168 : decode cL_call 168 = .ok (.iload 4, 2) := by decide +kernel
theorem dL_call_170 : decode cL_call 170 = .ok (.invokestatic 141, 3) := by decide +kernel
theorem dL_call_173 : decode cL_call 173 = .ok (.ireturn, 1) := by decide +kernel
theorem dL_call_174 : decode cL_call 174 = .ok (.aload_n 0, 1) := by decide +kernel
theorem dL_call_175 : decode cL_call 175 = .ok (.iload_n 2, 1) := by decide +kernel
theorem dL_call_176 : decode cL_call 176 = .ok (.invokestatic 145, 3) := by decide +kernel
theorem dL_call_179 : decode cL_call 179 = .ok (.ireturn, 1) := by decide +kernel
theorem dL_call_180 : decode cL_call 180 = .ok (.aload_n 0, 1) := by decide +kernel
theorem dL_call_181 : decode cL_call 181 = .ok (.iload_n 2, 1) := by decide +kernel
theorem dL_call_182 : decode cL_call 182 = .ok (.iload_n 3, 1) := by decide +kernel
theorem dL_call_183 : decode cL_call 183 = .ok (.iload 4, 2) := by decide +kernel
theorem dL_call_185 : decode cL_call 185 = .ok (.invokestatic 148, 3) := by decide +kernel
theorem dL_call_188 : decode cL_call 188 = .ok (.ireturn, 1) := by decide +kernel
theorem dL_call_189 : decode cL_call 189 = .ok (.aload_n 0, 1) := by decide +kernel
theorem dL_call_190 : decode cL_call 190 = .ok (.iload_n 2, 1) := by decide +kernel
theorem dL_call_191 : decode cL_call 191 = .ok (.iload_n 3, 1) := by decide +kernel
theorem dL_call_192 : decode cL_call 192 = .ok (.invokestatic 151, 3) := by decide +kernel
theorem dL_call_195 : decode cL_call 195 = .ok (.ireturn, 1) := by decide +kernel
theorem dL_call_196 : decode cL_call 196 = .ok (.aload_n 0, 1) := by decide +kernel
theorem dL_call_197 : decode cL_call 197 = .ok (.iload_n 2, 1) := by decide +kernel
theorem dL_call_198 : decode cL_call 198 = .ok (.invokestatic 154, 3) := by decide +kernel
theorem dL_call_201 : decode cL_call 201 = .ok (.ireturn, 1) := by decide +kernel
theorem dL_call_202 : decode cL_call 202 = .ok (.aload_n 0, 1) := by decide +kernel
theorem dL_call_203 : decode cL_call 203 = .ok (.iload_n 2, 1) := by decide +kernel
theorem dL_call_204 : decode cL_call 204 = .ok (.iload_n 3, 1) := by decide +kernel
theorem dL_call_205 : decode cL_call 205 = .ok (.invokestatic 157, 3) := by decide +kernel
theorem dL_call_208 : decode cL_call 208 = .ok (.ireturn, 1) := by decide +kernel
theorem dL_call_209 : decode cL_call 209 = .ok (.aload_n 0, 1) := by decide +kernel
theorem dL_call_210 : decode cL_call 210 = .ok (.iload_n 2, 1) := by decide +kernel
theorem dL_call_211 : decode cL_call 211 = .ok (.iload_n 3, 1) := by decide +kernel
theorem dL_call_212 : decode cL_call 212 = .ok (.invokestatic 160, 3) := by decide +kernel
theorem dL_call_215 : decode cL_call 215 = .ok (.ireturn, 1) := by decide +kernel
theorem dL_call_216 : decode cL_call 216 = .ok (.aload_n 0, 1) := by decide +kernel
theorem dL_call_217 : decode cL_call 217 = .ok (.iload_n 2, 1) := by decide +kernel
theorem dL_call_218 : decode cL_call 218 = .ok (.invokestatic 163, 3) := by decide +kernel
theorem dL_call_221 : decode cL_call 221 = .ok (.ireturn, 1) := by decide +kernel
theorem dL_call_222 : decode cL_call 222 = .ok (.aload_n 0, 1) := by decide +kernel
theorem dL_call_223 : decode cL_call 223 = .ok (.invokestatic 166, 3) := by decide +kernel
theorem dL_call_226 : decode cL_call 226 = .ok (.ireturn, 1) := by decide +kernel
theorem dL_call_227 : decode cL_call 227 = .ok (.aload_n 0, 1) := by decide +kernel
theorem dL_call_228 : decode cL_call 228 = .ok (.iload_n 2, 1) := by decide +kernel
theorem dL_call_229 : decode cL_call 229 = .ok (.invokestatic 169, 3) := by decide +kernel
theorem dL_call_232 : decode cL_call 232 = .ok (.ireturn, 1) := by decide +kernel
theorem dL_call_233 : decode cL_call 233 = .ok (.aload_n 0, 1) := by decide +kernel
theorem dL_call_234 : decode cL_call 234 = .ok (.iload_n 2, 1) := by decide +kernel
theorem dL_call_235 : decode cL_call 235 = .ok (.iload_n 3, 1) := by decide +kernel
theorem dL_call_236 : decode cL_call 236 = .ok (.invokestatic 172, 3) := by decide +kernel
theorem dL_call_239 : decode cL_call 239 = .ok (.ireturn, 1) := by decide +kernel
theorem dL_call_240 : decode cL_call 240 = .ok (.aload_n 0, 1) := by decide +kernel
theorem dL_call_241 : decode cL_call 241 = .ok (.iload_n 2, 1) := by decide +kernel
theorem dL_call_242 : decode cL_call 242 = .ok (.invokestatic 175, 3) := by decide +kernel
theorem dL_call_245 : decode cL_call 245 = .ok (.ireturn, 1) := by decide +kernel
theorem dL_call_246 : decode cL_call 246 = .ok (.aload_n 0, 1) := by decide +kernel
theorem dL_call_247 : decode cL_call 247 = .ok (.iload_n 2, 1) := by decide +kernel
theorem dL_call_248 : decode cL_call 248 = .ok (.iload_n 3, 1) := by decide +kernel
theorem dL_call_249 : decode cL_call 249 = .ok (.iload 4, 2) := by decide +kernel
theorem dL_call_251 : decode cL_call 251 = .ok (.invokestatic 178, 3) := by decide +kernel
theorem dL_call_254 : decode cL_call 254 = .ok (.ireturn, 1) := by decide +kernel
theorem dL_call_255 : decode cL_call 255 = .ok (.aload_n 0, 1) := by decide +kernel
theorem dL_call_256 : decode cL_call 256 = .ok (.iload_n 2, 1) := by decide +kernel
theorem dL_call_257 : decode cL_call 257 = .ok (.iload_n 3, 1) := by decide +kernel
theorem dL_call_258 : decode cL_call 258 = .ok (.invokestatic 181, 3) := by decide +kernel
theorem dL_call_261 : decode cL_call 261 = .ok (.ireturn, 1) := by decide +kernel
theorem dL_call_262 : decode cL_call 262 = .ok (.aload_n 0, 1) := by decide +kernel
theorem dL_call_263 : decode cL_call 263 = .ok (.iload_n 2, 1) := by decide +kernel
theorem dL_call_264 : decode cL_call 264 = .ok (.iload_n 3, 1) := by decide +kernel
theorem dL_call_265 : decode cL_call 265 = .ok (.invokestatic 184, 3) := by decide +kernel
theorem dL_call_268 : decode cL_call 268 = .ok (.ireturn, 1) := by decide +kernel
theorem dL_call_269 : decode cL_call 269 = .ok (.aload_n 0, 1) := by decide +kernel
theorem dL_call_270 : decode cL_call 270 = .ok (.iload_n 2, 1) := by decide +kernel
theorem dL_call_271 : decode cL_call 271 = .ok (.invokestatic 187, 3) := by decide +kernel
theorem dL_call_274 : decode cL_call 274 = .ok (.ireturn, 1) := by decide +kernel
theorem dL_call_275 : decode cL_call 275 = .ok (.aload_n 0, 1) := by decide +kernel
theorem dL_call_276 : decode cL_call 276 = .ok (.iload_n 2, 1) := by decide +kernel
theorem dL_call_277 : decode cL_call 277 = .ok (.invokestatic 190, 3) := by decide +kernel
theorem dL_call_280 : decode cL_call 280 = .ok (.ireturn, 1) := by decide +kernel
theorem dL_call_281 : decode cL_call 281 = .ok (.aload_n 0, 1) := by decide +kernel
theorem dL_call_282 : decode cL_call 282 = .ok (.iload_n 2, 1) := by decide +kernel
theorem dL_call_283 : decode cL_call 283 = .ok (.invokestatic 193, 3) := by decide +kernel
theorem dL_call_286 : decode cL_call 286 = .ok (.ireturn, 1) := by decide +kernel
set_option maxRecDepth 100000 in
set_option maxHeartbeats 4000000 in
theorem k_append (l : Launch) (G : GT) (n : Nat) (h : AH) (hl : l.stackTraces = false) (x : Nat) (σ : St) (hS : SC x σ h) (hI : SIs σ) (p1 p2 p3 : Int32) (hp : ¬ ix p1 256) (v : Int32) (hv : rv (if ix p1 256 then (if 0 < 120 then 0 else 2) else 1) (nI (0 + 1)) [eA, eS] = v) : Ct l yL_call cL_call 5 (some .int) 10 4 24 G n h [.ref x, .int (nI 0), .int p1, .int p2, .int p3] (PoS x h v σ) := by
  refine Ct_ofZ mL_call.z (Nat.le_of_ble_eq_true rfl) ?_
  intro p₀ e₀ s₀ m₀ as₀ bl₀ me₀ c₀ C
  refine V_Le (L' := [(0, .ref x), (1, .int (nI 0)), (2, .int p1), (3, .int p2), (4, .int p3)]) rfl ?_
  refine V_iload_n 1 C dL_call_0 rfl rfl ?_
  refine V_tsI 116 C dL_call_1 (j := 0) rfl (by decide) (by decide) (by decide) rfl (by decide) ?_
  refine V_aload_n 117 C dL_call_116 rfl rfl ?_
  refine V_iload_n 118 C dL_call_117 rfl rfl ?_
  refine V_callSWR 121 C dL_call_118 rfl mL_tryAppend tw253 (c_L_tryAppend l G _ _ hl x σ.1 σ.2.1 σ.2.2.1 σ.2.2.2.1 σ.2.2.2.2 0 (fun _ => 0) hS hI p1) rfl rfl ⟨Nat.le_of_ble_eq_true rfl, Nat.le_of_ble_eq_true rfl⟩ ⟨Nat.le_of_ble_eq_true rfl, Nat.le_of_ble_eq_true rfl⟩ (Nat.le_of_ble_eq_true rfl) ?_
  rintro _ n1 h1 ⟨rfl, gS, gF⟩
  refine V_ireturn C dL_call_121 rfl rfl (by omega) (by omega) ?_
  rw [if_neg hp] at gS
  exact ⟨by rw [hv], gS, gF⟩

set_option maxRecDepth 100000 in
set_option maxHeartbeats 4000000 in
theorem k_about (l : Launch) (G : GT) (n : Nat) (h : AH) (hl : l.stackTraces = false) (x : Nat) (σ : St) (hS : SC x σ h) (hI : SIs σ) (p1 p2 p3 : Int32) (v : Int32) (hv : rv (if ix p1 10 then 0 else 1) (nI (qAbout σ.1 (z p1))) [eA] = v) : Ct l yL_call cL_call 5 (some .int) 10 4 24 G n h [.ref x, .int (nI 2), .int p1, .int p2, .int p3] (PoS x h v σ) := by
  refine Ct_ofZ mL_call.z (Nat.le_of_ble_eq_true rfl) ?_
  intro p₀ e₀ s₀ m₀ as₀ bl₀ me₀ c₀ C
  refine V_Le (L' := [(0, .ref x), (1, .int (nI 2)), (2, .int p1), (3, .int p2), (4, .int p3)]) rfl ?_
  refine V_iload_n 1 C dL_call_0 rfl rfl ?_
  refine V_tsI 127 C dL_call_1 (j := 2) rfl (by decide) (by decide) (by decide) rfl (by decide) ?_
  refine V_aload_n 128 C dL_call_127 rfl rfl ?_
  refine V_iload_n 129 C dL_call_128 rfl rfl ?_
  refine V_callSWR 132 C dL_call_129 rfl mL_tryAbout tw534 (c_L_tryAbout l G _ _ hl x σ.1 σ.2.1 σ.2.2.1 σ.2.2.2.1 σ.2.2.2.2 0 (fun _ => 0) hS hI p1) rfl rfl ⟨Nat.le_of_ble_eq_true rfl, Nat.le_of_ble_eq_true rfl⟩ ⟨Nat.le_of_ble_eq_true rfl, Nat.le_of_ble_eq_true rfl⟩ (Nat.le_of_ble_eq_true rfl) ?_
  rintro _ n1 h1 ⟨rfl, gS, gF⟩
  refine V_ireturn C dL_call_132 rfl rfl (by omega) (by omega) ?_
  exact ⟨by rw [hv], gS, gF⟩

set_option maxRecDepth 100000 in
set_option maxHeartbeats 4000000 in
theorem k_way (l : Launch) (G : GT) (n : Nat) (h : AH) (hl : l.stackTraces = false) (x : Nat) (σ : St) (hS : SC x σ h) (hI : SIs σ) (p1 p2 p3 : Int32) (v : Int32) (hv : rv (if ix p1 (σ.1 1) then (if ix p2 3 then 0 else 2) else 1) (nI (σ.1 (7 + 3 * z p1 + z p2))) [eI, eA] = v) : Ct l yL_call cL_call 5 (some .int) 10 4 24 G n h [.ref x, .int (nI 3), .int p1, .int p2, .int p3] (PoS x h v σ) := by
  refine Ct_ofZ mL_call.z (Nat.le_of_ble_eq_true rfl) ?_
  intro p₀ e₀ s₀ m₀ as₀ bl₀ me₀ c₀ C
  refine V_Le (L' := [(0, .ref x), (1, .int (nI 3)), (2, .int p1), (3, .int p2), (4, .int p3)]) rfl ?_
  refine V_iload_n 1 C dL_call_0 rfl rfl ?_
  refine V_tsI 133 C dL_call_1 (j := 3) rfl (by decide) (by decide) (by decide) rfl (by decide) ?_
  refine V_aload_n 134 C dL_call_133 rfl rfl ?_
  refine V_iload_n 135 C dL_call_134 rfl rfl ?_
  refine V_iload_n 136 C dL_call_135 rfl rfl ?_
  refine V_callSWR 139 C dL_call_136 rfl mL_tryWay tw564 (c_L_tryWay l G _ _ hl x σ.1 σ.2.1 σ.2.2.1 σ.2.2.2.1 σ.2.2.2.2 0 (fun _ => 0) hS hI p1 p2) rfl rfl ⟨Nat.le_of_ble_eq_true rfl, Nat.le_of_ble_eq_true rfl⟩ ⟨Nat.le_of_ble_eq_true rfl, Nat.le_of_ble_eq_true rfl⟩ (Nat.le_of_ble_eq_true rfl) ?_
  rintro _ n1 h1 ⟨rfl, gS, gF⟩
  refine V_ireturn C dL_call_139 rfl rfl (by omega) (by omega) ?_
  exact ⟨by rw [hv], gS, gF⟩

set_option maxRecDepth 100000 in
set_option maxHeartbeats 4000000 in
theorem k_carrier (l : Launch) (G : GT) (n : Nat) (h : AH) (hl : l.stackTraces = false) (x : Nat) (σ : St) (hS : SC x σ h) (hI : SIs σ) (p1 p2 p3 : Int32) (v : Int32) (hv : rv (if ix p1 (σ.1 2) then (if ix p2 4 then 0 else 2) else 1) (nI (qRunner σ.1 (z p1) (z p2))) [eI, eA] = v) : Ct l yL_call cL_call 5 (some .int) 10 4 24 G n h [.ref x, .int (nI 4), .int p1, .int p2, .int p3] (PoS x h v σ) := by
  refine Ct_ofZ mL_call.z (Nat.le_of_ble_eq_true rfl) ?_
  intro p₀ e₀ s₀ m₀ as₀ bl₀ me₀ c₀ C
  refine V_Le (L' := [(0, .ref x), (1, .int (nI 4)), (2, .int p1), (3, .int p2), (4, .int p3)]) rfl ?_
  refine V_iload_n 1 C dL_call_0 rfl rfl ?_
  refine V_tsI 140 C dL_call_1 (j := 4) rfl (by decide) (by decide) (by decide) rfl (by decide) ?_
  refine V_aload_n 141 C dL_call_140 rfl rfl ?_
  refine V_iload_n 142 C dL_call_141 rfl rfl ?_
  refine V_iload_n 143 C dL_call_142 rfl rfl ?_
  refine V_callSWR 146 C dL_call_143 rfl mL_tryCarrier tw594 (c_L_tryCarrier l G _ _ hl x σ.1 σ.2.1 σ.2.2.1 σ.2.2.2.1 σ.2.2.2.2 0 (fun _ => 0) hS hI p1 p2) rfl rfl ⟨Nat.le_of_ble_eq_true rfl, Nat.le_of_ble_eq_true rfl⟩ ⟨Nat.le_of_ble_eq_true rfl, Nat.le_of_ble_eq_true rfl⟩ (Nat.le_of_ble_eq_true rfl) ?_
  rintro _ n1 h1 ⟨rfl, gS, gF⟩
  refine V_ireturn C dL_call_146 rfl rfl (by omega) (by omega) ?_
  exact ⟨by rw [hv], gS, gF⟩

set_option maxRecDepth 100000 in
set_option maxHeartbeats 4000000 in
theorem k_sheet (l : Launch) (G : GT) (n : Nat) (h : AH) (hl : l.stackTraces = false) (x : Nat) (σ : St) (hS : SC x σ h) (hI : SIs σ) (p1 p2 p3 : Int32) (v : Int32) (hv : rv (if ix p1 (σ.1 4) then (if ix p2 8 then 0 else 2) else 1) (nI (qSheet σ.1 (z p1) (z p2))) [eI, eA] = v) : Ct l yL_call cL_call 5 (some .int) 10 4 24 G n h [.ref x, .int (nI 5), .int p1, .int p2, .int p3] (PoS x h v σ) := by
  refine Ct_ofZ mL_call.z (Nat.le_of_ble_eq_true rfl) ?_
  intro p₀ e₀ s₀ m₀ as₀ bl₀ me₀ c₀ C
  refine V_Le (L' := [(0, .ref x), (1, .int (nI 5)), (2, .int p1), (3, .int p2), (4, .int p3)]) rfl ?_
  refine V_iload_n 1 C dL_call_0 rfl rfl ?_
  refine V_tsI 147 C dL_call_1 (j := 5) rfl (by decide) (by decide) (by decide) rfl (by decide) ?_
  refine V_aload_n 148 C dL_call_147 rfl rfl ?_
  refine V_iload_n 149 C dL_call_148 rfl rfl ?_
  refine V_iload_n 150 C dL_call_149 rfl rfl ?_
  refine V_callSWR 153 C dL_call_150 rfl mL_trySheet tw604 (c_L_trySheet l G _ _ hl x σ.1 σ.2.1 σ.2.2.1 σ.2.2.2.1 σ.2.2.2.2 0 (fun _ => 0) hS hI p1 p2) rfl rfl ⟨Nat.le_of_ble_eq_true rfl, Nat.le_of_ble_eq_true rfl⟩ ⟨Nat.le_of_ble_eq_true rfl, Nat.le_of_ble_eq_true rfl⟩ (Nat.le_of_ble_eq_true rfl) ?_
  rintro _ n1 h1 ⟨rfl, gS, gF⟩
  refine V_ireturn C dL_call_153 rfl rfl (by omega) (by omega) ?_
  exact ⟨by rw [hv], gS, gF⟩

set_option maxRecDepth 100000 in
set_option maxHeartbeats 4000000 in
theorem k_told (l : Launch) (G : GT) (n : Nat) (h : AH) (hl : l.stackTraces = false) (x : Nat) (σ : St) (hS : SC x σ h) (hI : SIs σ) (p1 p2 p3 : Int32) (v : Int32) (hv : rv (if ix p1 (σ.1 3) then 0 else 1) (nI (σ.1 (52 + z p1))) [eI] = v) : Ct l yL_call cL_call 5 (some .int) 10 4 24 G n h [.ref x, .int (nI 6), .int p1, .int p2, .int p3] (PoS x h v σ) := by
  refine Ct_ofZ mL_call.z (Nat.le_of_ble_eq_true rfl) ?_
  intro p₀ e₀ s₀ m₀ as₀ bl₀ me₀ c₀ C
  refine V_Le (L' := [(0, .ref x), (1, .int (nI 6)), (2, .int p1), (3, .int p2), (4, .int p3)]) rfl ?_
  refine V_iload_n 1 C dL_call_0 rfl rfl ?_
  refine V_tsI 154 C dL_call_1 (j := 6) rfl (by decide) (by decide) (by decide) rfl (by decide) ?_
  refine V_aload_n 155 C dL_call_154 rfl rfl ?_
  refine V_iload_n 156 C dL_call_155 rfl rfl ?_
  refine V_callSWR 159 C dL_call_156 rfl mL_tryTold tw616 (c_L_tryTold l G _ _ hl x σ.1 σ.2.1 σ.2.2.1 σ.2.2.2.1 σ.2.2.2.2 0 (fun _ => 0) hS hI p1) rfl rfl ⟨Nat.le_of_ble_eq_true rfl, Nat.le_of_ble_eq_true rfl⟩ ⟨Nat.le_of_ble_eq_true rfl, Nat.le_of_ble_eq_true rfl⟩ (Nat.le_of_ble_eq_true rfl) ?_
  rintro _ n1 h1 ⟨rfl, gS, gF⟩
  refine V_ireturn C dL_call_159 rfl rfl (by omega) (by omega) ?_
  exact ⟨by rw [hv], gS, gF⟩

set_option maxRecDepth 100000 in
set_option maxHeartbeats 4000000 in
theorem k_town (l : Launch) (G : GT) (n : Nat) (h : AH) (hl : l.stackTraces = false) (x : Nat) (σ : St) (hS : SC x σ h) (hI : SIs σ) (p1 p2 p3 : Int32) (v : Int32) (hv : rv (kA 1 1 1 (aTw σ.1).1) ((aTw σ.1).1) [eS] = v) (σ' : St) (hσ : ((aTw σ.1).2, (aK (kA 1 1 1 (aTw σ.1).1) σ.2.1), (aD (kA 1 1 1 (aTw σ.1).1) σ.2.1 σ.2.2.1 σ.1), σ.2.2.2.1, σ.2.2.2.2) = σ') : Ct l yL_call cL_call 5 (some .int) 10 4 24 G n h [.ref x, .int (nI 7), .int p1, .int p2, .int p3] (PoS x h v σ') := by
  refine Ct_ofZ mL_call.z (Nat.le_of_ble_eq_true rfl) ?_
  intro p₀ e₀ s₀ m₀ as₀ bl₀ me₀ c₀ C
  refine V_Le (L' := [(0, .ref x), (1, .int (nI 7)), (2, .int p1), (3, .int p2), (4, .int p3)]) rfl ?_
  refine V_iload_n 1 C dL_call_0 rfl rfl ?_
  refine V_tsI 160 C dL_call_1 (j := 7) rfl (by decide) (by decide) (by decide) rfl (by decide) ?_
  refine V_aload_n 161 C dL_call_160 rfl rfl ?_
  refine V_callSWR 164 C dL_call_161 rfl mL_tryTown tw627 (c_L_tryTown l G _ _ hl x σ.1 σ.2.1 σ.2.2.1 σ.2.2.2.1 σ.2.2.2.2 0 (fun _ => 0) hS hI) rfl rfl ⟨Nat.le_of_ble_eq_true rfl, Nat.le_of_ble_eq_true rfl⟩ ⟨Nat.le_of_ble_eq_true rfl, Nat.le_of_ble_eq_true rfl⟩ (Nat.le_of_ble_eq_true rfl) ?_
  rintro _ n1 h1 ⟨rfl, gS, gF⟩
  refine V_ireturn C dL_call_164 rfl rfl (by omega) (by omega) ?_
  subst hσ
  exact ⟨by rw [hv], gS, gF⟩

set_option maxRecDepth 100000 in
set_option maxHeartbeats 4000000 in
theorem k_road (l : Launch) (G : GT) (n : Nat) (h : AH) (hl : l.stackTraces = false) (x : Nat) (σ : St) (hS : SC x σ h) (hI : SIs σ) (p1 p2 p3 : Int32) (v : Int32) (hv : rv (kA 1 2 3 (aRd σ.1 p1 p2 p3).1) ((aRd σ.1 p1 p2 p3).1) [eI, eA, eS] = v) (σ' : St) (hσ : ((aRd σ.1 p1 p2 p3).2, (aK (kA 1 2 3 (aRd σ.1 p1 p2 p3).1) σ.2.1), (aD (kA 1 2 3 (aRd σ.1 p1 p2 p3).1) σ.2.1 σ.2.2.1 σ.1), σ.2.2.2.1, σ.2.2.2.2) = σ') : Ct l yL_call cL_call 5 (some .int) 10 4 24 G n h [.ref x, .int (nI 8), .int p1, .int p2, .int p3] (PoS x h v σ') := by
  refine Ct_ofZ mL_call.z (Nat.le_of_ble_eq_true rfl) ?_
  intro p₀ e₀ s₀ m₀ as₀ bl₀ me₀ c₀ C
  refine V_Le (L' := [(0, .ref x), (1, .int (nI 8)), (2, .int p1), (3, .int p2), (4, .int p3)]) rfl ?_
  refine V_iload_n 1 C dL_call_0 rfl rfl ?_
  refine V_tsI 165 C dL_call_1 (j := 8) rfl (by decide) (by decide) (by decide) rfl (by decide) ?_
  refine V_aload_n 166 C dL_call_165 rfl rfl ?_
  refine V_iload_n 167 C dL_call_166 rfl rfl ?_
  refine V_iload_n 168 C dL_call_167 rfl rfl ?_
  refine V_iload 170 C dL_call_168 rfl rfl ?_
  refine V_callSWR 173 C dL_call_170 rfl mL_tryRoad tw664 (c_L_tryRoad l G _ _ hl x σ.1 σ.2.1 σ.2.2.1 σ.2.2.2.1 σ.2.2.2.2 0 (fun _ => 0) hS hI p1 p2 p3) rfl rfl ⟨Nat.le_of_ble_eq_true rfl, Nat.le_of_ble_eq_true rfl⟩ ⟨Nat.le_of_ble_eq_true rfl, Nat.le_of_ble_eq_true rfl⟩ (Nat.le_of_ble_eq_true rfl) ?_
  rintro _ n1 h1 ⟨rfl, gS, gF⟩
  refine V_ireturn C dL_call_173 rfl rfl (by omega) (by omega) ?_
  subst hσ
  exact ⟨by rw [hv], gS, gF⟩

set_option maxRecDepth 100000 in
set_option maxHeartbeats 4000000 in
theorem k_runner (l : Launch) (G : GT) (n : Nat) (h : AH) (hl : l.stackTraces = false) (x : Nat) (σ : St) (hS : SC x σ h) (hI : SIs σ) (p1 p2 p3 : Int32) (v : Int32) (hv : rv (kA 1 1 2 (aRu σ.1 p1).1) ((aRu σ.1 p1).1) [eI, eS] = v) (σ' : St) (hσ : ((aRu σ.1 p1).2, (aK (kA 1 1 2 (aRu σ.1 p1).1) σ.2.1), (aD (kA 1 1 2 (aRu σ.1 p1).1) σ.2.1 σ.2.2.1 σ.1), σ.2.2.2.1, σ.2.2.2.2) = σ') : Ct l yL_call cL_call 5 (some .int) 10 4 24 G n h [.ref x, .int (nI 9), .int p1, .int p2, .int p3] (PoS x h v σ') := by
  refine Ct_ofZ mL_call.z (Nat.le_of_ble_eq_true rfl) ?_
  intro p₀ e₀ s₀ m₀ as₀ bl₀ me₀ c₀ C
  refine V_Le (L' := [(0, .ref x), (1, .int (nI 9)), (2, .int p1), (3, .int p2), (4, .int p3)]) rfl ?_
  refine V_iload_n 1 C dL_call_0 rfl rfl ?_
  refine V_tsI 174 C dL_call_1 (j := 9) rfl (by decide) (by decide) (by decide) rfl (by decide) ?_
  refine V_aload_n 175 C dL_call_174 rfl rfl ?_
  refine V_iload_n 176 C dL_call_175 rfl rfl ?_
  refine V_callSWR 179 C dL_call_176 rfl mL_tryRunner tw672 (c_L_tryRunner l G _ _ hl x σ.1 σ.2.1 σ.2.2.1 σ.2.2.2.1 σ.2.2.2.2 0 (fun _ => 0) hS hI p1) rfl rfl ⟨Nat.le_of_ble_eq_true rfl, Nat.le_of_ble_eq_true rfl⟩ ⟨Nat.le_of_ble_eq_true rfl, Nat.le_of_ble_eq_true rfl⟩ (Nat.le_of_ble_eq_true rfl) ?_
  rintro _ n1 h1 ⟨rfl, gS, gF⟩
  refine V_ireturn C dL_call_179 rfl rfl (by omega) (by omega) ?_
  subst hσ
  exact ⟨by rw [hv], gS, gF⟩

set_option maxRecDepth 100000 in
set_option maxHeartbeats 4000000 in
theorem k_write (l : Launch) (G : GT) (n : Nat) (h : AH) (hl : l.stackTraces = false) (x : Nat) (σ : St) (hS : SC x σ h) (hI : SIs σ) (p1 p2 p3 : Int32) (v : Int32) (hv : rv (kA 1 2 3 (aWr σ.1 p1 p2 p3).1) ((aWr σ.1 p1 p2 p3).1) [eI, eA, eS] = v) (σ' : St) (hσ : ((aWr σ.1 p1 p2 p3).2, (aK (kA 1 2 3 (aWr σ.1 p1 p2 p3).1) σ.2.1), (aD (kA 1 2 3 (aWr σ.1 p1 p2 p3).1) σ.2.1 σ.2.2.1 σ.1), σ.2.2.2.1, σ.2.2.2.2) = σ') : Ct l yL_call cL_call 5 (some .int) 10 4 24 G n h [.ref x, .int (nI 10), .int p1, .int p2, .int p3] (PoS x h v σ') := by
  refine Ct_ofZ mL_call.z (Nat.le_of_ble_eq_true rfl) ?_
  intro p₀ e₀ s₀ m₀ as₀ bl₀ me₀ c₀ C
  refine V_Le (L' := [(0, .ref x), (1, .int (nI 10)), (2, .int p1), (3, .int p2), (4, .int p3)]) rfl ?_
  refine V_iload_n 1 C dL_call_0 rfl rfl ?_
  refine V_tsI 180 C dL_call_1 (j := 10) rfl (by decide) (by decide) (by decide) rfl (by decide) ?_
  refine V_aload_n 181 C dL_call_180 rfl rfl ?_
  refine V_iload_n 182 C dL_call_181 rfl rfl ?_
  refine V_iload_n 183 C dL_call_182 rfl rfl ?_
  refine V_iload 185 C dL_call_183 rfl rfl ?_
  refine V_callSWR 188 C dL_call_185 rfl mL_tryWrite tw680 (c_L_tryWrite l G _ _ hl x σ.1 σ.2.1 σ.2.2.1 σ.2.2.2.1 σ.2.2.2.2 0 (fun _ => 0) hS hI p1 p2 p3) rfl rfl ⟨Nat.le_of_ble_eq_true rfl, Nat.le_of_ble_eq_true rfl⟩ ⟨Nat.le_of_ble_eq_true rfl, Nat.le_of_ble_eq_true rfl⟩ (Nat.le_of_ble_eq_true rfl) ?_
  rintro _ n1 h1 ⟨rfl, gS, gF⟩
  refine V_ireturn C dL_call_188 rfl rfl (by omega) (by omega) ?_
  subst hσ
  exact ⟨by rw [hv], gS, gF⟩

set_option maxRecDepth 100000 in
set_option maxHeartbeats 4000000 in
theorem k_take (l : Launch) (G : GT) (n : Nat) (h : AH) (hl : l.stackTraces = false) (x : Nat) (σ : St) (hS : SC x σ h) (hI : SIs σ) (p1 p2 p3 : Int32) (v : Int32) (hv : rv (kA 1 1 2 (aTk σ.1 p1 p2).1) ((aTk σ.1 p1 p2).1) [eI, eS] = v) (σ' : St) (hσ : ((aTk σ.1 p1 p2).2, (aK (kA 1 1 2 (aTk σ.1 p1 p2).1) σ.2.1), (aD (kA 1 1 2 (aTk σ.1 p1 p2).1) σ.2.1 σ.2.2.1 σ.1), σ.2.2.2.1, σ.2.2.2.2) = σ') : Ct l yL_call cL_call 5 (some .int) 10 4 24 G n h [.ref x, .int (nI 11), .int p1, .int p2, .int p3] (PoS x h v σ') := by
  refine Ct_ofZ mL_call.z (Nat.le_of_ble_eq_true rfl) ?_
  intro p₀ e₀ s₀ m₀ as₀ bl₀ me₀ c₀ C
  refine V_Le (L' := [(0, .ref x), (1, .int (nI 11)), (2, .int p1), (3, .int p2), (4, .int p3)]) rfl ?_
  refine V_iload_n 1 C dL_call_0 rfl rfl ?_
  refine V_tsI 189 C dL_call_1 (j := 11) rfl (by decide) (by decide) (by decide) rfl (by decide) ?_
  refine V_aload_n 190 C dL_call_189 rfl rfl ?_
  refine V_iload_n 191 C dL_call_190 rfl rfl ?_
  refine V_iload_n 192 C dL_call_191 rfl rfl ?_
  refine V_callSWR 195 C dL_call_192 rfl mL_tryTake tw688 (c_L_tryTake l G _ _ hl x σ.1 σ.2.1 σ.2.2.1 σ.2.2.2.1 σ.2.2.2.2 0 (fun _ => 0) hS hI p1 p2) rfl rfl ⟨Nat.le_of_ble_eq_true rfl, Nat.le_of_ble_eq_true rfl⟩ ⟨Nat.le_of_ble_eq_true rfl, Nat.le_of_ble_eq_true rfl⟩ (Nat.le_of_ble_eq_true rfl) ?_
  rintro _ n1 h1 ⟨rfl, gS, gF⟩
  refine V_ireturn C dL_call_195 rfl rfl (by omega) (by omega) ?_
  subst hσ
  exact ⟨by rw [hv], gS, gF⟩

set_option maxRecDepth 100000 in
set_option maxHeartbeats 4000000 in
theorem k_lay (l : Launch) (G : GT) (n : Nat) (h : AH) (hl : l.stackTraces = false) (x : Nat) (σ : St) (hS : SC x σ h) (hI : SIs σ) (p1 p2 p3 : Int32) (v : Int32) (hv : rv (kA 1 1 2 (aLy σ.1 p1).1) ((aLy σ.1 p1).1) [eI, eS] = v) (σ' : St) (hσ : ((aLy σ.1 p1).2, (aK (kA 1 1 2 (aLy σ.1 p1).1) σ.2.1), (aD (kA 1 1 2 (aLy σ.1 p1).1) σ.2.1 σ.2.2.1 σ.1), σ.2.2.2.1, σ.2.2.2.2) = σ') : Ct l yL_call cL_call 5 (some .int) 10 4 24 G n h [.ref x, .int (nI 12), .int p1, .int p2, .int p3] (PoS x h v σ') := by
  refine Ct_ofZ mL_call.z (Nat.le_of_ble_eq_true rfl) ?_
  intro p₀ e₀ s₀ m₀ as₀ bl₀ me₀ c₀ C
  refine V_Le (L' := [(0, .ref x), (1, .int (nI 12)), (2, .int p1), (3, .int p2), (4, .int p3)]) rfl ?_
  refine V_iload_n 1 C dL_call_0 rfl rfl ?_
  refine V_tsI 196 C dL_call_1 (j := 12) rfl (by decide) (by decide) (by decide) rfl (by decide) ?_
  refine V_aload_n 197 C dL_call_196 rfl rfl ?_
  refine V_iload_n 198 C dL_call_197 rfl rfl ?_
  refine V_callSWR 201 C dL_call_198 rfl mL_tryLay tw696 (c_L_tryLay l G _ _ hl x σ.1 σ.2.1 σ.2.2.1 σ.2.2.2.1 σ.2.2.2.2 0 (fun _ => 0) hS hI p1) rfl rfl ⟨Nat.le_of_ble_eq_true rfl, Nat.le_of_ble_eq_true rfl⟩ ⟨Nat.le_of_ble_eq_true rfl, Nat.le_of_ble_eq_true rfl⟩ (Nat.le_of_ble_eq_true rfl) ?_
  rintro _ n1 h1 ⟨rfl, gS, gF⟩
  refine V_ireturn C dL_call_201 rfl rfl (by omega) (by omega) ?_
  subst hσ
  exact ⟨by rw [hv], gS, gF⟩

set_option maxRecDepth 100000 in
set_option maxHeartbeats 4000000 in
theorem k_go (l : Launch) (G : GT) (n : Nat) (h : AH) (hl : l.stackTraces = false) (x : Nat) (σ : St) (hS : SC x σ h) (hI : SIs σ) (p1 p2 p3 : Int32) (v : Int32) (hv : rv (kA 1 1 2 (aGo σ.1 p1 p2).1) ((aGo σ.1 p1 p2).1) [eI, eS] = v) (σ' : St) (hσ : ((aGo σ.1 p1 p2).2, (aK (kA 1 1 2 (aGo σ.1 p1 p2).1) σ.2.1), (aD (kA 1 1 2 (aGo σ.1 p1 p2).1) σ.2.1 σ.2.2.1 σ.1), σ.2.2.2.1, σ.2.2.2.2) = σ') : Ct l yL_call cL_call 5 (some .int) 10 4 24 G n h [.ref x, .int (nI 13), .int p1, .int p2, .int p3] (PoS x h v σ') := by
  refine Ct_ofZ mL_call.z (Nat.le_of_ble_eq_true rfl) ?_
  intro p₀ e₀ s₀ m₀ as₀ bl₀ me₀ c₀ C
  refine V_Le (L' := [(0, .ref x), (1, .int (nI 13)), (2, .int p1), (3, .int p2), (4, .int p3)]) rfl ?_
  refine V_iload_n 1 C dL_call_0 rfl rfl ?_
  refine V_tsI 202 C dL_call_1 (j := 13) rfl (by decide) (by decide) (by decide) rfl (by decide) ?_
  refine V_aload_n 203 C dL_call_202 rfl rfl ?_
  refine V_iload_n 204 C dL_call_203 rfl rfl ?_
  refine V_iload_n 205 C dL_call_204 rfl rfl ?_
  refine V_callSWR 208 C dL_call_205 rfl mL_tryGo tw704 (c_L_tryGo l G _ _ hl x σ.1 σ.2.1 σ.2.2.1 σ.2.2.2.1 σ.2.2.2.2 0 (fun _ => 0) hS hI p1 p2) rfl rfl ⟨Nat.le_of_ble_eq_true rfl, Nat.le_of_ble_eq_true rfl⟩ ⟨Nat.le_of_ble_eq_true rfl, Nat.le_of_ble_eq_true rfl⟩ (Nat.le_of_ble_eq_true rfl) ?_
  rintro _ n1 h1 ⟨rfl, gS, gF⟩
  refine V_ireturn C dL_call_208 rfl rfl (by omega) (by omega) ?_
  subst hσ
  exact ⟨by rw [hv], gS, gF⟩

set_option maxRecDepth 100000 in
set_option maxHeartbeats 4000000 in
theorem k_copy (l : Launch) (G : GT) (n : Nat) (h : AH) (hl : l.stackTraces = false) (x : Nat) (σ : St) (hS : SC x σ h) (hI : SIs σ) (p1 p2 p3 : Int32) (v : Int32) (hv : rv (kA 1 2 1 (aCp σ.1 p1 p2).1) ((aCp σ.1 p1 p2).1) [eI, eA] = v) (σ' : St) (hσ : ((cnt (aCp σ.1 p1 p2)), (aK (kA 1 2 1 (aCp σ.1 p1 p2).1) σ.2.1), (aD (kA 1 2 1 (aCp σ.1 p1 p2).1) σ.2.1 σ.2.2.1 σ.1), σ.2.2.2.1, σ.2.2.2.2) = σ') : Ct l yL_call cL_call 5 (some .int) 10 4 24 G n h [.ref x, .int (nI 14), .int p1, .int p2, .int p3] (PoS x h v σ') := by
  refine Ct_ofZ mL_call.z (Nat.le_of_ble_eq_true rfl) ?_
  intro p₀ e₀ s₀ m₀ as₀ bl₀ me₀ c₀ C
  refine V_Le (L' := [(0, .ref x), (1, .int (nI 14)), (2, .int p1), (3, .int p2), (4, .int p3)]) rfl ?_
  refine V_iload_n 1 C dL_call_0 rfl rfl ?_
  refine V_tsI 209 C dL_call_1 (j := 14) rfl (by decide) (by decide) (by decide) rfl (by decide) ?_
  refine V_aload_n 210 C dL_call_209 rfl rfl ?_
  refine V_iload_n 211 C dL_call_210 rfl rfl ?_
  refine V_iload_n 212 C dL_call_211 rfl rfl ?_
  refine V_callSWR 215 C dL_call_212 rfl mL_tryCopy tw712 (c_L_tryCopy l G _ _ hl x σ.1 σ.2.1 σ.2.2.1 σ.2.2.2.1 σ.2.2.2.2 0 (fun _ => 0) hS hI p1 p2) rfl rfl ⟨Nat.le_of_ble_eq_true rfl, Nat.le_of_ble_eq_true rfl⟩ ⟨Nat.le_of_ble_eq_true rfl, Nat.le_of_ble_eq_true rfl⟩ (Nat.le_of_ble_eq_true rfl) ?_
  rintro _ n1 h1 ⟨rfl, gS, gF⟩
  refine V_ireturn C dL_call_215 rfl rfl (by omega) (by omega) ?_
  subst hσ
  exact ⟨by rw [hv], gS, gF⟩

set_option maxRecDepth 100000 in
set_option maxHeartbeats 4000000 in
theorem k_hours (l : Launch) (G : GT) (n : Nat) (h : AH) (hl : l.stackTraces = false) (x : Nat) (σ : St) (hS : SC x σ h) (hI : SIs σ) (p1 p2 p3 : Int32) (v : Int32) (hv : rv (kA 1 1 1 (aHr σ.1 p1).1) ((aHr σ.1 p1).1) [eA] = v) (σ' : St) (hσ : ((aHr σ.1 p1).2, (aK (kA 1 1 1 (aHr σ.1 p1).1) σ.2.1), (aD (kA 1 1 1 (aHr σ.1 p1).1) σ.2.1 σ.2.2.1 σ.1), σ.2.2.2.1, σ.2.2.2.2) = σ') : Ct l yL_call cL_call 5 (some .int) 10 4 24 G n h [.ref x, .int (nI 15), .int p1, .int p2, .int p3] (PoS x h v σ') := by
  refine Ct_ofZ mL_call.z (Nat.le_of_ble_eq_true rfl) ?_
  intro p₀ e₀ s₀ m₀ as₀ bl₀ me₀ c₀ C
  refine V_Le (L' := [(0, .ref x), (1, .int (nI 15)), (2, .int p1), (3, .int p2), (4, .int p3)]) rfl ?_
  refine V_iload_n 1 C dL_call_0 rfl rfl ?_
  refine V_tsI 216 C dL_call_1 (j := 15) rfl (by decide) (by decide) (by decide) rfl (by decide) ?_
  refine V_aload_n 217 C dL_call_216 rfl rfl ?_
  refine V_iload_n 218 C dL_call_217 rfl rfl ?_
  refine V_callSWR 221 C dL_call_218 rfl mL_tryHours tw724 (c_L_tryHours l G _ _ hl x σ.1 σ.2.1 σ.2.2.1 σ.2.2.2.1 σ.2.2.2.2 0 (fun _ => 0) hS hI p1) rfl rfl ⟨Nat.le_of_ble_eq_true rfl, Nat.le_of_ble_eq_true rfl⟩ ⟨Nat.le_of_ble_eq_true rfl, Nat.le_of_ble_eq_true rfl⟩ (Nat.le_of_ble_eq_true rfl) ?_
  rintro _ n1 h1 ⟨rfl, gS, gF⟩
  refine V_ireturn C dL_call_221 rfl rfl (by omega) (by omega) ?_
  subst hσ
  exact ⟨by rw [hv], gS, gF⟩

set_option maxRecDepth 100000 in
set_option maxHeartbeats 4000000 in
theorem k_undo (l : Launch) (G : GT) (n : Nat) (h : AH) (hl : l.stackTraces = false) (x : Nat) (σ : St) (hS : SC x σ h) (hI : SIs σ) (p1 p2 p3 : Int32) (v : Int32) (hv : rv (if σ.2.1 = 0 then 1 else 0) (nI (σ.2.1 - 1)) [eS] = v) (σ' : St) (hσ : ((if σ.2.1 = 0 then σ.1 else σ.2.2.1 (σ.2.1 - 1)), (σ.2.1 - 1), σ.2.2.1, σ.2.2.2.1, σ.2.2.2.2) = σ') : Ct l yL_call cL_call 5 (some .int) 10 4 24 G n h [.ref x, .int (nI 16), .int p1, .int p2, .int p3] (PoS x h v σ') := by
  refine Ct_ofZ mL_call.z (Nat.le_of_ble_eq_true rfl) ?_
  intro p₀ e₀ s₀ m₀ as₀ bl₀ me₀ c₀ C
  refine V_Le (L' := [(0, .ref x), (1, .int (nI 16)), (2, .int p1), (3, .int p2), (4, .int p3)]) rfl ?_
  refine V_iload_n 1 C dL_call_0 rfl rfl ?_
  refine V_tsI 222 C dL_call_1 (j := 16) rfl (by decide) (by decide) (by decide) rfl (by decide) ?_
  refine V_aload_n 223 C dL_call_222 rfl rfl ?_
  refine V_callSWR 226 C dL_call_223 rfl mL_tryUndo tw732 (c_L_tryUndo l G _ _ hl x σ.1 σ.2.1 σ.2.2.1 σ.2.2.2.1 σ.2.2.2.2 0 (fun _ => 0) hS hI) rfl rfl ⟨Nat.le_of_ble_eq_true rfl, Nat.le_of_ble_eq_true rfl⟩ ⟨Nat.le_of_ble_eq_true rfl, Nat.le_of_ble_eq_true rfl⟩ (Nat.le_of_ble_eq_true rfl) ?_
  rintro _ n1 h1 ⟨rfl, gS, gF⟩
  refine V_ireturn C dL_call_226 rfl rfl (by omega) (by omega) ?_
  subst hσ
  exact ⟨by rw [hv], gS, gF⟩

set_option maxRecDepth 100000 in
set_option maxHeartbeats 4000000 in
theorem k_why (l : Launch) (G : GT) (n : Nat) (h : AH) (hl : l.stackTraces = false) (x : Nat) (σ : St) (hS : SC x σ h) (hI : SIs σ) (p1 p2 p3 : Int32) (v : Int32) (hv : rv (if ix p1 (σ.1 4) then 0 else 1) (nI (crs σ.1 (z p1))) [eI] = v) : Ct l yL_call cL_call 5 (some .int) 10 4 24 G n h [.ref x, .int (nI 17), .int p1, .int p2, .int p3] (PoS x h v σ) := by
  refine Ct_ofZ mL_call.z (Nat.le_of_ble_eq_true rfl) ?_
  intro p₀ e₀ s₀ m₀ as₀ bl₀ me₀ c₀ C
  refine V_Le (L' := [(0, .ref x), (1, .int (nI 17)), (2, .int p1), (3, .int p2), (4, .int p3)]) rfl ?_
  refine V_iload_n 1 C dL_call_0 rfl rfl ?_
  refine V_tsI 227 C dL_call_1 (j := 17) rfl (by decide) (by decide) (by decide) rfl (by decide) ?_
  refine V_aload_n 228 C dL_call_227 rfl rfl ?_
  refine V_iload_n 229 C dL_call_228 rfl rfl ?_
  refine V_callSWR 232 C dL_call_229 rfl mL_tryWhy tw744 (c_L_tryWhy l G _ _ hl x σ.1 σ.2.1 σ.2.2.1 σ.2.2.2.1 σ.2.2.2.2 0 (fun _ => 0) hS hI p1) rfl rfl ⟨Nat.le_of_ble_eq_true rfl, Nat.le_of_ble_eq_true rfl⟩ ⟨Nat.le_of_ble_eq_true rfl, Nat.le_of_ble_eq_true rfl⟩ (Nat.le_of_ble_eq_true rfl) ?_
  rintro _ n1 h1 ⟨rfl, gS, gF⟩
  refine V_ireturn C dL_call_232 rfl rfl (by omega) (by omega) ?_
  exact ⟨by rw [hv], gS, gF⟩

set_option maxRecDepth 100000 in
set_option maxHeartbeats 4000000 in
theorem k_later (l : Launch) (G : GT) (n : Nat) (h : AH) (hl : l.stackTraces = false) (x : Nat) (σ : St) (hS : SC x σ h) (hI : SIs σ) (p1 p2 p3 : Int32) (v : Int32) (hv : rv (if ix p1 (σ.1 4) then (if ix p2 201 then 0 else 2) else 1) (nI (ers σ.1 (z p1) (z p2))) [eI, eA] = v) : Ct l yL_call cL_call 5 (some .int) 10 4 24 G n h [.ref x, .int (nI 18), .int p1, .int p2, .int p3] (PoS x h v σ) := by
  refine Ct_ofZ mL_call.z (Nat.le_of_ble_eq_true rfl) ?_
  intro p₀ e₀ s₀ m₀ as₀ bl₀ me₀ c₀ C
  refine V_Le (L' := [(0, .ref x), (1, .int (nI 18)), (2, .int p1), (3, .int p2), (4, .int p3)]) rfl ?_
  refine V_iload_n 1 C dL_call_0 rfl rfl ?_
  refine V_tsI 233 C dL_call_1 (j := 18) rfl (by decide) (by decide) (by decide) rfl (by decide) ?_
  refine V_aload_n 234 C dL_call_233 rfl rfl ?_
  refine V_iload_n 235 C dL_call_234 rfl rfl ?_
  refine V_iload_n 236 C dL_call_235 rfl rfl ?_
  refine V_callSWR 239 C dL_call_236 rfl mL_tryLater tw752 (c_L_tryLater l G _ _ hl x σ.1 σ.2.1 σ.2.2.1 σ.2.2.2.1 σ.2.2.2.2 0 (fun _ => 0) hS hI p1 p2) rfl rfl ⟨Nat.le_of_ble_eq_true rfl, Nat.le_of_ble_eq_true rfl⟩ ⟨Nat.le_of_ble_eq_true rfl, Nat.le_of_ble_eq_true rfl⟩ (Nat.le_of_ble_eq_true rfl) ?_
  rintro _ n1 h1 ⟨rfl, gS, gF⟩
  refine V_ireturn C dL_call_239 rfl rfl (by omega) (by omega) ?_
  exact ⟨by rw [hv], gS, gF⟩

set_option maxRecDepth 100000 in
set_option maxHeartbeats 4000000 in
theorem k_right (l : Launch) (G : GT) (n : Nat) (h : AH) (hl : l.stackTraces = false) (x : Nat) (σ : St) (hS : SC x σ h) (hI : SIs σ) (p1 p2 p3 : Int32) (v : Int32) (hv : rv (if ix p1 (σ.1 4) then 0 else 1) (nI (rgt σ.1 (z p1) 200 1)) [eI] = v) : Ct l yL_call cL_call 5 (some .int) 10 4 24 G n h [.ref x, .int (nI 19), .int p1, .int p2, .int p3] (PoS x h v σ) := by
  refine Ct_ofZ mL_call.z (Nat.le_of_ble_eq_true rfl) ?_
  intro p₀ e₀ s₀ m₀ as₀ bl₀ me₀ c₀ C
  refine V_Le (L' := [(0, .ref x), (1, .int (nI 19)), (2, .int p1), (3, .int p2), (4, .int p3)]) rfl ?_
  refine V_iload_n 1 C dL_call_0 rfl rfl ?_
  refine V_tsI 240 C dL_call_1 (j := 19) rfl (by decide) (by decide) (by decide) rfl (by decide) ?_
  refine V_aload_n 241 C dL_call_240 rfl rfl ?_
  refine V_iload_n 242 C dL_call_241 rfl rfl ?_
  refine V_callSWR 245 C dL_call_242 rfl mL_tryRight tw759 (c_L_tryRight l G _ _ hl x σ.1 σ.2.1 σ.2.2.1 σ.2.2.2.1 σ.2.2.2.2 0 (fun _ => 0) hS hI p1) rfl rfl ⟨Nat.le_of_ble_eq_true rfl, Nat.le_of_ble_eq_true rfl⟩ ⟨Nat.le_of_ble_eq_true rfl, Nat.le_of_ble_eq_true rfl⟩ (Nat.le_of_ble_eq_true rfl) ?_
  rintro _ n1 h1 ⟨rfl, gS, gF⟩
  refine V_ireturn C dL_call_245 rfl rfl (by omega) (by omega) ?_
  exact ⟨by rw [hv], gS, gF⟩

set_option maxRecDepth 100000 in
set_option maxHeartbeats 4000000 in
theorem k_route (l : Launch) (G : GT) (n : Nat) (h : AH) (hl : l.stackTraces = false) (x : Nat) (σ : St) (hS : SC x σ h) (hI : SIs σ) (p1 p2 p3 : Int32) (v : Int32) (hv : rv (if ix p1 (σ.1 0) ∧ ix p2 (σ.1 0) then (if ix p3 2 then 0 else 2) else 1) (nI (mo (dst σ.1 (z p1) (z p2)))) [eI, eA] = v) : Ct l yL_call cL_call 5 (some .int) 10 4 24 G n h [.ref x, .int (nI 20), .int p1, .int p2, .int p3] (PoS x h v σ) := by
  refine Ct_ofZ mL_call.z (Nat.le_of_ble_eq_true rfl) ?_
  intro p₀ e₀ s₀ m₀ as₀ bl₀ me₀ c₀ C
  refine V_Le (L' := [(0, .ref x), (1, .int (nI 20)), (2, .int p1), (3, .int p2), (4, .int p3)]) rfl ?_
  refine V_iload_n 1 C dL_call_0 rfl rfl ?_
  refine V_tsI 246 C dL_call_1 (j := 20) rfl (by decide) (by decide) (by decide) rfl (by decide) ?_
  refine V_aload_n 247 C dL_call_246 rfl rfl ?_
  refine V_iload_n 248 C dL_call_247 rfl rfl ?_
  refine V_iload_n 249 C dL_call_248 rfl rfl ?_
  refine V_iload 251 C dL_call_249 rfl rfl ?_
  refine V_callSWR 254 C dL_call_251 rfl mL_tryRoute tw766 (c_L_tryRoute l G _ _ hl x σ.1 σ.2.1 σ.2.2.1 σ.2.2.2.1 σ.2.2.2.2 0 (fun _ => 0) hS hI p1 p2 p3) rfl rfl ⟨Nat.le_of_ble_eq_true rfl, Nat.le_of_ble_eq_true rfl⟩ ⟨Nat.le_of_ble_eq_true rfl, Nat.le_of_ble_eq_true rfl⟩ (Nat.le_of_ble_eq_true rfl) ?_
  rintro _ n1 h1 ⟨rfl, gS, gF⟩
  refine V_ireturn C dL_call_254 rfl rfl (by omega) (by omega) ?_
  exact ⟨by rw [hv], gS, gF⟩

set_option maxRecDepth 100000 in
set_option maxHeartbeats 4000000 in
theorem k_next (l : Launch) (G : GT) (n : Nat) (h : AH) (hl : l.stackTraces = false) (x : Nat) (σ : St) (hS : SC x σ h) (hI : SIs σ) (p1 p2 p3 : Int32) (v : Int32) (hv : rv (if ix p1 (σ.1 0) ∧ ix p2 (σ.1 0) then 0 else 1) (nI (rto σ.1 (z p1) (z p2))) [eI] = v) : Ct l yL_call cL_call 5 (some .int) 10 4 24 G n h [.ref x, .int (nI 21), .int p1, .int p2, .int p3] (PoS x h v σ) := by
  refine Ct_ofZ mL_call.z (Nat.le_of_ble_eq_true rfl) ?_
  intro p₀ e₀ s₀ m₀ as₀ bl₀ me₀ c₀ C
  refine V_Le (L' := [(0, .ref x), (1, .int (nI 21)), (2, .int p1), (3, .int p2), (4, .int p3)]) rfl ?_
  refine V_iload_n 1 C dL_call_0 rfl rfl ?_
  refine V_tsI 255 C dL_call_1 (j := 21) rfl (by decide) (by decide) (by decide) rfl (by decide) ?_
  refine V_aload_n 256 C dL_call_255 rfl rfl ?_
  refine V_iload_n 257 C dL_call_256 rfl rfl ?_
  refine V_iload_n 258 C dL_call_257 rfl rfl ?_
  refine V_callSWR 261 C dL_call_258 rfl mL_tryNext tw805 (c_L_tryNext l G _ _ hl x σ.1 σ.2.1 σ.2.2.1 σ.2.2.2.1 σ.2.2.2.2 0 (fun _ => 0) hS hI p1 p2) rfl rfl ⟨Nat.le_of_ble_eq_true rfl, Nat.le_of_ble_eq_true rfl⟩ ⟨Nat.le_of_ble_eq_true rfl, Nat.le_of_ble_eq_true rfl⟩ (Nat.le_of_ble_eq_true rfl) ?_
  rintro _ n1 h1 ⟨rfl, gS, gF⟩
  refine V_ireturn C dL_call_261 rfl rfl (by omega) (by omega) ?_
  exact ⟨by rw [hv], gS, gF⟩

set_option maxRecDepth 100000 in
set_option maxHeartbeats 4000000 in
theorem k_bring (l : Launch) (G : GT) (n : Nat) (h : AH) (hl : l.stackTraces = false) (x : Nat) (σ : St) (hS : SC x σ h) (hI : SIs σ) (p1 p2 p3 : Int32) (v : Int32) (hv : rv (if ix p1 (σ.1 4) ∧ ix p2 (σ.1 0) then 0 else 1) (nI (qIb σ.1 (z p1) (z p2))) [eI] = v) : Ct l yL_call cL_call 5 (some .int) 10 4 24 G n h [.ref x, .int (nI 22), .int p1, .int p2, .int p3] (PoS x h v σ) := by
  refine Ct_ofZ mL_call.z (Nat.le_of_ble_eq_true rfl) ?_
  intro p₀ e₀ s₀ m₀ as₀ bl₀ me₀ c₀ C
  refine V_Le (L' := [(0, .ref x), (1, .int (nI 22)), (2, .int p1), (3, .int p2), (4, .int p3)]) rfl ?_
  refine V_iload_n 1 C dL_call_0 rfl rfl ?_
  refine V_tsI 262 C dL_call_1 (j := 22) rfl (by decide) (by decide) (by decide) rfl (by decide) ?_
  refine V_aload_n 263 C dL_call_262 rfl rfl ?_
  refine V_iload_n 264 C dL_call_263 rfl rfl ?_
  refine V_iload_n 265 C dL_call_264 rfl rfl ?_
  refine V_callSWR 268 C dL_call_265 rfl mL_tryBring tw816 (c_L_tryBring l G _ _ hl x σ.1 σ.2.1 σ.2.2.1 σ.2.2.2.1 σ.2.2.2.2 0 (fun _ => 0) hS hI p1 p2) rfl rfl ⟨Nat.le_of_ble_eq_true rfl, Nat.le_of_ble_eq_true rfl⟩ ⟨Nat.le_of_ble_eq_true rfl, Nat.le_of_ble_eq_true rfl⟩ (Nat.le_of_ble_eq_true rfl) ?_
  rintro _ n1 h1 ⟨rfl, gS, gF⟩
  refine V_ireturn C dL_call_268 rfl rfl (by omega) (by omega) ?_
  exact ⟨by rw [hv], gS, gF⟩

set_option maxRecDepth 100000 in
set_option maxHeartbeats 4000000 in
theorem k_best (l : Launch) (G : GT) (n : Nat) (h : AH) (hl : l.stackTraces = false) (x : Nat) (σ : St) (hS : SC x σ h) (hI : SIs σ) (p1 p2 p3 : Int32) (v : Int32) (hv : rv (if ix p1 (σ.1 3) then 0 else 1) (nI (bestk σ.1 (z p1) (σ.1 4))) [eI] = v) : Ct l yL_call cL_call 5 (some .int) 10 4 24 G n h [.ref x, .int (nI 23), .int p1, .int p2, .int p3] (PoS x h v σ) := by
  refine Ct_ofZ mL_call.z (Nat.le_of_ble_eq_true rfl) ?_
  intro p₀ e₀ s₀ m₀ as₀ bl₀ me₀ c₀ C
  refine V_Le (L' := [(0, .ref x), (1, .int (nI 23)), (2, .int p1), (3, .int p2), (4, .int p3)]) rfl ?_
  refine V_iload_n 1 C dL_call_0 rfl rfl ?_
  refine V_tsI 269 C dL_call_1 (j := 23) rfl (by decide) (by decide) (by decide) rfl (by decide) ?_
  refine V_aload_n 270 C dL_call_269 rfl rfl ?_
  refine V_iload_n 271 C dL_call_270 rfl rfl ?_
  refine V_callSWR 274 C dL_call_271 rfl mL_tryBest tw823 (c_L_tryBest l G _ _ hl x σ.1 σ.2.1 σ.2.2.1 σ.2.2.2.1 σ.2.2.2.2 0 (fun _ => 0) hS hI p1) rfl rfl ⟨Nat.le_of_ble_eq_true rfl, Nat.le_of_ble_eq_true rfl⟩ ⟨Nat.le_of_ble_eq_true rfl, Nat.le_of_ble_eq_true rfl⟩ (Nat.le_of_ble_eq_true rfl) ?_
  rintro _ n1 h1 ⟨rfl, gS, gF⟩
  refine V_ireturn C dL_call_274 rfl rfl (by omega) (by omega) ?_
  exact ⟨by rw [hv], gS, gF⟩

set_option maxRecDepth 100000 in
set_option maxHeartbeats 4000000 in
theorem k_keep (l : Launch) (G : GT) (n : Nat) (h : AH) (hl : l.stackTraces = false) (x : Nat) (σ : St) (hS : SC x σ h) (hI : SIs σ) (p1 p2 p3 : Int32) (v : Int32) (hv : rv (if ix p1 2 then 0 else 1) (nI (σ.1 5)) [eI] = v) (σ' : St) (hσ : (σ.1, σ.2.1, σ.2.2.1, (sA (if ix p1 2 then 0 else 1) (z p1) σ.1 σ.2.2.2.1), (sB (if ix p1 2 then 0 else 1) (z p1) σ.2.2.2.2)) = σ') : Ct l yL_call cL_call 5 (some .int) 10 4 24 G n h [.ref x, .int (nI 24), .int p1, .int p2, .int p3] (PoS x h v σ') := by
  refine Ct_ofZ mL_call.z (Nat.le_of_ble_eq_true rfl) ?_
  intro p₀ e₀ s₀ m₀ as₀ bl₀ me₀ c₀ C
  refine V_Le (L' := [(0, .ref x), (1, .int (nI 24)), (2, .int p1), (3, .int p2), (4, .int p3)]) rfl ?_
  refine V_iload_n 1 C dL_call_0 rfl rfl ?_
  refine V_tsI 275 C dL_call_1 (j := 24) rfl (by decide) (by decide) (by decide) rfl (by decide) ?_
  refine V_aload_n 276 C dL_call_275 rfl rfl ?_
  refine V_iload_n 277 C dL_call_276 rfl rfl ?_
  refine V_callSWR 280 C dL_call_277 rfl mL_tryKeep tw838 (c_L_tryKeep l G _ _ hl x σ.1 σ.2.1 σ.2.2.1 σ.2.2.2.1 σ.2.2.2.2 0 (fun _ => 0) hS hI p1) rfl rfl ⟨Nat.le_of_ble_eq_true rfl, Nat.le_of_ble_eq_true rfl⟩ ⟨Nat.le_of_ble_eq_true rfl, Nat.le_of_ble_eq_true rfl⟩ (Nat.le_of_ble_eq_true rfl) ?_
  rintro _ n1 h1 ⟨rfl, gS, gF⟩
  refine V_ireturn C dL_call_280 rfl rfl (by omega) (by omega) ?_
  subst hσ
  exact ⟨by rw [hv], gS, gF⟩

set_option maxRecDepth 100000 in
set_option maxHeartbeats 4000000 in
theorem k_back (l : Launch) (G : GT) (n : Nat) (h : AH) (hl : l.stackTraces = false) (x : Nat) (σ : St) (hS : SC x σ h) (hI : SIs σ) (p1 p2 p3 : Int32) (v : Int32) (hv : rv (if ix p1 2 then (if σ.2.2.2.2 (z p1) = true then 0 else 2) else 1) (nI (σ.2.2.2.1 (z p1) 5)) [eI, eS] = v) (σ' : St) (hσ : ((if (if ix p1 2 then (if σ.2.2.2.2 (z p1) = true then 0 else 2) else 1) = 0 then σ.2.2.2.1 (z p1) else σ.1), (if (if ix p1 2 then (if σ.2.2.2.2 (z p1) = true then 0 else 2) else 1) = 0 then 0 else σ.2.1), σ.2.2.1, σ.2.2.2.1, σ.2.2.2.2) = σ') : Ct l yL_call cL_call 5 (some .int) 10 4 24 G n h [.ref x, .int (nI 25), .int p1, .int p2, .int p3] (PoS x h v σ') := by
  refine Ct_ofZ mL_call.z (Nat.le_of_ble_eq_true rfl) ?_
  intro p₀ e₀ s₀ m₀ as₀ bl₀ me₀ c₀ C
  refine V_Le (L' := [(0, .ref x), (1, .int (nI 25)), (2, .int p1), (3, .int p2), (4, .int p3)]) rfl ?_
  refine V_iload_n 1 C dL_call_0 rfl rfl ?_
  refine V_tableOut 281 C dL_call_1 (by decide) (by decide) ?_
  refine V_aload_n 282 C dL_call_281 rfl rfl ?_
  refine V_iload_n 283 C dL_call_282 rfl rfl ?_
  refine V_callSWR 286 C dL_call_283 rfl mL_tryBack tw846 (c_L_tryBack l G _ _ hl x σ.1 σ.2.1 σ.2.2.1 σ.2.2.2.1 σ.2.2.2.2 0 (fun _ => 0) hS hI p1) rfl rfl ⟨Nat.le_of_ble_eq_true rfl, Nat.le_of_ble_eq_true rfl⟩ ⟨Nat.le_of_ble_eq_true rfl, Nat.le_of_ble_eq_true rfl⟩ (Nat.le_of_ble_eq_true rfl) ?_
  rintro _ n1 h1 ⟨rfl, gS, gF⟩
  refine V_ireturn C dL_call_286 rfl rfl (by omega) (by omega) ?_
  subst hσ
  exact ⟨by rw [hv], gS, gF⟩

set_option maxRecDepth 100000 in
set_option maxHeartbeats 4000000 in
theorem k_proofs (l : Launch) (G : GT) (n : Nat) (h : AH) (hl : l.stackTraces = false) (x : Nat) (σ : St) (hS : SC x σ h) (hI : SIs σ) (p1 : Int32) (p2 : Int32) (p3 : Int32) (p4 : Int32) (v : Int32) (hv : rv (kA 1 2 1 (aPr σ.1 p1 p2 p3 p4).1) ((aPr σ.1 p1 p2 p3 p4).1) [eI, eA] = v) (σ' : St) (hσ : ((cnt (aPr σ.1 p1 p2 p3 p4)), (aK (kA 1 2 1 (aPr σ.1 p1 p2 p3 p4).1) σ.2.1), (aD (kA 1 2 1 (aPr σ.1 p1 p2 p3 p4).1) σ.2.1 σ.2.2.1 σ.1), σ.2.2.2.1, σ.2.2.2.2) = σ') : CW l yL_proofs cL_proofs 6 (some .int) [((0 : Nat), (9 : Nat), (10 : Nat), (13 : Nat)), ((0 : Nat), (9 : Nat), (15 : Nat), (16 : Nat))] 9 4 24 G n h [.ref x, .int p1, .int p2, .int p3, .int p4] (PoS x h v σ') := by
  subst hσ
  have K := c_L_proofs l G n h hl x σ.1 σ.2.1 σ.2.2.1 σ.2.2.2.1 σ.2.2.2.2 0 (fun _ => 0) hS hI p1 p2 p3 p4
  rw [hv] at K
  exact K

set_option maxRecDepth 100000 in
set_option maxHeartbeats 4000000 in
theorem k_doScript (l : Launch) (G : GT) (n : Nat) (h : AH) (hl : l.stackTraces = false) (x : Nat) (σ : St) (hS : SC x σ h) (hI : SIs σ) (p1 : Int32) (p2 : Int64) (v : Int32) (hv : rv (if (1 ≤ p1.toInt ∧ p1.toInt ≤ 3) ∧ (0 ≤ p2.toInt ∧ wz p2 < 100000 ^ z p1) then 0 else 1) (nI (scr (wz p2) (z p1) (z p1) 0 σ.1)) [eA] = v) : CW l yL_doScript cL_doScript 5 (some .int) [((0 : Nat), (6 : Nat), (7 : Nat), (16 : Nat))] 9 4 24 G n h [.ref x, .int p1, .long p2] (PoS x h v σ) := by
  have K := c_L_doScript l G n h hl x σ.1 σ.2.1 σ.2.2.1 σ.2.2.2.1 σ.2.2.2.2 0 (fun _ => 0) hS hI p1 p2
  rw [hv] at K
  exact K

set_option maxRecDepth 100000 in
set_option maxHeartbeats 4000000 in
theorem k_doSimulate (l : Launch) (G : GT) (n : Nat) (h : AH) (hl : l.stackTraces = false) (x : Nat) (σ : St) (hS : SC x σ h) (hI : SIs σ) (p1 : Int64) (p2 : Int32) (v : Int32) (hv : rv (if 1 ≤ p2.toInt ∧ p2.toInt ≤ 60 then 0 else 1) (nI (smA (trk p1 σ.1 (z p2)))) [eA] = v) : CW l yL_doSimulate cL_doSimulate 5 (some .int) [((0 : Nat), (6 : Nat), (7 : Nat), (16 : Nat))] 8 4 24 G n h [.ref x, .long p1, .int p2] (PoS x h v σ) := by
  have K := c_L_doSimulate l G n h hl x σ.1 σ.2.1 σ.2.2.1 σ.2.2.2.1 σ.2.2.2.2 0 (fun _ => 0) hS hI p1 p2
  rw [hv] at K
  exact K

