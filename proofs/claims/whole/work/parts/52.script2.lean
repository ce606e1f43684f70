/-! THE SCRIPTS: the reference -/
theorem inL {k lo hi : Nat} {a b : Int64} (hk : k < 2 ^ 31) (ha : a.toInt = (lo : Int)) (hb : b.toInt = (hi : Int)) : bp (a.toInt ≤ (nI k).toInt64.toInt ∧ (nI k).toInt64.toInt ≤ b.toInt) = bp (lo ≤ k ∧ k ≤ hi) := by
  apply bp_c
  rw [Int32.toInt_toInt64, nI_toInt hk, ha, hb]
  omega
theorem inmo2 {v e : Nat} (hv : v ≤ FAR) (he : e < 100) : (Int64.toInt (Int64.ofNat 0) ≤ (nI (mo v)).toInt64.toInt ∧ (nI (mo v)).toInt64.toInt ≤ (nI e).toInt64.toInt) ↔ mo v ≤ e := by
  rw [Int32.toInt_toInt64, Int32.toInt_toInt64, show Int64.toInt (Int64.ofNat 0) = (nI 0).toInt from by decide]
  exact inmo hv he
/-- what a command of a script does to the reference at m (its trial at m + 3) -/
def RMP (m n : Nat) (h : AH) (r : Bool × (Nat → Nat)) : Option Value → Nat → AH → Prop := fun v n' h' => v = some (.int (nI (bp (r.1 = true)))) ∧ n = n' ∧ ∃ y' f', Iv y' ∧ h' = HR (up h (m + 7) (ra f')) (m + 3) y' ∧ (r.1 = true → y' = r.2)
theorem RMP_0 {m n : Nat} {h : AH} {r : Bool × (Nat → Nat)} {y2 : Nat → Nat} {f : Nat → Int32} (hof : h (m + 7) = some (ra f)) (hI : Iv y2) (e : r.1 = false) : RMP m n h r (some (.int (nI 0))) n (HR h (m + 3) y2) := ⟨by rw [e]; rfl, rfl, y2, f, hI, by rw [up_id hof], fun z => by rw [e] at z; cases z⟩
theorem RMP_1 {m n : Nat} {h : AH} {r : Bool × (Nat → Nat)} {y2 : Nat → Nat} {f : Nat → Int32} (hof : h (m + 7) = some (ra f)) (hI : Iv y2) (e : r = (true, y2)) : RMP m n h r (some (.int (nI 1))) n (HR h (m + 3) y2) := ⟨by rw [e]; rfl, rfl, y2, f, hI, by rw [up_id hof], fun _ => by rw [e]⟩
theorem RMP_2 {m n : Nat} {h : AH} {r : Bool × (Nat → Nat)} {y : Nat → Nat} {f : Nat → Int32} (hof : h (m + 7) = some (ra f)) (hx : Row (m + 3) y h) (hI : Iv y) (e : r.1 = false) : RMP m n h r (some (.int (nI 0))) n h := ⟨by rw [e]; rfl, rfl, y, f, hI, by rw [up_id hof, HR_id hx], fun z => by rw [e] at z; cases z⟩
theorem RMP_3 {m n : Nat} {h : AH} {r : Bool × (Nat → Nat)} {y : Nat → Nat} {f : Nat → Int32} (hof : h (m + 7) = some (ra f)) (hx : Row (m + 3) y h) (hI : Iv y) (e : r = (true, y)) : RMP m n h r (some (.int (nI 1))) n h := ⟨by rw [e]; rfl, rfl, y, f, hI, by rw [up_id hof, HR_id hx], fun _ => by rw [e]⟩
theorem RMP_4 {m n : Nat} {h : AH} {r : Bool × (Nat → Nat)} {y : Nat → Nat} {f' : Nat → Int32} {v : Nat} (hx : Row (m + 3) y h) (hI : Iv y) (ev : v = bp (r.1 = true)) (e : r.2 = y) : RMP m n h r (some (.int (nI v))) n (up h (m + 7) (ra f')) := ⟨by rw [ev], rfl, y, f', hI, (HR_id ((up_n _ (by omega)).trans hx)).symm, fun _ => e.symm⟩
theorem dX10_isRoute_0 : decode cX10_isRoute 0 = .ok (.aload_n 0, 1) := by decide +kernel
theorem dX10_isRoute_1 : decode cX10_isRoute 1 = .ok (.getfield 16, 3) := by decide +kernel
theorem dX10_isRoute_4 : decode cX10_isRoute 4 = .ok (.iload_n 1, 1) := by decide +kernel
theorem dX10_isRoute_5 : decode cX10_isRoute 5 = .ok (.iload_n 2, 1) := by decide +kernel
theorem dX10_isRoute_6 : decode cX10_isRoute 6 = .ok (.invokestatic 141, 3) := by decide +kernel
theorem dX10_isRoute_9 : decode cX10_isRoute 9 = .ok (.ifCond .ne 5, 3) := by decide +kernel
theorem dX10_isRoute_12 : decode cX10_isRoute 12 = .ok (.iconst 0, 1) := by decide +kernel
theorem dX10_isRoute_13 : decode cX10_isRoute 13 = .ok (.ireturn, 1) := by decide +kernel
theorem dX10_isRoute_14 : decode cX10_isRoute 14 = .ok (.aload_n 0, 1) := by decide +kernel
theorem dX10_isRoute_15 : decode cX10_isRoute 15 = .ok (.aload_n 0, 1) := by decide +kernel
theorem dX10_isRoute_16 : decode cX10_isRoute 16 = .ok (.getfield 16, 3) := by decide +kernel
theorem dX10_isRoute_19 : decode cX10_isRoute 19 = .ok (.iload_n 1, 1) := by decide +kernel
theorem dX10_isRoute_20 : decode cX10_isRoute 20 = .ok (.invokevirtual 267, 3) := by decide +kernel
theorem dX10_isRoute_23 : decode cX10_isRoute 23 = .ok (.aload_n 0, 1) := by decide +kernel
theorem dX10_isRoute_24 : decode cX10_isRoute 24 = .ok (.getfield 29, 3) := by decide +kernel
theorem dX10_isRoute_27 : decode cX10_isRoute 27 = .ok (.iload_n 2, 1) := by decide +kernel
theorem dX10_isRoute_28 : decode cX10_isRoute 28 = .ok (.iaload, 1) := by decide +kernel
theorem dX10_isRoute_29 : decode cX10_isRoute 29 = .ok (.i2l, 1) := by decide +kernel
theorem dX10_isRoute_30 : decode cX10_isRoute 30 = .ok (.lconst 0, 1) := by decide +kernel
theorem dX10_isRoute_31 : decode cX10_isRoute 31 = .ok (.iload_n 3, 1) := by decide +kernel
theorem dX10_isRoute_32 : decode cX10_isRoute 32 = .ok (.i2l, 1) := by decide +kernel
theorem dX10_isRoute_33 : decode cX10_isRoute 33 = .ok (.invokestatic 40, 3) := by decide +kernel
theorem dX10_isRoute_36 : decode cX10_isRoute 36 = .ok (.ireturn, 1) := by decide +kernel
set_option maxRecDepth 100000 in
set_option maxHeartbeats 4000000 in
theorem c_X10_isRoute (l : Launch) (G : GT) (n : Nat) (h : AH) (m : Nat) (rf sz ac sp ou : Int32) (hm : h m = some (obM m rf sz ac sp ou)) (y : Nat → Nat) (hx : Row (m + 3) y h) (hI : Iv y) (f : Nat → Int32) (hof : h (m + 7) = some (ra f)) (a1 b1 e1 : Nat) (h1 : a1 < 10) (h2 : b1 < 10) (h3 : e1 < 100) : Ct l yX10_isRoute cX10_isRoute 4 (some .boolean) 6 0 0 G n h [.ref m, .int (nI a1), .int (nI b1), .int (nI e1)] (fun v n' h' => v = some (.int (nI (bp (a1 < y 0 ∧ b1 < y 0 ∧ mo (dst y a1 b1) ≤ e1)))) ∧ n = n' ∧ ∃ f', h' = up h (m + 7) (ra f')) := by
  have NE := NO_eq
  obtain ⟨⟨i0, i1, i2, i3, i4⟩, iR, iU, iM, iS⟩ := id hI
  refine Ct_of mX10_isRoute.1 (Nat.le_of_ble_eq_true rfl) ?_
  intro p₀ e₀ s₀ m₀ as₀ bl₀ me₀ c₀ C hin
  refine V_Le (L' := [(0, .ref m), (1, .int (nI a1)), (2, .int (nI b1)), (3, .int (nI e1))]) rfl ?_
  refine V_aload_n 1 C dX10_isRoute_0 rfl rfl ?_
  refine V_get (k := 4) 4 C dX10_isRoute_1 rfl fcX10 tw940 (by decide) rfl hm rfl ?_
  refine V_iload_n 5 C dX10_isRoute_4 rfl rfl ?_
  refine V_iload_n 6 C dX10_isRoute_5 rfl rfl ?_
  refine V_callS 9 C dX10_isRoute_6 rfl mX10_areEnds tw1025 (c_X10_areEnds l G _ _ (m + 3) y hx hI (nI a1) (nI b1)) rfl rfl (by decide) ⟨by omega, by omega⟩ (Nat.le_of_ble_eq_true rfl) ?_
  rintro _ _ _ ⟨rfl, rfl, rfl⟩
  refine V_if_neB 14 12 C dX10_isRoute_9 (by decide) rfl  (fun c9 => ?_) (fun c9 => ?_)
  · have ia : a1 < y 0 := (ix_nI (by omega)).mp c9.1
    have ib : b1 < y 0 := (ix_nI (by omega)).mp c9.2
    refine V_aload_n 15 C dX10_isRoute_14 rfl rfl ?_
    refine V_aload_n 16 C dX10_isRoute_15 rfl rfl ?_
    refine V_get (k := 4) 19 C dX10_isRoute_16 rfl fcX10 tw940 (by decide) rfl hm rfl ?_
    refine V_iload_n 20 C dX10_isRoute_19 rfl rfl ?_
    refine V_callV 23 C dX10_isRoute_20 rfl mX10_findFar tw1272 fcX10 hm (c_X10_findFar l G _ _ m rf sz ac sp ou hm f hof (m + 3) y hx hI (by omega) a1 (by omega)) rfl rfl (by decide) ⟨by omega, by omega⟩ (Nat.le_of_ble_eq_true rfl) ?_
    rintro _ _ _ ⟨rfl, rfl, f2, rfl, hf2⟩
    have hm2 : (up h (m + 7) (ra f2)) m = _ := (up_n _ (by omega)).trans hm
    refine V_aload_n 24 C dX10_isRoute_23 rfl rfl ?_
    refine V_get (k := 9) 27 C dX10_isRoute_24 rfl fcX10 tw945 (by decide) rfl hm2 rfl ?_
    refine V_iload_n 28 C dX10_isRoute_27 rfl rfl ?_
    refine V_iald (j := b1) 29 C dX10_isRoute_28 rfl (up_s _ _ _) rfl (by omega) (by omega) ?_
    rw [hf2 b1 (by omega)]
    refine V_i2l 30 C dX10_isRoute_29 rfl  ?_
    refine V_lconst 31 C dX10_isRoute_30 rfl rfl ?_
    refine V_iload_n 32 C dX10_isRoute_31 rfl rfl ?_
    refine V_i2l 33 C dX10_isRoute_32 rfl  ?_
    refine V_callS 36 C dX10_isRoute_33 rfl mX10_in tw982 (c_X10_in l G _ _ _ _ _) rfl rfl (by decide) ⟨by omega, by omega⟩ (Nat.le_of_ble_eq_true rfl) ?_
    rintro _ _ _ ⟨rfl, rfl, rfl⟩
    refine V_ireturn C dX10_isRoute_36 rfl (nar_b _) (by omega) (by omega) ?_
    exact ⟨congrArg (fun v => some (Value.int (nI v))) (bp_c (P := _ ∧ _) (P' := a1 < y 0 ∧ b1 < y 0 ∧ mo (dst y a1 b1) ≤ e1) ((inmo2 (dst_le _ _ _) h3).trans ⟨fun z => ⟨ia, ib, z⟩, fun z => z.2.2⟩)), rfl, f2, rfl⟩
  · refine V_iconst 13 C dX10_isRoute_12 rfl ic0 ?_
    refine V_ireturn C dX10_isRoute_13 rfl (by decide) (by omega) (by omega) ?_
    exact ⟨by rw [bp_f (fun e => c9 ⟨(ix_nI (by omega)).mpr e.1, (ix_nI (by omega)).mpr e.2.1⟩)], rfl, f, (up_id hof).symm⟩

theorem dX10_command_0 : decode cX10_command 0 = .ok (.iload_n 2, 1) := by decide +kernel
theorem dX10_command_1 : decode cX10_command 1 = .ok (.sipush 1000, 3) := by decide +kernel
theorem dX10_command_4 : decode cX10_command 4 = .ok (.idiv, 1) := by decide +kernel
theorem dX10_command_5 : decode cX10_command 5 = .ok (.istore_n 3, 1) := by decide +kernel
theorem dX10_command_6 : decode cX10_command 6 = .ok (.iload_n 2, 1) := by decide +kernel
theorem dX10_command_7 : decode cX10_command 7 = .ok (.bipush 100, 2) := by decide +kernel
theorem dX10_command_9 : decode cX10_command 9 = .ok (.idiv, 1) := by decide +kernel
theorem dX10_command_10 : decode cX10_command 10 = .ok (.bipush 10, 2) := by decide +kernel
theorem dX10_command_12 : decode cX10_command 12 = .ok (.irem, 1) := by decide +kernel
theorem dX10_command_13 : decode cX10_command 13 = .ok (.istore 4, 2) := by decide +kernel
theorem dX10_command_15 : decode cX10_command 15 = .ok (.iload_n 2, 1) := by decide +kernel
theorem dX10_command_16 : decode cX10_command 16 = .ok (.bipush 100, 2) := by decide +kernel
theorem dX10_command_18 : decode cX10_command 18 = .ok (.idiv, 1) := by decide +kernel
theorem dX10_command_19 : decode cX10_command 19 = .ok (.istore 5, 2) := by decide +kernel
theorem dX10_command_21 : decode cX10_command 21 = .ok (.iload_n 2, 1) := by decide +kernel
theorem dX10_command_22 : decode cX10_command 22 = .ok (.bipush 10, 2) := by decide +kernel
theorem dX10_command_24 : decode cX10_command 24 = .ok (.idiv, 1) := by decide +kernel
theorem dX10_command_25 : decode cX10_command 25 = .ok (.bipush 100, 2) := by decide +kernel
theorem dX10_command_27 : decode cX10_command 27 = .ok (.irem, 1) := by decide +kernel
theorem dX10_command_28 : decode cX10_command 28 = .ok (.istore 6, 2) := by decide +kernel
theorem dX10_command_30 : decode cX10_command 30 = .ok (.iload_n 2, 1) := by decide +kernel
theorem dX10_command_31 : decode cX10_command 31 = .ok (.bipush 10, 2) := by decide +kernel
theorem dX10_command_33 : decode cX10_command 33 = .ok (.idiv, 1) := by decide +kernel
theorem dX10_command_34 : decode cX10_command 34 = .ok (.bipush 10, 2) := by decide +kernel
theorem dX10_command_36 : decode cX10_command 36 = .ok (.irem, 1) := by decide +kernel
theorem dX10_command_37 : decode cX10_command 37 = .ok (.istore 7, 2) := by decide +kernel
theorem dX10_command_39 : decode cX10_command 39 = .ok (.iload_n 2, 1) := by decide +kernel
theorem dX10_command_40 : decode cX10_command 40 = .ok (.bipush 10, 2) := by decide +kernel
theorem dX10_command_42 : decode cX10_command 42 = .ok (.irem, 1) := by decide +kernel
theorem dX10_command_43 : decode cX10_command 43 = .ok (.istore 8, 2) := by decide +kernel
theorem dX10_command_45 : decode cX10_command 45 = .ok (.iload_n 2, 1) := by decide +kernel
theorem dX10_command_46 : decode cX10_command 46 = .ok (.bipush 100, 2) := by decide +kernel
theorem dX10_command_48 : decode cX10_command 48 = .ok (.irem, 1) := by decide +kernel
theorem dX10_command_49 : decode cX10_command 49 = .ok (.istore 9, 2) := by decide +kernel
theorem dX10_command_51 : decode cX10_command 51 = .ok (.iload_n 1, 1) := by decide +kernel
theorem dX10_command_52 : decode cX10_command 52 = .ok (.tableswitch 413 1 9 #[52, 112, 159, 219, 256, 285, 323, 356, 403], 52) := by decide +kernel
theorem dX10_command_104 : decode cX10_command 104 = .ok (.iload 8, 2) := by decide +kernel
theorem dX10_command_106 : decode cX10_command 106 = .ok (.ifCond .ne 56, 3) := by decide +kernel
theorem dX10_command_109 : decode cX10_command 109 = .ok (.aload_n 0, 1) := by decide +kernel
theorem dX10_command_110 : decode cX10_command 110 = .ok (.getfield 16, 3) := by decide +kernel
theorem dX10_command_113 : decode cX10_command 113 = .ok (.iload_n 3, 1) := by decide +kernel
theorem dX10_command_114 : decode cX10_command 114 = .ok (.invokestatic 166, 3) := by decide +kernel
theorem dX10_command_117 : decode cX10_command 117 = .ok (.ifCond .eq 45, 3) := by decide +kernel
theorem dX10_command_120 : decode cX10_command 120 = .ok (.aload_n 0, 1) := by decide +kernel
theorem dX10_command_121 : decode cX10_command 121 = .ok (.getfield 16, 3) := by decide +kernel
theorem dX10_command_124 : decode cX10_command 124 = .ok (.iload 6, 2) := by decide +kernel
theorem dX10_command_126 : decode cX10_command 126 = .ok (.invokestatic 169, 3) := by decide +kernel
theorem dX10_command_129 : decode cX10_command 129 = .ok (.ifCond .eq 33, 3) := by decide +kernel
theorem dX10_command_132 : decode cX10_command 132 = .ok (.aload_n 0, 1) := by decide +kernel
theorem dX10_command_133 : decode cX10_command 133 = .ok (.getfield 16, 3) := by decide +kernel
theorem dX10_command_136 : decode cX10_command 136 = .ok (.iload_n 3, 1) := by decide +kernel
theorem dX10_command_137 : decode cX10_command 137 = .ok (.iload 6, 2) := by decide +kernel
theorem dX10_command_139 : decode cX10_command 139 = .ok (.invokestatic 172, 3) := by decide +kernel
theorem dX10_command_142 : decode cX10_command 142 = .ok (.ifCond .eq 20, 3) := by decide +kernel
theorem dX10_command_145 : decode cX10_command 145 = .ok (.aload_n 0, 1) := by decide +kernel
theorem dX10_command_146 : decode cX10_command 146 = .ok (.getfield 16, 3) := by decide +kernel
theorem dX10_command_149 : decode cX10_command 149 = .ok (.iload_n 3, 1) := by decide +kernel
theorem dX10_command_150 : decode cX10_command 150 = .ok (.iload 6, 2) := by decide +kernel
theorem dX10_command_152 : decode cX10_command 152 = .ok (.invokestatic 175, 3) := by decide +kernel
theorem dX10_command_155 : decode cX10_command 155 = .ok (.ifCond .le 7, 3) := by decide +kernel
theorem dX10_command_158 : decode cX10_command 158 = .ok (.iconst 1, 1) := by decide +kernel
theorem dX10_command_159 : decode cX10_command 159 = .ok (.goto 4, 3) := by decide +kernel
theorem dX10_command_162 : decode cX10_command 162 = .ok (.iconst 0, 1) := by decide +kernel
theorem dX10_command_163 : decode cX10_command 163 = .ok (.ireturn, 1) := by decide +kernel
theorem dX10_command_164 : decode cX10_command 164 = .ok (.iload 9, 2) := by decide +kernel
theorem dX10_command_166 : decode cX10_command 166 = .ok (.ifCond .ne 43, 3) := by decide +kernel
theorem dX10_command_169 : decode cX10_command 169 = .ok (.aload_n 0, 1) := by decide +kernel
theorem dX10_command_170 : decode cX10_command 170 = .ok (.getfield 16, 3) := by decide +kernel
theorem dX10_command_173 : decode cX10_command 173 = .ok (.iload 5, 2) := by decide +kernel
theorem dX10_command_175 : decode cX10_command 175 = .ok (.invokestatic 169, 3) := by decide +kernel
theorem dX10_command_178 : decode cX10_command 178 = .ok (.ifCond .eq 31, 3) := by decide +kernel
theorem dX10_command_181 : decode cX10_command 181 = .ok (.aload_n 0, 1) := by decide +kernel
theorem dX10_command_182 : decode cX10_command 182 = .ok (.getfield 16, 3) := by decide +kernel
theorem dX10_command_185 : decode cX10_command 185 = .ok (.iload 5, 2) := by decide +kernel
theorem dX10_command_187 : decode cX10_command 187 = .ok (.invokestatic 205, 3) := by decide +kernel
theorem dX10_command_190 : decode cX10_command 190 = .ok (.ifCond .eq 19, 3) := by decide +kernel
theorem dX10_command_193 : decode cX10_command 193 = .ok (.aload_n 0, 1) := by decide +kernel
theorem dX10_command_194 : decode cX10_command 194 = .ok (.getfield 16, 3) := by decide +kernel
theorem dX10_command_197 : decode cX10_command 197 = .ok (.iload 5, 2) := by decide +kernel
theorem dX10_command_199 : decode cX10_command 199 = .ok (.invokestatic 208, 3) := by decide +kernel
theorem dX10_command_202 : decode cX10_command 202 = .ok (.ifCond .lt 7, 3) := by decide +kernel
theorem dX10_command_205 : decode cX10_command 205 = .ok (.iconst 1, 1) := by decide +kernel
theorem dX10_command_206 : decode cX10_command 206 = .ok (.goto 4, 3) := by decide +kernel
theorem dX10_command_209 : decode cX10_command 209 = .ok (.iconst 0, 1) := by decide +kernel
theorem dX10_command_210 : decode cX10_command 210 = .ok (.ireturn, 1) := by decide +kernel
theorem dX10_command_211 : decode cX10_command 211 = .ok (.iload 9, 2) := by decide +kernel
theorem dX10_command_213 : decode cX10_command 213 = .ok (.ifCond .ne 56, 3) := by decide +kernel
theorem dX10_command_216 : decode cX10_command 216 = .ok (.aload_n 0, 1) := by decide +kernel
theorem dX10_command_217 : decode cX10_command 217 = .ok (.getfield 16, 3) := by decide +kernel
theorem dX10_command_220 : decode cX10_command 220 = .ok (.iload_n 3, 1) := by decide +kernel
theorem dX10_command_221 : decode cX10_command 221 = .ok (.invokestatic 166, 3) := by decide +kernel
theorem dX10_command_224 : decode cX10_command 224 = .ok (.ifCond .eq 45, 3) := by decide +kernel
theorem dX10_command_227 : decode cX10_command 227 = .ok (.aload_n 0, 1) := by decide +kernel
theorem dX10_command_228 : decode cX10_command 228 = .ok (.getfield 16, 3) := by decide +kernel
theorem dX10_command_231 : decode cX10_command 231 = .ok (.iload 4, 2) := by decide +kernel
theorem dX10_command_233 : decode cX10_command 233 = .ok (.invokestatic 178, 3) := by decide +kernel
theorem dX10_command_236 : decode cX10_command 236 = .ok (.ifCond .eq 33, 3) := by decide +kernel
theorem dX10_command_239 : decode cX10_command 239 = .ok (.aload_n 0, 1) := by decide +kernel
theorem dX10_command_240 : decode cX10_command 240 = .ok (.getfield 16, 3) := by decide +kernel
theorem dX10_command_243 : decode cX10_command 243 = .ok (.iload_n 3, 1) := by decide +kernel
theorem dX10_command_244 : decode cX10_command 244 = .ok (.iload 4, 2) := by decide +kernel
theorem dX10_command_246 : decode cX10_command 246 = .ok (.invokestatic 181, 3) := by decide +kernel
theorem dX10_command_249 : decode cX10_command 249 = .ok (.ifCond .eq 20, 3) := by decide +kernel
theorem dX10_command_252 : decode cX10_command 252 = .ok (.aload_n 0, 1) := by decide +kernel
theorem dX10_command_253 : decode cX10_command 253 = .ok (.getfield 16, 3) := by decide +kernel
theorem dX10_command_256 : decode cX10_command 256 = .ok (.iload_n 3, 1) := by decide +kernel
theorem dX10_command_257 : decode cX10_command 257 = .ok (.iload 4, 2) := by decide +kernel
theorem dX10_command_259 : decode cX10_command 259 = .ok (.invokestatic 184, 3) := by decide +kernel
theorem dX10_command_262 : decode cX10_command 262 = .ok (.ifCond .lt 7, 3) := by decide +kernel
theorem dX10_command_265 : decode cX10_command 265 = .ok (.iconst 1, 1) := by decide +kernel
theorem dX10_command_266 : decode cX10_command 266 = .ok (.goto 4, 3) := by decide +kernel
theorem dX10_command_269 : decode cX10_command 269 = .ok (.iconst 0, 1) := by decide +kernel
theorem dX10_command_270 : decode cX10_command 270 = .ok (.ireturn, 1) := by decide +kernel
theorem dX10_command_271 : decode cX10_command 271 = .ok (.iload 8, 2) := by decide +kernel
theorem dX10_command_273 : decode cX10_command 273 = .ok (.ifCond .ne 33, 3) := by decide +kernel
theorem dX10_command_276 : decode cX10_command 276 = .ok (.aload_n 0, 1) := by decide +kernel
theorem dX10_command_277 : decode cX10_command 277 = .ok (.getfield 16, 3) := by decide +kernel
theorem dX10_command_280 : decode cX10_command 280 = .ok (.iload 5, 2) := by decide +kernel
theorem dX10_command_282 : decode cX10_command 282 = .ok (.invokestatic 169, 3) := by decide +kernel
theorem dX10_command_285 : decode cX10_command 285 = .ok (.ifCond .eq 21, 3) := by decide +kernel
theorem dX10_command_288 : decode cX10_command 288 = .ok (.aload_n 0, 1) := by decide +kernel
theorem dX10_command_289 : decode cX10_command 289 = .ok (.getfield 16, 3) := by decide +kernel
theorem dX10_command_292 : decode cX10_command 292 = .ok (.iload 5, 2) := by decide +kernel
theorem dX10_command_294 : decode cX10_command 294 = .ok (.iload 7, 2) := by decide +kernel
theorem dX10_command_296 : decode cX10_command 296 = .ok (.invokestatic 187, 3) := by decide +kernel
theorem dX10_command_299 : decode cX10_command 299 = .ok (.ifCond .ne 7, 3) := by decide +kernel
theorem dX10_command_302 : decode cX10_command 302 = .ok (.iconst 1, 1) := by decide +kernel
theorem dX10_command_303 : decode cX10_command 303 = .ok (.goto 4, 3) := by decide +kernel
theorem dX10_command_306 : decode cX10_command 306 = .ok (.iconst 0, 1) := by decide +kernel
theorem dX10_command_307 : decode cX10_command 307 = .ok (.ireturn, 1) := by decide +kernel
theorem dX10_command_308 : decode cX10_command 308 = .ok (.iload_n 2, 1) := by decide +kernel
theorem dX10_command_309 : decode cX10_command 309 = .ok (.i2l, 1) := by decide +kernel
theorem dX10_command_310 : decode cX10_command 310 = .ok (.lconst 1, 1) := by decide +kernel
theorem dX10_command_311 : decode cX10_command 311 = .ok (.ldc2_w 263, 3) := by decide +kernel
theorem dX10_command_314 : decode cX10_command 314 = .ok (.invokestatic 40, 3) := by decide +kernel
theorem dX10_command_317 : decode cX10_command 317 = .ok (.ifCond .eq 18, 3) := by decide +kernel
theorem dX10_command_320 : decode cX10_command 320 = .ok (.aload_n 0, 1) := by decide +kernel
theorem dX10_command_321 : decode cX10_command 321 = .ok (.getfield 16, 3) := by decide +kernel
theorem dX10_command_324 : decode cX10_command 324 = .ok (.iload_n 2, 1) := by decide +kernel
theorem dX10_command_325 : decode cX10_command 325 = .ok (.invokestatic 217, 3) := by decide +kernel
theorem dX10_command_328 : decode cX10_command 328 = .ok (.ifCond .lt 7, 3) := by decide +kernel
theorem dX10_command_331 : decode cX10_command 331 = .ok (.iconst 1, 1) := by decide +kernel
theorem dX10_command_332 : decode cX10_command 332 = .ok (.goto 4, 3) := by decide +kernel
theorem dX10_command_335 : decode cX10_command 335 = .ok (.iconst 0, 1) := by decide +kernel
theorem dX10_command_336 : decode cX10_command 336 = .ok (.ireturn, 1) := by decide +kernel
theorem dX10_command_337 : decode cX10_command 337 = .ok (.iload 7, 2) := by decide +kernel
theorem dX10_command_339 : decode cX10_command 339 = .ok (.ifCond .ne 34, 3) := by decide +kernel
theorem dX10_command_342 : decode cX10_command 342 = .ok (.aload_n 0, 1) := by decide +kernel
theorem dX10_command_343 : decode cX10_command 343 = .ok (.getfield 16, 3) := by decide +kernel
theorem dX10_command_346 : decode cX10_command 346 = .ok (.iload 5, 2) := by decide +kernel
theorem dX10_command_348 : decode cX10_command 348 = .ok (.invokestatic 169, 3) := by decide +kernel
theorem dX10_command_351 : decode cX10_command 351 = .ok (.ifCond .eq 22, 3) := by decide +kernel
theorem dX10_command_354 : decode cX10_command 354 = .ok (.aload_n 0, 1) := by decide +kernel
theorem dX10_command_355 : decode cX10_command 355 = .ok (.getfield 16, 3) := by decide +kernel
theorem dX10_command_358 : decode cX10_command 358 = .ok (.iload 5, 2) := by decide +kernel
theorem dX10_command_360 : decode cX10_command 360 = .ok (.iconst 0, 1) := by decide +kernel
theorem dX10_command_361 : decode cX10_command 361 = .ok (.invokestatic 72, 3) := by decide +kernel
theorem dX10_command_364 : decode cX10_command 364 = .ok (.iload 8, 2) := by decide +kernel
theorem dX10_command_366 : decode cX10_command 366 = .ok (.if_icmp .gt 7, 3) := by decide +kernel
theorem dX10_command_369 : decode cX10_command 369 = .ok (.iconst 1, 1) := by decide +kernel
theorem dX10_command_370 : decode cX10_command 370 = .ok (.goto 4, 3) := by decide +kernel
theorem dX10_command_373 : decode cX10_command 373 = .ok (.iconst 0, 1) := by decide +kernel
theorem dX10_command_374 : decode cX10_command 374 = .ok (.ireturn, 1) := by decide +kernel
theorem dX10_command_375 : decode cX10_command 375 = .ok (.aload_n 0, 1) := by decide +kernel
theorem dX10_command_376 : decode cX10_command 376 = .ok (.getfield 16, 3) := by decide +kernel
theorem dX10_command_379 : decode cX10_command 379 = .ok (.iload 5, 2) := by decide +kernel
theorem dX10_command_381 : decode cX10_command 381 = .ok (.invokestatic 169, 3) := by decide +kernel
theorem dX10_command_384 : decode cX10_command 384 = .ok (.ifCond .eq 22, 3) := by decide +kernel
theorem dX10_command_387 : decode cX10_command 387 = .ok (.aload_n 0, 1) := by decide +kernel
theorem dX10_command_388 : decode cX10_command 388 = .ok (.getfield 16, 3) := by decide +kernel
theorem dX10_command_391 : decode cX10_command 391 = .ok (.iload 5, 2) := by decide +kernel
theorem dX10_command_393 : decode cX10_command 393 = .ok (.iconst 2, 1) := by decide +kernel
theorem dX10_command_394 : decode cX10_command 394 = .ok (.invokestatic 48, 3) := by decide +kernel
theorem dX10_command_397 : decode cX10_command 397 = .ok (.iload 9, 2) := by decide +kernel
theorem dX10_command_399 : decode cX10_command 399 = .ok (.if_icmp .lt 7, 3) := by decide +kernel
theorem dX10_command_402 : decode cX10_command 402 = .ok (.iconst 1, 1) := by decide +kernel
theorem dX10_command_403 : decode cX10_command 403 = .ok (.goto 4, 3) := by decide +kernel
theorem dX10_command_406 : decode cX10_command 406 = .ok (.iconst 0, 1) := by decide +kernel
theorem dX10_command_407 : decode cX10_command 407 = .ok (.ireturn, 1) := by decide +kernel
theorem dX10_command_408 : decode cX10_command 408 = .ok (.iload 9, 2) := by decide +kernel
theorem dX10_command_410 : decode cX10_command 410 = .ok (.ifCond .ne 43, 3) := by decide +kernel
theorem dX10_command_413 : decode cX10_command 413 = .ok (.aload_n 0, 1) := by decide +kernel
theorem dX10_command_414 : decode cX10_command 414 = .ok (.getfield 16, 3) := by decide +kernel
theorem dX10_command_417 : decode cX10_command 417 = .ok (.iload_n 3, 1) := by decide +kernel
theorem dX10_command_418 : decode cX10_command 418 = .ok (.invokestatic 166, 3) := by decide +kernel
theorem dX10_command_421 : decode cX10_command 421 = .ok (.ifCond .eq 32, 3) := by decide +kernel
theorem dX10_command_424 : decode cX10_command 424 = .ok (.aload_n 0, 1) := by decide +kernel
theorem dX10_command_425 : decode cX10_command 425 = .ok (.getfield 16, 3) := by decide +kernel
theorem dX10_command_428 : decode cX10_command 428 = .ok (.iload 4, 2) := by decide +kernel
theorem dX10_command_430 : decode cX10_command 430 = .ok (.invokestatic 94, 3) := by decide +kernel
theorem dX10_command_433 : decode cX10_command 433 = .ok (.ifCond .eq 20, 3) := by decide +kernel
theorem dX10_command_436 : decode cX10_command 436 = .ok (.aload_n 0, 1) := by decide +kernel
theorem dX10_command_437 : decode cX10_command 437 = .ok (.getfield 16, 3) := by decide +kernel
theorem dX10_command_440 : decode cX10_command 440 = .ok (.iload_n 3, 1) := by decide +kernel
theorem dX10_command_441 : decode cX10_command 441 = .ok (.invokestatic 51, 3) := by decide +kernel
theorem dX10_command_444 : decode cX10_command 444 = .ok (.iload 4, 2) := by decide +kernel
theorem dX10_command_446 : decode cX10_command 446 = .ok (.if_icmp .ne 7, 3) := by decide +kernel
theorem dX10_command_449 : decode cX10_command 449 = .ok (.iconst 1, 1) := by decide +kernel
theorem dX10_command_450 : decode cX10_command 450 = .ok (.goto 4, 3) := by decide +kernel
theorem dX10_command_453 : decode cX10_command 453 = .ok (.iconst 0, 1) := by decide +kernel
theorem dX10_command_454 : decode cX10_command 454 = .ok (.ireturn, 1) := by decide +kernel
theorem dX10_command_455 : decode cX10_command 455 = .ok (.aload_n 0, 1) := by decide +kernel
theorem dX10_command_456 : decode cX10_command 456 = .ok (.iload_n 3, 1) := by decide +kernel
theorem dX10_command_457 : decode cX10_command 457 = .ok (.iload 4, 2) := by decide +kernel
theorem dX10_command_459 : decode cX10_command 459 = .ok (.iload 9, 2) := by decide +kernel
theorem dX10_command_461 : decode cX10_command 461 = .ok (.invokevirtual 271, 3) := by decide +kernel
theorem dX10_command_464 : decode cX10_command 464 = .ok (.ireturn, 1) := by decide +kernel
theorem dX10_command_465 : decode cX10_command 465 = .ok (.iconst 0, 1) := by decide +kernel
theorem dX10_command_466 : decode cX10_command 466 = .ok (.ireturn, 1) := by decide +kernel
set_option maxRecDepth 100000 in
set_option maxHeartbeats 4000000 in
theorem c_X10_command (l : Launch) (G : GT) (n : Nat) (h : AH) (m : Nat) (rf sz ac sp ou : Int32) (hm : h m = some (obM m rf sz ac sp ou)) (y : Nat → Nat) (hx : Row (m + 3) y h) (hI : Iv y) (f : Nat → Int32) (hof : h (m + 7) = some (ra f)) (w d2 d3 d4 d5 : Nat) (hw : w ≤ 10) (h2 : d2 < 10) (h3 : d3 < 10) (h4 : d4 < 10) (h5 : d5 < 10) : Ct l yX10_command cX10_command 10 (some .boolean) 8 0 0 G n h [.ref m, .int (nI w), .int (nI (1000 * d2 + 100 * d3 + 10 * d4 + d5))] (RMP m n h (cmD w d2 d3 d4 d5 y)) := by
  have NE := NO_eq
  obtain ⟨⟨i0, i1, i2, i3, i4⟩, iR, iU, iM, iS⟩ := id hI
  refine Ct_of mX10_command.1 (Nat.le_of_ble_eq_true rfl) ?_
  intro p₀ e₀ s₀ m₀ as₀ bl₀ me₀ c₀ C hin
  refine V_Le (L' := [(0, .ref m), (1, .int (nI w)), (2, .int (nI (1000 * d2 + 100 * d3 + 10 * d4 + d5)))]) rfl ?_
  refine V_iload_n 1 C dX10_command_0 rfl rfl ?_
  refine V_sipush 4 C dX10_command_1 rfl sip1000 ?_
  refine V_idivN 5 C dX10_command_4 rfl (by omega) (by omega) (by omega) ?_
  rw [show (1000 * d2 + 100 * d3 + 10 * d4 + d5) / 1000 = d2 from by omega]
  refine V_istore_n 6 C dX10_command_5 rfl (by decide) (L' := [(0, _), (1, _), (2, _), (3, _)]) rfl ?_
  refine V_iload_n 7 C dX10_command_6 rfl rfl ?_
  refine V_bipush 9 C dX10_command_7 rfl bip100 ?_
  refine V_idivN 10 C dX10_command_9 rfl (by omega) (by omega) (by omega) ?_
  refine V_bipush 12 C dX10_command_10 rfl bip10 ?_
  refine V_iremN 13 C dX10_command_12 rfl (by omega) (by omega) (by omega) ?_
  rw [show (1000 * d2 + 100 * d3 + 10 * d4 + d5) / 100 % 10 = d3 from by omega]
  refine V_istore 15 C dX10_command_13 rfl (by decide) (L' := [(0, _), (1, _), (2, _), (3, _), (4, _)]) rfl ?_
  refine V_iload_n 16 C dX10_command_15 rfl rfl ?_
  refine V_bipush 18 C dX10_command_16 rfl bip100 ?_
  refine V_idivN 19 C dX10_command_18 rfl (by omega) (by omega) (by omega) ?_
  rw [show (1000 * d2 + 100 * d3 + 10 * d4 + d5) / 100 = 10 * d2 + d3 from by omega]
  refine V_istore 21 C dX10_command_19 rfl (by decide) (L' := [(0, _), (1, _), (2, _), (3, _), (4, _), (5, _)]) rfl ?_
  refine V_iload_n 22 C dX10_command_21 rfl rfl ?_
  refine V_bipush 24 C dX10_command_22 rfl bip10 ?_
  refine V_idivN 25 C dX10_command_24 rfl (by omega) (by omega) (by omega) ?_
  refine V_bipush 27 C dX10_command_25 rfl bip100 ?_
  refine V_iremN 28 C dX10_command_27 rfl (by omega) (by omega) (by omega) ?_
  rw [show (1000 * d2 + 100 * d3 + 10 * d4 + d5) / 10 % 100 = 10 * d3 + d4 from by omega]
  refine V_istore 30 C dX10_command_28 rfl (by decide) (L' := [(0, _), (1, _), (2, _), (3, _), (4, _), (5, _), (6, _)]) rfl ?_
  refine V_iload_n 31 C dX10_command_30 rfl rfl ?_
  refine V_bipush 33 C dX10_command_31 rfl bip10 ?_
  refine V_idivN 34 C dX10_command_33 rfl (by omega) (by omega) (by omega) ?_
  refine V_bipush 36 C dX10_command_34 rfl bip10 ?_
  refine V_iremN 37 C dX10_command_36 rfl (by omega) (by omega) (by omega) ?_
  rw [show (1000 * d2 + 100 * d3 + 10 * d4 + d5) / 10 % 10 = d4 from by omega]
  refine V_istore 39 C dX10_command_37 rfl (by decide) (L' := [(0, _), (1, _), (2, _), (3, _), (4, _), (5, _), (6, _), (7, _)]) rfl ?_
  refine V_iload_n 40 C dX10_command_39 rfl rfl ?_
  refine V_bipush 42 C dX10_command_40 rfl bip10 ?_
  refine V_iremN 43 C dX10_command_42 rfl (by omega) (by omega) (by omega) ?_
  rw [show (1000 * d2 + 100 * d3 + 10 * d4 + d5) % 10 = d5 from by omega]
  refine V_istore 45 C dX10_command_43 rfl (by decide) (L' := [(0, _), (1, _), (2, _), (3, _), (4, _), (5, _), (6, _), (7, _), (8, _)]) rfl ?_
  refine V_iload_n 46 C dX10_command_45 rfl rfl ?_
  refine V_bipush 48 C dX10_command_46 rfl bip100 ?_
  refine V_iremN 49 C dX10_command_48 rfl (by omega) (by omega) (by omega) ?_
  rw [show (1000 * d2 + 100 * d3 + 10 * d4 + d5) % 100 = 10 * d4 + d5 from by omega]
  refine V_istore 51 C dX10_command_49 rfl (by decide) (L' := [(0, _), (1, _), (2, _), (3, _), (4, _), (5, _), (6, _), (7, _), (8, _), (9, _)]) rfl ?_
  refine V_iload_n 52 C dX10_command_51 rfl rfl ?_
  refine V_case 1 (fun c52_1 => ?_) (fun n52_1 => ?_)
  · refine V_tsI 104 C dX10_command_52 c52_1 (by decide) (by decide) (by decide) rfl (by decide) ?_
    refine V_iload 106 C dX10_command_104 rfl rfl ?_
    refine V_if_neN 162 109 C dX10_command_106 (by decide) rfl (by omega) (fun c106 => ?_) (fun c106 => ?_)
    · have hr : (cmD w d2 d3 d4 d5 y).1 = false := by rw [cm_1 c52_1, if_neg c106]
      refine V_iconst 163 C dX10_command_162 rfl ic0 ?_
      refine V_ireturn C dX10_command_163 rfl (by decide) (by omega) (by omega) ?_
      first | exact RMP_0 hof hI2 hr | exact RMP_1 hof hI2 hr | exact RMP_2 hof hx hI hr | exact RMP_3 hof hx hI hr
    · refine V_aload_n 110 C dX10_command_109 rfl rfl ?_
      refine V_get (k := 4) 113 C dX10_command_110 rfl fcX10 tw940 (by decide) rfl hm rfl ?_
      refine V_iload_n 114 C dX10_command_113 rfl rfl ?_
      refine V_callS 117 C dX10_command_114 rfl mX10_isRunner tw1064 (c_X10_isRunner l G _ _ (m + 3) y hx hI (nI d2)) rfl rfl (by decide) ⟨by omega, by omega⟩ (Nat.le_of_ble_eq_true rfl) ?_
      rintro _ _ _ ⟨rfl, rfl, rfl⟩
      refine V_if_eqB 162 120 C dX10_command_117 (by decide) rfl  (fun c117 => ?_) (fun c117 => ?_)
      · have hr : (cmD w d2 d3 d4 d5 y).1 = false := by rw [cm_1 c52_1, if_pos c106]; show ok (aTk y _ _) = false; unfold aTk; rw [if_neg (fun e => c117 e.1), okN]
        refine V_iconst 163 C dX10_command_162 rfl ic0 ?_
        refine V_ireturn C dX10_command_163 rfl (by decide) (by omega) (by omega) ?_
        first | exact RMP_0 hof hI2 hr | exact RMP_1 hof hI2 hr | exact RMP_2 hof hx hI hr | exact RMP_3 hof hx hI hr
      · have ia : d2 < y 2 := (ix_nI (by omega)).mp c117
        have za := zn (show d2 < 2 ^ 31 by omega)
        have zb := zn (show (10 * d3 + d4) < 2 ^ 31 by omega)
        refine V_aload_n 121 C dX10_command_120 rfl rfl ?_
        refine V_get (k := 4) 124 C dX10_command_121 rfl fcX10 tw940 (by decide) rfl hm rfl ?_
        refine V_iload 126 C dX10_command_124 rfl rfl ?_
        refine V_callS 129 C dX10_command_126 rfl mX10_isSheet tw1067 (c_X10_isSheet l G _ _ (m + 3) y hx hI (nI (10 * d3 + d4))) rfl rfl (by decide) ⟨by omega, by omega⟩ (Nat.le_of_ble_eq_true rfl) ?_
        rintro _ _ _ ⟨rfl, rfl, rfl⟩
        refine V_if_eqB 162 132 C dX10_command_129 (by decide) rfl  (fun c129 => ?_) (fun c129 => ?_)
        · have hr : (cmD w d2 d3 d4 d5 y).1 = false := by rw [cm_1 c52_1, if_pos c106]; show ok (aTk y _ _) = false; unfold aTk; rw [if_neg (fun e => c129 e.2), okN]
          refine V_iconst 163 C dX10_command_162 rfl ic0 ?_
          refine V_ireturn C dX10_command_163 rfl (by decide) (by omega) (by omega) ?_
          first | exact RMP_0 hof hI2 hr | exact RMP_1 hof hI2 hr | exact RMP_2 hof hx hI hr | exact RMP_3 hof hx hI hr
        · have ib : (10 * d3 + d4) < y 4 := (ix_nI (by omega)).mp c129
          refine V_aload_n 133 C dX10_command_132 rfl rfl ?_
          refine V_get (k := 4) 136 C dX10_command_133 rfl fcX10 tw940 (by decide) rfl hm rfl ?_
          refine V_iload_n 137 C dX10_command_136 rfl rfl ?_
          refine V_iload 139 C dX10_command_137 rfl rfl ?_
          refine V_callS 142 C dX10_command_139 rfl mX10_canTake tw1070 (c_X10_canTake l G _ _ (m + 3) y hx hI d2 (10 * d3 + d4) ia ib) rfl rfl (by decide) ⟨by omega, by omega⟩ (Nat.le_of_ble_eq_true rfl) ?_
          rintro _ _ _ ⟨rfl, rfl, rfl⟩
          refine V_if_eqB 162 145 C dX10_command_142 (by decide) rfl  (fun c142 => ?_) (fun c142 => ?_)
          · have hr : (cmD w d2 d3 d4 d5 y).1 = false := by rw [cm_1 c52_1, if_pos c106]; show ok (aTk y _ _) = false; unfold aTk; rw [if_pos ⟨c117, c129⟩, za, zb, if_neg c142, okW]
            refine V_iconst 163 C dX10_command_162 rfl ic0 ?_
            refine V_ireturn C dX10_command_163 rfl (by decide) (by omega) (by omega) ?_
            first | exact RMP_0 hof hI2 hr | exact RMP_1 hof hI2 hr | exact RMP_2 hof hx hI hr | exact RMP_3 hof hx hI hr
          · have hcar := cark_le y d2 (y 4)
            refine V_aload_n 146 C dX10_command_145 rfl rfl ?_
            refine V_get (k := 4) 149 C dX10_command_146 rfl fcX10 tw940 (by decide) rfl hm rfl ?_
            refine V_iload_n 150 C dX10_command_149 rfl rfl ?_
            refine V_iload 152 C dX10_command_150 rfl rfl ?_
            refine V_callS 155 C dX10_command_152 rfl mX10_takeOn tw1088 (c_X10_takeOn l G _ _ (m + 3) y hx hI d2 (10 * d3 + d4) ia ib) rfl rfl (by decide) ⟨by omega, by omega⟩ (Nat.le_of_ble_eq_true rfl) ?_
            rintro _ _ _ ⟨rfl, rfl, rfl⟩
            have hct := car_tk ib c142.2.2.1
            rw [hct]
            have hI2 := Iv_tkOn (s := (10 * d3 + d4)) hI ia
            refine V_if_leN 162 158 C dX10_command_155 (by decide) rfl (by have := c142.2.2.2; omega) (fun c155 => ?_) (fun c155 => ?_)
            · omega
            · have hr : cmD w d2 d3 d4 d5 y = (true, tkOn y d2 (10 * d3 + d4)) := by
                rw [cm_1 c52_1, if_pos c106]
                unfold aTk
                rw [if_pos ⟨c117, c129⟩, za, zb, if_pos c142, okn (by have := c142.2.2.2; omega)]
              refine V_iconst 159 C dX10_command_158 rfl ic1 ?_
              refine V_goto 163 C dX10_command_159 (by decide) ?_
              refine V_ireturn C dX10_command_163 rfl (by decide) (by omega) (by omega) ?_
              first | exact RMP_0 hof hI2 hr | exact RMP_1 hof hI2 hr | exact RMP_2 hof hx hI hr | exact RMP_3 hof hx hI hr
  · skip
    refine V_case 2 (fun c52_2 => ?_) (fun n52_2 => ?_)
    · refine V_tsI 164 C dX10_command_52 c52_2 (by decide) (by decide) (by decide) rfl (by decide) ?_
      refine V_iload 166 C dX10_command_164 rfl rfl ?_
      refine V_if_neN 209 169 C dX10_command_166 (by decide) rfl (by omega) (fun c166 => ?_) (fun c166 => ?_)
      · have hr : (cmD w d2 d3 d4 d5 y).1 = false := by rw [cm_2 c52_2, if_neg c166]
        refine V_iconst 210 C dX10_command_209 rfl ic0 ?_
        refine V_ireturn C dX10_command_210 rfl (by decide) (by omega) (by omega) ?_
        first | exact RMP_0 hof hI2 hr | exact RMP_1 hof hI2 hr | exact RMP_2 hof hx hI hr | exact RMP_3 hof hx hI hr
      · refine V_aload_n 170 C dX10_command_169 rfl rfl ?_
        refine V_get (k := 4) 173 C dX10_command_170 rfl fcX10 tw940 (by decide) rfl hm rfl ?_
        refine V_iload 175 C dX10_command_173 rfl rfl ?_
        refine V_callS 178 C dX10_command_175 rfl mX10_isSheet tw1067 (c_X10_isSheet l G _ _ (m + 3) y hx hI (nI (10 * d2 + d3))) rfl rfl (by decide) ⟨by omega, by omega⟩ (Nat.le_of_ble_eq_true rfl) ?_
        rintro _ _ _ ⟨rfl, rfl, rfl⟩
        refine V_if_eqB 209 181 C dX10_command_178 (by decide) rfl  (fun c178 => ?_) (fun c178 => ?_)
        · have hr : (cmD w d2 d3 d4 d5 y).1 = false := by rw [cm_2 c52_2, if_pos c166]; show ok (aLy y _) = false; unfold aLy; rw [if_neg c178, okN]
          refine V_iconst 210 C dX10_command_209 rfl ic0 ?_
          refine V_ireturn C dX10_command_210 rfl (by decide) (by omega) (by omega) ?_
          first | exact RMP_0 hof hI2 hr | exact RMP_1 hof hI2 hr | exact RMP_2 hof hx hI hr | exact RMP_3 hof hx hI hr
        · have ia : (10 * d2 + d3) < y 4 := (ix_nI (by omega)).mp c178
          have za := zn (show (10 * d2 + d3) < 2 ^ 31 by omega)
          refine V_aload_n 182 C dX10_command_181 rfl rfl ?_
          refine V_get (k := 4) 185 C dX10_command_182 rfl fcX10 tw940 (by decide) rfl hm rfl ?_
          refine V_iload 187 C dX10_command_185 rfl rfl ?_
          refine V_callS 190 C dX10_command_187 rfl mX10_canLay tw1091 (c_X10_canLay l G _ _ (m + 3) y hx hI (10 * d2 + d3) ia) rfl rfl (by decide) ⟨by omega, by omega⟩ (Nat.le_of_ble_eq_true rfl) ?_
          rintro _ _ _ ⟨rfl, rfl, rfl⟩
          refine V_if_eqB 209 193 C dX10_command_190 (by decide) rfl  (fun c190 => ?_) (fun c190 => ?_)
          · have hr : (cmD w d2 d3 d4 d5 y).1 = false := by rw [cm_2 c52_2, if_pos c166]; show ok (aLy y _) = false; unfold aLy; rw [if_pos c178, za, if_neg c190, okW]
            refine V_iconst 210 C dX10_command_209 rfl ic0 ?_
            refine V_ireturn C dX10_command_210 rfl (by decide) (by omega) (by omega) ?_
            first | exact RMP_0 hof hI2 hr | exact RMP_1 hof hI2 hr | exact RMP_2 hof hx hI hr | exact RMP_3 hof hx hI hr
          · have hp31 : pof y (10 * d2 + d3) < 2 ^ 31 := by
              rcases pof_b hI ia with e | e
              · omega
              · exact absurd e c190.1
            refine V_aload_n 194 C dX10_command_193 rfl rfl ?_
            refine V_get (k := 4) 197 C dX10_command_194 rfl fcX10 tw940 (by decide) rfl hm rfl ?_
            refine V_iload 199 C dX10_command_197 rfl rfl ?_
            refine V_callS 202 C dX10_command_199 rfl mX10_layOn tw1094 (c_X10_layOn l G _ _ (m + 3) y hx hI (10 * d2 + d3) ia) rfl rfl (by decide) ⟨by omega, by omega⟩ (Nat.le_of_ble_eq_true rfl) ?_
            rintro _ _ _ ⟨rfl, rfl, rfl⟩
            have hI2 := Iv_lyOn hI ia c190.1
            refine V_if_ltN 209 205 C dX10_command_202 (by decide) rfl (by omega) (fun c202 => ?_) (fun c202 => ?_)
            · exact c202.elim
            · have hr : cmD w d2 d3 d4 d5 y = (true, lyOn y (10 * d2 + d3)) := by
                rw [cm_2 c52_2, if_pos c166]
                unfold aLy
                rw [if_pos c178, za, if_pos c190, okn hp31]
              refine V_iconst 206 C dX10_command_205 rfl ic1 ?_
              refine V_goto 210 C dX10_command_206 (by decide) ?_
              refine V_ireturn C dX10_command_210 rfl (by decide) (by omega) (by omega) ?_
              first | exact RMP_0 hof hI2 hr | exact RMP_1 hof hI2 hr | exact RMP_2 hof hx hI hr | exact RMP_3 hof hx hI hr
    · skip
      refine V_case 3 (fun c52_3 => ?_) (fun n52_3 => ?_)
      · refine V_tsI 211 C dX10_command_52 c52_3 (by decide) (by decide) (by decide) rfl (by decide) ?_
        refine V_iload 213 C dX10_command_211 rfl rfl ?_
        refine V_if_neN 269 216 C dX10_command_213 (by decide) rfl (by omega) (fun c213 => ?_) (fun c213 => ?_)
        · have hr : (cmD w d2 d3 d4 d5 y).1 = false := by rw [cm_3 c52_3, if_neg c213]
          refine V_iconst 270 C dX10_command_269 rfl ic0 ?_
          refine V_ireturn C dX10_command_270 rfl (by decide) (by omega) (by omega) ?_
          first | exact RMP_0 hof hI2 hr | exact RMP_1 hof hI2 hr | exact RMP_2 hof hx hI hr | exact RMP_3 hof hx hI hr
        · refine V_aload_n 217 C dX10_command_216 rfl rfl ?_
          refine V_get (k := 4) 220 C dX10_command_217 rfl fcX10 tw940 (by decide) rfl hm rfl ?_
          refine V_iload_n 221 C dX10_command_220 rfl rfl ?_
          refine V_callS 224 C dX10_command_221 rfl mX10_isRunner tw1064 (c_X10_isRunner l G _ _ (m + 3) y hx hI (nI d2)) rfl rfl (by decide) ⟨by omega, by omega⟩ (Nat.le_of_ble_eq_true rfl) ?_
          rintro _ _ _ ⟨rfl, rfl, rfl⟩
          refine V_if_eqB 269 227 C dX10_command_224 (by decide) rfl  (fun c224 => ?_) (fun c224 => ?_)
          · have hr : (cmD w d2 d3 d4 d5 y).1 = false := by rw [cm_3 c52_3, if_pos c213]; show ok (aGo y _ _) = false; unfold aGo; rw [if_neg (fun e => c224 e.1), okN]
            refine V_iconst 270 C dX10_command_269 rfl ic0 ?_
            refine V_ireturn C dX10_command_270 rfl (by decide) (by omega) (by omega) ?_
            first | exact RMP_0 hof hI2 hr | exact RMP_1 hof hI2 hr | exact RMP_2 hof hx hI hr | exact RMP_3 hof hx hI hr
          · have ia : d2 < y 2 := (ix_nI (by omega)).mp c224
            have za := zn (show d2 < 2 ^ 31 by omega)
            have zb := zn (show d3 < 2 ^ 31 by omega)
            refine V_aload_n 228 C dX10_command_227 rfl rfl ?_
            refine V_get (k := 4) 231 C dX10_command_228 rfl fcX10 tw940 (by decide) rfl hm rfl ?_
            refine V_iload 233 C dX10_command_231 rfl rfl ?_
            refine V_callS 236 C dX10_command_233 rfl mX10_isRoad tw1101 (c_X10_isRoad l G _ _ (m + 3) y hx hI (nI d3)) rfl rfl (by decide) ⟨by omega, by omega⟩ (Nat.le_of_ble_eq_true rfl) ?_
            rintro _ _ _ ⟨rfl, rfl, rfl⟩
            refine V_if_eqB 269 239 C dX10_command_236 (by decide) rfl  (fun c236 => ?_) (fun c236 => ?_)
            · have hr : (cmD w d2 d3 d4 d5 y).1 = false := by rw [cm_3 c52_3, if_pos c213]; show ok (aGo y _ _) = false; unfold aGo; rw [if_neg (fun e => c236 e.2), okN]
              refine V_iconst 270 C dX10_command_269 rfl ic0 ?_
              refine V_ireturn C dX10_command_270 rfl (by decide) (by omega) (by omega) ?_
              first | exact RMP_0 hof hI2 hr | exact RMP_1 hof hI2 hr | exact RMP_2 hof hx hI hr | exact RMP_3 hof hx hI hr
            · have ib : d3 < y 1 := (ix_nI (by omega)).mp c236
              refine V_aload_n 240 C dX10_command_239 rfl rfl ?_
              refine V_get (k := 4) 243 C dX10_command_240 rfl fcX10 tw940 (by decide) rfl hm rfl ?_
              refine V_iload_n 244 C dX10_command_243 rfl rfl ?_
              refine V_iload 246 C dX10_command_244 rfl rfl ?_
              refine V_callS 249 C dX10_command_246 rfl mX10_canGo tw1104 (c_X10_canGo l G _ _ (m + 3) y hx hI d2 d3 ia ib) rfl rfl (by decide) ⟨by omega, by omega⟩ (Nat.le_of_ble_eq_true rfl) ?_
              rintro _ _ _ ⟨rfl, rfl, rfl⟩
              refine V_if_eqB 269 252 C dX10_command_249 (by decide) rfl  (fun c249 => ?_) (fun c249 => ?_)
              · have hr : (cmD w d2 d3 d4 d5 y).1 = false := by rw [cm_3 c52_3, if_pos c213]; show ok (aGo y _ _) = false; unfold aGo; rw [if_pos ⟨c224, c236⟩, za, zb, if_neg c249, okW]
                refine V_iconst 270 C dX10_command_269 rfl ic0 ?_
                refine V_ireturn C dX10_command_270 rfl (by decide) (by omega) (by omega) ?_
                first | exact RMP_0 hof hI2 hr | exact RMP_1 hof hI2 hr | exact RMP_2 hof hx hI hr | exact RMP_3 hof hx hI hr
              · have hgt := goT_b hI d2 ib
                refine V_aload_n 253 C dX10_command_252 rfl rfl ?_
                refine V_get (k := 4) 256 C dX10_command_253 rfl fcX10 tw940 (by decide) rfl hm rfl ?_
                refine V_iload_n 257 C dX10_command_256 rfl rfl ?_
                refine V_iload 259 C dX10_command_257 rfl rfl ?_
                refine V_callS 262 C dX10_command_259 rfl mX10_goOn tw1110 (c_X10_goOn l G _ _ (m + 3) y hx hI d2 d3 ia ib) rfl rfl (by decide) ⟨by omega, by omega⟩ (Nat.le_of_ble_eq_true rfl) ?_
                rintro _ _ _ ⟨rfl, rfl, rfl⟩
                have hI2 := Iv_gOn hI ia ib
                refine V_if_ltN 269 265 C dX10_command_262 (by decide) rfl (by omega) (fun c262 => ?_) (fun c262 => ?_)
                · exact c262.elim
                · have hr : cmD w d2 d3 d4 d5 y = (true, gOn y d2 d3) := by
                    rw [cm_3 c52_3, if_pos c213]
                    unfold aGo
                    rw [if_pos ⟨c224, c236⟩, za, zb, if_pos c249, okn (by omega)]
                  refine V_iconst 266 C dX10_command_265 rfl ic1 ?_
                  refine V_goto 270 C dX10_command_266 (by decide) ?_
                  refine V_ireturn C dX10_command_270 rfl (by decide) (by omega) (by omega) ?_
                  first | exact RMP_0 hof hI2 hr | exact RMP_1 hof hI2 hr | exact RMP_2 hof hx hI hr | exact RMP_3 hof hx hI hr
      · skip
        refine V_case 4 (fun c52_4 => ?_) (fun n52_4 => ?_)
        · refine V_tsI 271 C dX10_command_52 c52_4 (by decide) (by decide) (by decide) rfl (by decide) ?_
          refine V_iload 273 C dX10_command_271 rfl rfl ?_
          refine V_if_neN 306 276 C dX10_command_273 (by decide) rfl (by omega) (fun c273 => ?_) (fun c273 => ?_)
          · have hr : (cmD w d2 d3 d4 d5 y).1 = false := by rw [cm_4 c52_4, if_neg c273]
            refine V_iconst 307 C dX10_command_306 rfl ic0 ?_
            refine V_ireturn C dX10_command_307 rfl (by decide) (by omega) (by omega) ?_
            first | exact RMP_0 hof hI2 hr | exact RMP_1 hof hI2 hr | exact RMP_2 hof hx hI hr | exact RMP_3 hof hx hI hr
          · refine V_aload_n 277 C dX10_command_276 rfl rfl ?_
            refine V_get (k := 4) 280 C dX10_command_277 rfl fcX10 tw940 (by decide) rfl hm rfl ?_
            refine V_iload 282 C dX10_command_280 rfl rfl ?_
            refine V_callS 285 C dX10_command_282 rfl mX10_isSheet tw1067 (c_X10_isSheet l G _ _ (m + 3) y hx hI (nI (10 * d2 + d3))) rfl rfl (by decide) ⟨by omega, by omega⟩ (Nat.le_of_ble_eq_true rfl) ?_
            rintro _ _ _ ⟨rfl, rfl, rfl⟩
            refine V_if_eqB 306 288 C dX10_command_285 (by decide) rfl  (fun c285 => ?_) (fun c285 => ?_)
            · have hr : (cmD w d2 d3 d4 d5 y).1 = false := by rw [cm_4 c52_4, if_pos c273]; show okC (aCp y _ _) = false; unfold aCp; rw [if_neg c285, okC_N]
              refine V_iconst 307 C dX10_command_306 rfl ic0 ?_
              refine V_ireturn C dX10_command_307 rfl (by decide) (by omega) (by omega) ?_
              first | exact RMP_0 hof hI2 hr | exact RMP_1 hof hI2 hr | exact RMP_2 hof hx hI hr | exact RMP_3 hof hx hI hr
            · have ia : (10 * d2 + d3) < y 4 := (ix_nI (by omega)).mp c285
              have za := zn (show (10 * d2 + d3) < 2 ^ 31 by omega)
              have zb := zn (show d4 < 2 ^ 31 by omega)
              have hf : ix (nI d4) 10 := (ix_nI (by omega)).mpr (by omega)
              have hcr := crs_le y (10 * d2 + d3)
              refine V_aload_n 289 C dX10_command_288 rfl rfl ?_
              refine V_get (k := 4) 292 C dX10_command_289 rfl fcX10 tw940 (by decide) rfl hm rfl ?_
              refine V_iload 294 C dX10_command_292 rfl rfl ?_
              refine V_iload 296 C dX10_command_294 rfl rfl ?_
              refine V_callS 299 C dX10_command_296 rfl mX10_copyOn tw1123 (c_X10_copyOn l G _ _ (m + 3) y hx hI (10 * d2 + d3) d4 ia) rfl rfl (by decide) ⟨by omega, by omega⟩ (Nat.le_of_ble_eq_true rfl) ?_
              rintro _ _ _ ⟨rfl, rfl, rfl⟩
              have hI2 := Iv_cpOn (f := d4) hI ia (by omega)
              refine V_if_neN 306 302 C dX10_command_299 (by decide) rfl (by omega) (fun c299 => ?_) (fun c299 => ?_)
              · have hr : (cmD w d2 d3 d4 d5 y).1 = false := by rw [cm_4 c52_4, if_pos c273]; show okC (aCp y _ _) = false; unfold aCp; rw [if_pos c285, if_pos hf, za, zb, okC_n (by omega) c299]
                refine V_iconst 307 C dX10_command_306 rfl ic0 ?_
                refine V_ireturn C dX10_command_307 rfl (by decide) (by omega) (by omega) ?_
                first | exact RMP_0 hof hI2 hr | exact RMP_1 hof hI2 hr | exact RMP_2 hof hx hI hr | exact RMP_3 hof hx hI hr
              · have hr : cmD w d2 d3 d4 d5 y = (true, cpOn y (10 * d2 + d3) d4) := by
                  rw [cm_4 c52_4, if_pos c273]
                  unfold aCp
                  rw [if_pos c285, if_pos hf, za, zb, c299, okC_0]
                  unfold cpC cpOn
                  rw [if_pos c299, if_pos c299]
                refine V_iconst 303 C dX10_command_302 rfl ic1 ?_
                refine V_goto 307 C dX10_command_303 (by decide) ?_
                refine V_ireturn C dX10_command_307 rfl (by decide) (by omega) (by omega) ?_
                first | exact RMP_0 hof hI2 hr | exact RMP_1 hof hI2 hr | exact RMP_2 hof hx hI hr | exact RMP_3 hof hx hI hr
        · skip
          refine V_case 5 (fun c52_5 => ?_) (fun n52_5 => ?_)
          · refine V_tsI 308 C dX10_command_52 c52_5 (by decide) (by decide) (by decide) rfl (by decide) ?_
            refine V_iload_n 309 C dX10_command_308 rfl rfl ?_
            refine V_i2l 310 C dX10_command_309 rfl  ?_
            refine V_lconst 311 C dX10_command_310 rfl rfl ?_
            refine V_ldc2 314 C dX10_command_311 rfl tw1250 ?_
            refine V_callS 317 C dX10_command_314 rfl mX10_in tw982 (c_X10_in l G _ _ _ _ _) rfl rfl (by decide) ⟨by omega, by omega⟩ (Nat.le_of_ble_eq_true rfl) ?_
            rintro _ _ _ ⟨rfl, rfl, rfl⟩
            rw [inL (k := (1000 * d2 + 100 * d3 + 10 * d4 + d5)) (lo := 1) (hi := 60) (by omega) (by decide +kernel) (by decide +kernel)]
            refine V_if_eqB 335 320 C dX10_command_317 (by decide) rfl  (fun c317 => ?_) (fun c317 => ?_)
            · have hr : (cmD w d2 d3 d4 d5 y).1 = false := by
                rw [cm_5 c52_5]
                by_cases e0 : 10 * d2 + d3 = 0
                · rw [if_pos e0]
                  show ok (aHr y _) = false
                  unfold aHr
                  rw [if_neg (by rw [nI_toInt (by omega)]; omega), okR]
                · rw [if_neg e0]
              refine V_iconst 336 C dX10_command_335 rfl ic0 ?_
              refine V_ireturn C dX10_command_336 rfl (by decide) (by omega) (by omega) ?_
              first | exact RMP_0 hof hI2 hr | exact RMP_1 hof hI2 hr | exact RMP_2 hof hx hI hr | exact RMP_3 hof hx hI hr
            · have e0 : 10 * d2 + d3 = 0 := by omega
              have hcm := coms_le hI (10 * d4 + d5)
              have za := zn (show (10 * d4 + d5) < 2 ^ 31 by omega)
              refine V_aload_n 321 C dX10_command_320 rfl rfl ?_
              refine V_get (k := 4) 324 C dX10_command_321 rfl fcX10 tw940 (by decide) rfl hm rfl ?_
              refine V_iload_n 325 C dX10_command_324 rfl rfl ?_
              rw [show (1000 * d2 + 100 * d3 + 10 * d4 + d5) = (10 * d4 + d5) from by omega]
              refine V_callS 328 C dX10_command_325 rfl mX10_hoursOn tw1141 (c_X10_hoursOn l G _ _ (m + 3) y hx hI (10 * d4 + d5) (by omega)) rfl rfl (by decide) ⟨by omega, by omega⟩ (Nat.le_of_ble_eq_true rfl) ?_
              rintro _ _ _ ⟨rfl, rfl, rfl⟩
              have hI2 := Iv_hrs hI (10 * d4 + d5)
              refine V_if_ltN 335 331 C dX10_command_328 (by decide) rfl (by omega) (fun c328 => ?_) (fun c328 => ?_)
              · exact c328.elim
              · have hr : cmD w d2 d3 d4 d5 y = (true, hrs y (10 * d4 + d5)) := by
                  rw [cm_5 c52_5, if_pos e0]
                  unfold aHr
                  rw [if_pos (by rw [nI_toInt (by omega)]; omega), za, okn (by omega)]
                refine V_iconst 332 C dX10_command_331 rfl ic1 ?_
                refine V_goto 336 C dX10_command_332 (by decide) ?_
                refine V_ireturn C dX10_command_336 rfl (by decide) (by omega) (by omega) ?_
                first | exact RMP_0 hof hI2 hr | exact RMP_1 hof hI2 hr | exact RMP_2 hof hx hI hr | exact RMP_3 hof hx hI hr
          · skip
            refine V_case 6 (fun c52_6 => ?_) (fun n52_6 => ?_)
            · refine V_tsI 337 C dX10_command_52 c52_6 (by decide) (by decide) (by decide) rfl (by decide) ?_
              refine V_iload 339 C dX10_command_337 rfl rfl ?_
              refine V_if_neN 373 342 C dX10_command_339 (by decide) rfl (by omega) (fun c339 => ?_) (fun c339 => ?_)
              · have hr : (cmD w d2 d3 d4 d5 y).1 = false := by rw [cm_6 c52_6, decide_eq_false (fun e => c339 e.1)]
                refine V_iconst 374 C dX10_command_373 rfl ic0 ?_
                refine V_ireturn C dX10_command_374 rfl (by decide) (by omega) (by omega) ?_
                first | exact RMP_0 hof hI2 hr | exact RMP_1 hof hI2 hr | exact RMP_2 hof hx hI hr | exact RMP_3 hof hx hI hr
              · refine V_aload_n 343 C dX10_command_342 rfl rfl ?_
                refine V_get (k := 4) 346 C dX10_command_343 rfl fcX10 tw940 (by decide) rfl hm rfl ?_
                refine V_iload 348 C dX10_command_346 rfl rfl ?_
                refine V_callS 351 C dX10_command_348 rfl mX10_isSheet tw1067 (c_X10_isSheet l G _ _ (m + 3) y hx hI (nI (10 * d2 + d3))) rfl rfl (by decide) ⟨by omega, by omega⟩ (Nat.le_of_ble_eq_true rfl) ?_
                rintro _ _ _ ⟨rfl, rfl, rfl⟩
                refine V_if_eqB 373 354 C dX10_command_351 (by decide) rfl  (fun c351 => ?_) (fun c351 => ?_)
                · have hr : (cmD w d2 d3 d4 d5 y).1 = false := by rw [cm_6 c52_6, decide_eq_false (fun e => c351 ((ix_nI (by omega)).mpr e.2.1))]
                  refine V_iconst 374 C dX10_command_373 rfl ic0 ?_
                  refine V_ireturn C dX10_command_374 rfl (by decide) (by omega) (by omega) ?_
                  first | exact RMP_0 hof hI2 hr | exact RMP_1 hof hI2 hr | exact RMP_2 hof hx hI hr | exact RMP_3 hof hx hI hr
                · have ia : (10 * d2 + d3) < y 4 := (ix_nI (by omega)).mp c351
                  have he := ers_le y (10 * d2 + d3) 0
                  refine V_aload_n 355 C dX10_command_354 rfl rfl ?_
                  refine V_get (k := 4) 358 C dX10_command_355 rfl fcX10 tw940 (by decide) rfl hm rfl ?_
                  refine V_iload 360 C dX10_command_358 rfl rfl ?_
                  refine V_iconst 361 C dX10_command_360 rfl ic0 ?_
                  refine V_callS 364 C dX10_command_361 rfl mX10_errorsLater tw1164 (c_X10_errorsLater l G _ _ (m + 3) y hx hI (10 * d2 + d3) 0 ia (by omega)) rfl rfl (by decide) ⟨by omega, by omega⟩ (Nat.le_of_ble_eq_true rfl) ?_
                  rintro _ _ _ ⟨rfl, rfl, rfl⟩
                  refine V_iload 366 C dX10_command_364 rfl rfl ?_
                  refine V_icmp_gtN 373 369 C dX10_command_366 (by decide) rfl (by omega) (by omega) (fun c366 => ?_) (fun c366 => ?_)
                  · have hr : (cmD w d2 d3 d4 d5 y).1 = false := by rw [cm_6 c52_6, decide_eq_false (fun e => absurd c366 (by omega))]
                    refine V_iconst 374 C dX10_command_373 rfl ic0 ?_
                    refine V_ireturn C dX10_command_374 rfl (by decide) (by omega) (by omega) ?_
                    first | exact RMP_0 hof hI2 hr | exact RMP_1 hof hI2 hr | exact RMP_2 hof hx hI hr | exact RMP_3 hof hx hI hr
                  · have hr : cmD w d2 d3 d4 d5 y = (true, y) := by rw [cm_6 c52_6, decide_eq_true (⟨c339, ia, by omega⟩)]
                    refine V_iconst 370 C dX10_command_369 rfl ic1 ?_
                    refine V_goto 374 C dX10_command_370 (by decide) ?_
                    refine V_ireturn C dX10_command_374 rfl (by decide) (by omega) (by omega) ?_
                    first | exact RMP_0 hof hI2 hr | exact RMP_1 hof hI2 hr | exact RMP_2 hof hx hI hr | exact RMP_3 hof hx hI hr
            · skip
              refine V_case 7 (fun c52_7 => ?_) (fun n52_7 => ?_)
              · refine V_tsI 375 C dX10_command_52 c52_7 (by decide) (by decide) (by decide) rfl (by decide) ?_
                refine V_aload_n 376 C dX10_command_375 rfl rfl ?_
                refine V_get (k := 4) 379 C dX10_command_376 rfl fcX10 tw940 (by decide) rfl hm rfl ?_
                refine V_iload 381 C dX10_command_379 rfl rfl ?_
                refine V_callS 384 C dX10_command_381 rfl mX10_isSheet tw1067 (c_X10_isSheet l G _ _ (m + 3) y hx hI (nI (10 * d2 + d3))) rfl rfl (by decide) ⟨by omega, by omega⟩ (Nat.le_of_ble_eq_true rfl) ?_
                rintro _ _ _ ⟨rfl, rfl, rfl⟩
                refine V_if_eqB 406 387 C dX10_command_384 (by decide) rfl  (fun c384 => ?_) (fun c384 => ?_)
                · have hr : (cmD w d2 d3 d4 d5 y).1 = false := by rw [cm_7 c52_7, decide_eq_false (fun e => c384 ((ix_nI (by omega)).mpr e.1))]
                  refine V_iconst 407 C dX10_command_406 rfl ic0 ?_
                  refine V_ireturn C dX10_command_407 rfl (by decide) (by omega) (by omega) ?_
                  first | exact RMP_0 hof hI2 hr | exact RMP_1 hof hI2 hr | exact RMP_2 hof hx hI hr | exact RMP_3 hof hx hI hr
                · have ia : (10 * d2 + d3) < y 4 := (ix_nI (by omega)).mp c384
                  obtain ⟨s0, s1, s2, s3, s4, s5⟩ := iS (10 * d2 + d3) ia
                  unfold NO at s4
                  refine V_aload_n 388 C dX10_command_387 rfl rfl ?_
                  refine V_get (k := 4) 391 C dX10_command_388 rfl fcX10 tw940 (by decide) rfl hm rfl ?_
                  refine V_iload 393 C dX10_command_391 rfl rfl ?_
                  refine V_iconst 394 C dX10_command_393 rfl ic2 ?_
                  refine V_callS 397 C dX10_command_394 rfl mX10_ofSheet tw1082 (c_X10_ofSheet l G _ _ (m + 3) y hx (10 * d2 + d3) 2 (58 + 6 * (10 * d2 + d3) + 2) rfl (by omega) (by omega) (by omega)) rfl rfl (by decide) ⟨by omega, by omega⟩ (Nat.le_of_ble_eq_true rfl) ?_
                  rintro _ _ _ ⟨rfl, rfl, rfl⟩
                  refine V_iload 399 C dX10_command_397 rfl rfl ?_
                  refine V_icmp_ltN 406 402 C dX10_command_399 (by decide) rfl (by omega) (by omega) (fun c399 => ?_) (fun c399 => ?_)
                  · have hr : (cmD w d2 d3 d4 d5 y).1 = false := by rw [cm_7 c52_7, decide_eq_false (fun e => absurd e.2 (by omega))]
                    refine V_iconst 407 C dX10_command_406 rfl ic0 ?_
                    refine V_ireturn C dX10_command_407 rfl (by decide) (by omega) (by omega) ?_
                    first | exact RMP_0 hof hI2 hr | exact RMP_1 hof hI2 hr | exact RMP_2 hof hx hI hr | exact RMP_3 hof hx hI hr
                  · have hr : cmD w d2 d3 d4 d5 y = (true, y) := by rw [cm_7 c52_7, decide_eq_true (⟨ia, by omega⟩)]
                    refine V_iconst 403 C dX10_command_402 rfl ic1 ?_
                    refine V_goto 407 C dX10_command_403 (by decide) ?_
                    refine V_ireturn C dX10_command_407 rfl (by decide) (by omega) (by omega) ?_
                    first | exact RMP_0 hof hI2 hr | exact RMP_1 hof hI2 hr | exact RMP_2 hof hx hI hr | exact RMP_3 hof hx hI hr
              · skip
                refine V_case 8 (fun c52_8 => ?_) (fun n52_8 => ?_)
                · refine V_tsI 408 C dX10_command_52 c52_8 (by decide) (by decide) (by decide) rfl (by decide) ?_
                  refine V_iload 410 C dX10_command_408 rfl rfl ?_
                  refine V_if_neN 453 413 C dX10_command_410 (by decide) rfl (by omega) (fun c410 => ?_) (fun c410 => ?_)
                  · have hr : (cmD w d2 d3 d4 d5 y).1 = false := by rw [cm_8 c52_8, decide_eq_false (fun e => c410 e.1)]
                    refine V_iconst 454 C dX10_command_453 rfl ic0 ?_
                    refine V_ireturn C dX10_command_454 rfl (by decide) (by omega) (by omega) ?_
                    first | exact RMP_0 hof hI2 hr | exact RMP_1 hof hI2 hr | exact RMP_2 hof hx hI hr | exact RMP_3 hof hx hI hr
                  · refine V_aload_n 414 C dX10_command_413 rfl rfl ?_
                    refine V_get (k := 4) 417 C dX10_command_414 rfl fcX10 tw940 (by decide) rfl hm rfl ?_
                    refine V_iload_n 418 C dX10_command_417 rfl rfl ?_
                    refine V_callS 421 C dX10_command_418 rfl mX10_isRunner tw1064 (c_X10_isRunner l G _ _ (m + 3) y hx hI (nI d2)) rfl rfl (by decide) ⟨by omega, by omega⟩ (Nat.le_of_ble_eq_true rfl) ?_
                    rintro _ _ _ ⟨rfl, rfl, rfl⟩
                    refine V_if_eqB 453 424 C dX10_command_421 (by decide) rfl  (fun c421 => ?_) (fun c421 => ?_)
                    · have hr : (cmD w d2 d3 d4 d5 y).1 = false := by rw [cm_8 c52_8, decide_eq_false (fun e => c421 ((ix_nI (by omega)).mpr e.2.1))]
                      refine V_iconst 454 C dX10_command_453 rfl ic0 ?_
                      refine V_ireturn C dX10_command_454 rfl (by decide) (by omega) (by omega) ?_
                      first | exact RMP_0 hof hI2 hr | exact RMP_1 hof hI2 hr | exact RMP_2 hof hx hI hr | exact RMP_3 hof hx hI hr
                    · have ia : d2 < y 2 := (ix_nI (by omega)).mp c421
                      have htb := tof_b hI ia
                      unfold NO at htb
                      refine V_aload_n 425 C dX10_command_424 rfl rfl ?_
                      refine V_get (k := 4) 428 C dX10_command_425 rfl fcX10 tw940 (by decide) rfl hm rfl ?_
                      refine V_iload 430 C dX10_command_428 rfl rfl ?_
                      refine V_callS 433 C dX10_command_430 rfl mX10_isTown tw1028 (c_X10_isTown l G _ _ (m + 3) y hx hI (nI d3)) rfl rfl (by decide) ⟨by omega, by omega⟩ (Nat.le_of_ble_eq_true rfl) ?_
                      rintro _ _ _ ⟨rfl, rfl, rfl⟩
                      refine V_if_eqB 453 436 C dX10_command_433 (by decide) rfl  (fun c433 => ?_) (fun c433 => ?_)
                      · have hr : (cmD w d2 d3 d4 d5 y).1 = false := by rw [cm_8 c52_8, decide_eq_false (fun e => c433 ((ix_nI (by omega)).mpr e.2.2.1))]
                        refine V_iconst 454 C dX10_command_453 rfl ic0 ?_
                        refine V_ireturn C dX10_command_454 rfl (by decide) (by omega) (by omega) ?_
                        first | exact RMP_0 hof hI2 hr | exact RMP_1 hof hI2 hr | exact RMP_2 hof hx hI hr | exact RMP_3 hof hx hI hr
                      · have ib : d3 < y 0 := (ix_nI (by omega)).mp c433
                        refine V_aload_n 437 C dX10_command_436 rfl rfl ?_
                        refine V_get (k := 4) 440 C dX10_command_437 rfl fcX10 tw940 (by decide) rfl hm rfl ?_
                        refine V_iload_n 441 C dX10_command_440 rfl rfl ?_
                        refine V_callS 444 C dX10_command_441 rfl mX10_townOf tw1073 (c_X10_townOf l G _ _ (m + 3) y hx hI d2 ia) rfl rfl (by decide) ⟨by omega, by omega⟩ (Nat.le_of_ble_eq_true rfl) ?_
                        rintro _ _ _ ⟨rfl, rfl, rfl⟩
                        refine V_iload 446 C dX10_command_444 rfl rfl ?_
                        refine V_icmp_neN 453 449 C dX10_command_446 (by decide) rfl (by omega) (by omega) (fun c446 => ?_) (fun c446 => ?_)
                        · have hr : (cmD w d2 d3 d4 d5 y).1 = false := by rw [cm_8 c52_8, decide_eq_false (fun e => c446 e.2.2.2)]
                          refine V_iconst 454 C dX10_command_453 rfl ic0 ?_
                          refine V_ireturn C dX10_command_454 rfl (by decide) (by omega) (by omega) ?_
                          first | exact RMP_0 hof hI2 hr | exact RMP_1 hof hI2 hr | exact RMP_2 hof hx hI hr | exact RMP_3 hof hx hI hr
                        · have hr : cmD w d2 d3 d4 d5 y = (true, y) := by rw [cm_8 c52_8, decide_eq_true (⟨c410, ia, ib, c446⟩)]
                          refine V_iconst 450 C dX10_command_449 rfl ic1 ?_
                          refine V_goto 454 C dX10_command_450 (by decide) ?_
                          refine V_ireturn C dX10_command_454 rfl (by decide) (by omega) (by omega) ?_
                          first | exact RMP_0 hof hI2 hr | exact RMP_1 hof hI2 hr | exact RMP_2 hof hx hI hr | exact RMP_3 hof hx hI hr
                · skip
                  refine V_case 9 (fun c52_9 => ?_) (fun n52_9 => ?_)
                  · refine V_tsI 455 C dX10_command_52 c52_9 (by decide) (by decide) (by decide) rfl (by decide) ?_
                    refine V_aload_n 456 C dX10_command_455 rfl rfl ?_
                    refine V_iload_n 457 C dX10_command_456 rfl rfl ?_
                    refine V_iload 459 C dX10_command_457 rfl rfl ?_
                    refine V_iload 461 C dX10_command_459 rfl rfl ?_
                    refine V_callV 464 C dX10_command_461 rfl mX10_isRoute tw1301 fcX10 hm (c_X10_isRoute l G _ _ m rf sz ac sp ou hm y hx hI f hof d2 d3 (10 * d4 + d5) (by omega) (by omega) (by omega)) rfl rfl (by decide) ⟨by omega, by omega⟩ (Nat.le_of_ble_eq_true rfl) ?_
                    rintro _ _ _ ⟨rfl, rfl, f2, rfl⟩
                    refine V_ireturn C dX10_command_464 rfl (nar_b _) (by omega) (by omega) ?_
                    exact (RMP_4 hx hI (by rw [cm_9 c52_9]; exact bp_c ⟨fun e => decide_eq_true e, fun e => of_decide_eq_true e⟩) (by rw [cm_9 c52_9]))
                  · skip
                    refine V_tsD 465 [1, 2, 3, 4, 5, 6, 7, 8, 9] C dX10_command_52 (lo' := 1) rfl rfl (by omega) ⟨n52_1, n52_2, n52_3, n52_4, n52_5, n52_6, n52_7, n52_8, n52_9, trivial⟩ (by decide) (by decide) ?_
                    have hr : (cmD w d2 d3 d4 d5 y).1 = false := by rw [cm_0 (by omega)]
                    refine V_iconst 466 C dX10_command_465 rfl ic0 ?_
                    refine V_ireturn C dX10_command_466 rfl (by decide) (by omega) (by omega) ?_
                    first | exact RMP_0 hof hI2 hr | exact RMP_1 hof hI2 hr | exact RMP_2 hof hx hI hr | exact RMP_3 hof hx hI hr

