/-! THE CLASS'S FACE: scripts and simulations -/
theorem wb_tb (n : Nat) : (lN n).toBitVec = BitVec.ofNat 64 n := rfl
theorem wb_inj {a b : Int64} (h : a.toBitVec = b.toBitVec) : a = b := Int64.toBitVec_inj.mp h
theorem wb_tn {n : Nat} (h : n < 2 ^ 64) : (lN n).toBitVec.toNat = n := by rw [wb_tb, BitVec.toNat_ofNat, Nat.mod_eq_of_lt h]
theorem wb_of (x : Int64) : ∃ n, n < 2 ^ 64 ∧ x = lN n := ⟨x.toBitVec.toNat, x.toBitVec.isLt, wb_inj (by rw [wb_tb]; simp)⟩
theorem wb_cu : ∀ k, k < 64 → ((nI k).toInt64.toUInt64 &&& Int64.toUInt64 63) = UInt64.ofNat k := by decide +kernel
theorem wb_shr {n k : Nat} (hn : n < 2 ^ 64) (hk : k < 64) : ((lN n).toUInt64 >>> ((nI k).toInt64.toUInt64 &&& Int64.toUInt64 63)).toInt64 = lN (n / 2 ^ k) := by
  rw [wb_cu k hk]
  apply wb_inj
  apply BitVec.eq_of_toNat_eq
  show ((lN n).toUInt64 >>> UInt64.ofNat k).toNat = (BitVec.ofNat 64 _).toNat
  have h1 : (UInt64.ofNat k).toNat = k := by
    show (BitVec.ofNat 64 k).toNat = k
    rw [BitVec.toNat_ofNat, Nat.mod_eq_of_lt (by omega)]
  have h2 : (lN n).toUInt64.toNat = n := wb_tn hn
  rw [UInt64.toNat_shiftRight, h1, h2, Nat.mod_eq_of_lt hk, Nat.shiftRight_eq_div_pow, BitVec.toNat_ofNat, Nat.mod_eq_of_lt (Nat.lt_of_le_of_lt (Nat.div_le_self _ _) hn)]
noncomputable def cmG (g : Nat) (y : Nat → Nat) : Bool × (Nat → Nat) := cmD (g / 10000) (g / 1000 % 10) (g / 100 % 10) (g / 10 % 10) (g % 10) y
noncomputable def scr (W n : Nat) : Nat → Nat → (Nat → Nat) → Nat
  | 0, _, _ => NO
  | f + 1, i, y => if (cmG (W / 100000 ^ (n - 1 - i) % 100000) y).1 = true then scr W n f (i + 1) (cmG (W / 100000 ^ (n - 1 - i) % 100000) y).2 else i
theorem scr_e {W n f i : Nat} {y : Nat → Nat} (h : f = 0) : scr W n f i y = NO := by rw [h]; rfl
theorem scr_t {W n f i : Nat} {y : Nat → Nat} (hf : 0 < f) (h : (cmG (W / 100000 ^ (n - 1 - i) % 100000) y).1 = true) : scr W n f i y = scr W n (f - 1) (i + 1) (cmG (W / 100000 ^ (n - 1 - i) % 100000) y).2 := by
  obtain ⟨j, rfl⟩ : ∃ j, f = j + 1 := ⟨f - 1, by omega⟩
  rw [Nat.add_sub_cancel]
  simp only [scr]
  rw [if_pos h]
theorem scr_f {W n f i : Nat} {y : Nat → Nat} (hf : 0 < f) (h : ¬ (cmG (W / 100000 ^ (n - 1 - i) % 100000) y).1 = true) : scr W n f i y = i := by
  obtain ⟨j, rfl⟩ : ∃ j, f = j + 1 := ⟨f - 1, by omega⟩
  simp only [scr]
  rw [if_neg h]
theorem div_0 {W j : Nat} : W / 100000 ^ j = 0 ↔ W < 100000 ^ j := Nat.div_eq_zero_iff_lt (Nat.pow_pos (by omega))
def sdk (s : Int64) : Nat → Int64
  | 0 => s
  | k + 1 => sdk s k * 6364136223846793005 + 1442695040888963407
def shr33 (x : Int64) : Nat := x.toBitVec.toNat / 2 ^ 33
theorem r33 (x : Int64) : ((x.toUInt64 >>> ((nI 33).toInt64.toUInt64 &&& Int64.toUInt64 63)).toInt64).toInt32 = nI (shr33 x) := by
  obtain ⟨n, hn, rfl⟩ := wb_of x
  unfold shr33
  rw [wb_shr hn (by decide), lN_i, wb_tn hn]
theorem r33_b (x : Int64) : shr33 x < 2 ^ 31 := by
  have h := x.toBitVec.isLt
  unfold shr33
  omega
def tn2 (w q : Nat) (y : Nat → Nat) : Nat → Nat := (tnA w q y).2
def trk (s : Int64) (y : Nat → Nat) : Nat → (Nat → Nat)
  | 0 => y
  | k + 1 => tn2 (shr33 (sdk s (k + 1)) % 16) (shr33 (sdk s (k + 1)) / 16) (trk s y k)
theorem trk_s (s : Int64) (y : Nat → Nat) (k : Nat) : trk s y (k + 1) = tn2 (shr33 (sdk s (k + 1)) % 16) (shr33 (sdk s (k + 1)) / 16) (trk s y k) := rfl
theorem tn2_e {w q q5 : Nat} {y : Nat → Nat} {h : AH} (hC : cty q5 (tnA w q y).2 h) : cty q5 (tn2 w q y) h := hC
theorem Iv_tn2 {w q : Nat} {y : Nat → Nat} (hI : Iv y) : Iv (tn2 w q y) := Iv_tnA hI w q
theorem sdk_s (s : Int64) (k : Nat) : sdk s (k + 1) = sdk s k * 6364136223846793005 + 1442695040888963407 := by rw [sdk]
theorem Iv_trk {y : Nat → Nat} (hI : Iv y) (s : Int64) (k : Nat) : Iv (trk s y k) := by
  induction k with
  | zero => rw [trk]; exact hI
  | succ k ih => rw [trk_s]; exact Iv_tn2 ih
def smA (y : Nat → Nat) : Nat := 10000 * y 4 + 100 * allk y (y 4) + blk y (y 4)
def wz (W : Int64) : Nat := W.toInt.toNat
theorem wzn {n : Nat} (h : n < 2 ^ 63) : wz (lN n) = n := by unfold wz; rw [pk_lT h]; rfl
theorem ex_dg {g : Nat} (h : g < 100000) : ∃ w d2 d3 d4 d5, (g = 10000 * w + 1000 * d2 + 100 * d3 + 10 * d4 + d5) ∧ (w ≤ 10 ∧ d2 < 10 ∧ d3 < 10 ∧ d4 < 10 ∧ d5 < 10) ∧ ∀ y, cmG g y = cmD w d2 d3 d4 d5 y := ⟨g / 10000, g / 1000 % 10, g / 100 % 10, g / 10 % 10, g % 10, by omega, by omega, fun _ => rfl⟩
theorem dX9_runScript_0 : decode cX9_runScript 0 = .ok (.iload_n 1, 1) := by decide +kernel
theorem dX9_runScript_1 : decode cX9_runScript 1 = .ok (.iconst 1, 1) := by decide +kernel
theorem dX9_runScript_2 : decode cX9_runScript 2 = .ok (.iconst 3, 1) := by decide +kernel
theorem dX9_runScript_3 : decode cX9_runScript 3 = .ok (.invokestatic 48, 3) := by decide +kernel
theorem dX9_runScript_6 : decode cX9_runScript 6 = .ok (.lload_n 2, 1) := by decide +kernel
theorem dX9_runScript_7 : decode cX9_runScript 7 = .ok (.lconst 0, 1) := by decide +kernel
theorem dX9_runScript_8 : decode cX9_runScript 8 = .ok (.lcmp, 1) := by decide +kernel
theorem dX9_runScript_9 : decode cX9_runScript 9 = .ok (.ifCond .lt 13, 3) := by decide +kernel
theorem dX9_runScript_12 : decode cX9_runScript 12 = .ok (.lload_n 2, 1) := by decide +kernel
theorem dX9_runScript_13 : decode cX9_runScript 13 = .ok (.iload_n 1, 1) := by decide +kernel
theorem dX9_runScript_14 : decode cX9_runScript 14 = .ok (.invokestatic 284, 3) := by decide +kernel
theorem dX9_runScript_17 : decode cX9_runScript 17 = .ok (.lconst 0, 1) := by decide +kernel
theorem dX9_runScript_18 : decode cX9_runScript 18 = .ok (.lcmp, 1) := by decide +kernel
theorem dX9_runScript_19 : decode cX9_runScript 19 = .ok (.ifCond .eq 14, 3) := by decide +kernel
theorem dX9_runScript_22 : decode cX9_runScript 22 = .ok (.new 117, 3) := by decide +kernel
theorem dX9_runScript_25 : decode cX9_runScript 25 = .ok (.dup, 1) := by decide +kernel
theorem dX9_runScript_26 : decode cX9_runScript 26 = .ok (.ldc_w 290, 3) := by decide +kernel
theorem dX9_runScript_29 : decode cX9_runScript 29 = .ok (.invokespecial 121, 3) := by decide +kernel
theorem dX9_runScript_32 : decode cX9_runScript 32 = .ok (.athrow, 1) := by decide +kernel
theorem dX9_runScript_33 : decode cX9_runScript 33 = .ok (.aload_n 0, 1) := by decide +kernel
theorem dX9_runScript_34 : decode cX9_runScript 34 = .ok (.getfield 16, 3) := by decide +kernel
theorem dX9_runScript_37 : decode cX9_runScript 37 = .ok (.aload_n 0, 1) := by decide +kernel
theorem dX9_runScript_38 : decode cX9_runScript 38 = .ok (.getfield 10, 3) := by decide +kernel
theorem dX9_runScript_41 : decode cX9_runScript 41 = .ok (.invokevirtual 292, 3) := by decide +kernel
theorem dX9_runScript_44 : decode cX9_runScript 44 = .ok (.iconst 0, 1) := by decide +kernel
theorem dX9_runScript_45 : decode cX9_runScript 45 = .ok (.istore 4, 2) := by decide +kernel
theorem dX9_runScript_47 : decode cX9_runScript 47 = .ok (.iload 4, 2) := by decide +kernel
theorem dX9_runScript_49 : decode cX9_runScript 49 = .ok (.iload_n 1, 1) := by decide +kernel
theorem dX9_runScript_50 : decode cX9_runScript 50 = .ok (.if_icmp .ge 39, 3) := by decide +kernel
theorem dX9_runScript_53 : decode cX9_runScript 53 = .ok (.lload_n 2, 1) := by decide +kernel
theorem dX9_runScript_54 : decode cX9_runScript 54 = .ok (.iload_n 1, 1) := by decide +kernel
theorem dX9_runScript_55 : decode cX9_runScript 55 = .ok (.iconst 1, 1) := by decide +kernel
theorem dX9_runScript_56 : decode cX9_runScript 56 = .ok (.isub, 1) := by decide +kernel
theorem dX9_runScript_57 : decode cX9_runScript 57 = .ok (.iload 4, 2) := by decide +kernel
theorem dX9_runScript_59 : decode cX9_runScript 59 = .ok (.isub, 1) := by decide +kernel
theorem dX9_runScript_60 : decode cX9_runScript 60 = .ok (.invokestatic 284, 3) := by decide +kernel
theorem dX9_runScript_63 : decode cX9_runScript 63 = .ok (.invokestatic 295, 3) := by decide +kernel
theorem dX9_runScript_66 : decode cX9_runScript 66 = .ok (.aload_n 0, 1) := by decide +kernel
theorem dX9_runScript_67 : decode cX9_runScript 67 = .ok (.getfield 16, 3) := by decide +kernel
theorem dX9_runScript_70 : decode cX9_runScript 70 = .ok (.aload_n 0, 1) := by decide +kernel
theorem dX9_runScript_71 : decode cX9_runScript 71 = .ok (.getfield 29, 3) := by decide +kernel
theorem dX9_runScript_74 : decode cX9_runScript 74 = .ok (.invokestatic 299, 3) := by decide +kernel
theorem dX9_runScript_77 : decode cX9_runScript 77 = .ok (.ifCond .ne 6, 3) := by decide +kernel
theorem dX9_runScript_80 : decode cX9_runScript 80 = .ok (.iload 4, 2) := by decide +kernel
theorem dX9_runScript_82 : decode cX9_runScript 82 = .ok (.ireturn, 1) := by decide +kernel
theorem dX9_runScript_83 : decode cX9_runScript 83 = .ok (.iinc 4 1, 3) := by decide +kernel
theorem dX9_runScript_86 : decode cX9_runScript 86 = .ok (.goto (-39), 3) := by decide +kernel
theorem dX9_runScript_89 : decode cX9_runScript 89 = .ok (.iconst (-1), 1) := by decide +kernel
theorem dX9_runScript_90 : decode cX9_runScript 90 = .ok (.ireturn, 1) := by decide +kernel
set_option maxRecDepth 100000 in
set_option maxHeartbeats 4000000 in
theorem c_X9_runScript (l : Launch) (G : GT) (n : Nat) (h : AH) (hl : l.stackTraces = false) (x : Nat) (y : Nat → Nat) (k : Nat) (D S : Nat → Nat → Nat) (sv : Nat → Bool) (N : Nat) (T : Nat → Nat) (hS : SysC x y k D S sv N T h) (hI : SI y k D S sv N T) (p1 : Int32) (p2 : Int64) : CX l yX9_runScript cX9_runScript 5 (some .int) 8 4 24 G n h [.ref x, .int p1, .long p2] (PoC x h (if (1 ≤ p1.toInt ∧ p1.toInt ≤ 3) ∧ (0 ≤ p2.toInt ∧ wz p2 < 100000 ^ z p1) then 0 else 1) (nI (scr (wz p2) (z p1) (z p1) 0 y)) y k D S sv N T) (PxC x h (if (1 ≤ p1.toInt ∧ p1.toInt ≤ 3) ∧ (0 ≤ p2.toInt ∧ wz p2 < 100000 ^ z p1) then 0 else 1) [iaE] y k D S sv N T) := by
  have NE := NO_eq
  obtain ⟨w0, w1, ⟨z2, w2⟩, ⟨fi, w3⟩, ⟨pf, pg, w4⟩, ⟨tp, tlt, tf, tg, w5⟩, ⟨f6, w6, v6⟩, w7, w8, ⟨g9, w9, v9⟩⟩ := id hS
  obtain ⟨hIy, hk14, hID, hIS, hN, hT⟩ := id hI
  obtain ⟨⟨i0, i1, i2, i3, i4⟩, iR, iU, iM, iS⟩ := id hIy
  obtain ⟨yob, ⟨fR, hfR, hR⟩, ⟨fU, hfU, hU⟩, ⟨fS, hfS, hSS⟩, ⟨fM, hfM, hM⟩, -, -, -⟩ := id w1
  refine CX_of mX9_runScript.1 (Nat.le_of_ble_eq_true rfl) ?_
  intro p₀ e₀ s₀ m₀ as₀ bl₀ me₀ c₀ C hE
  refine V_Le (L' := [(0, .ref x), (1, .int p1), (2, .long p2)]) rfl ?_
  refine V_iload_n 1 C dX9_runScript_0 rfl rfl ?_
  refine V_iconst 2 C dX9_runScript_1 rfl ic1 ?_
  refine V_iconst 3 C dX9_runScript_2 rfl ic3 ?_
  refine V_callSX 6 C hE dX9_runScript_3 rfl mX9_requireRange tw262 (c_X9_requireRange l G _ _ hl p1 1 3 (by omega) (by omega)) rfl rfl (by decide) ⟨by omega, by omega⟩ (Nat.le_of_ble_eq_true rfl) (fun _ _ e => by obtain ⟨rfl, e2, rfl⟩ := e; exact PxC_mk 1 (if_neg (fun q => e2 q.1)) (by decide) rfl hS FX.rf) ?_
  rintro _ _ _ ⟨rfl, hr3, rfl, rfl⟩
  have hw : ix p1 4 := ⟨by omega, by omega⟩
  obtain ⟨j1, hj1, rfl⟩ := ix_of hw (by omega)
  have z1 := zn (show j1 < 2 ^ 31 by omega)
  have t1 := nI_toInt (show j1 < 2 ^ 31 by omega)
  rw [t1] at hr3
  have hr3b : (1 ≤ (nI j1).toInt ∧ (nI j1).toInt ≤ 3) := by rw [t1]; exact hr3
  have hz0 : (lN 0).toInt = 0 := pk_lT (by omega)
  refine V_lload_n 7 C dX9_runScript_6 rfl rfl ?_
  refine V_lconst (v := lN 0) 8 C dX9_runScript_7 rfl rfl ?_
  refine V_lcmp 9 C dX9_runScript_8 rfl  ?_
  refine V_if_lt 22 12 C dX9_runScript_9 (by decide) rfl  (fun c9 => ?_) (fun c9 => ?_)
  · have hno : ¬ (0 ≤ p2.toInt ∧ wz p2 < 100000 ^ z (nI j1)) := fun q => by
      have e := (lg_cmp_lt _ _).mp c9
      rw [Int64.lt_iff_toInt_lt, hz0] at e
      have := q.1
      omega
    have hk1 : (if (1 ≤ (nI j1).toInt ∧ (nI j1).toInt ≤ 3) ∧ (0 ≤ p2.toInt ∧ wz p2 < 100000 ^ z (nI j1)) then 0 else 1) = 1 := if_neg (fun q => hno q.2)
    exact V_throwW C hl hE thIA (show (290, "the script is negative or too long") ∈ strL from by decide +kernel) dX9_runScript_22 dX9_runScript_25 dX9_runScript_26 dX9_runScript_29 dX9_runScript_32 (by decide) ⟨by omega, by omega⟩ (Nat.le_of_ble_eq_true rfl) (PxC_mk 1 hk1 (by decide) rfl hS FX.rf)
  · obtain ⟨W, hW, rfl⟩ := pk_lOf (x := p2) (fun e => c9 ((lg_cmp_lt _ _).mpr e))
    have w1z := wzn hW
    refine V_lload_n 13 C dX9_runScript_12 rfl rfl ?_
    refine V_iload_n 14 C dX9_runScript_13 rfl rfl ?_
    refine V_callS 17 C dX9_runScript_14 rfl mX7_without tw888 (c_X7_without l G _ _ W j1 hW (by omega)) rfl rfl (by decide) ⟨by omega, by omega⟩ (Nat.le_of_ble_eq_true rfl) ?_
    rintro _ _ _ ⟨rfl, rfl, rfl⟩
    refine V_lconst (v := lN 0) 18 C dX9_runScript_17 rfl rfl ?_
    refine V_lcmp 19 C dX9_runScript_18 rfl  ?_
    refine V_if_eq 33 22 C dX9_runScript_19 (by decide) rfl  (fun c19 => ?_) (fun c19 => ?_)
    · have hlt : W < 100000 ^ j1 := div_0.mp ((pk_lEQ (Nat.lt_of_le_of_lt (Nat.div_le_self _ _) hW) (by omega)).mp ((lg_cmp_eq _ _).mp c19))
      have hk0 : (if (1 ≤ (nI j1).toInt ∧ (nI j1).toInt ≤ 3) ∧ (0 ≤ (lN W).toInt ∧ wz (lN W) < 100000 ^ z (nI j1)) then 0 else 1) = 0 := if_pos ⟨hr3b, by rw [pk_lT hW]; omega, by rw [w1z, z1]; exact hlt⟩
      refine V_aload_n 34 C dX9_runScript_33 rfl rfl ?_
      refine V_get (k := 1) 37 C dX9_runScript_34 rfl fcX9 tw229 (by decide) rfl w0 rfl ?_
      refine V_aload_n 38 C dX9_runScript_37 rfl rfl ?_
      refine V_get (k := 0) 41 C dX9_runScript_38 rfl fcX9 tw228 (by decide) rfl w0 rfl ?_
      refine V_callV 44 C dX9_runScript_41 rfl mX1_copyFrom tw845 fcX1 w2.1 (c_X1_copyFrom l G _ _ (x + 33) (x + 1) z2 y w2 w1 hIy (by omega)) rfl rfl (by decide) ⟨by omega, by omega⟩ (Nat.le_of_ble_eq_true rfl) ?_
      rintro _ _ h1 ⟨rfl, rfl, hC1, hF1⟩
      have hS1 := hS.tri hC1 hF1
      have hX1 : FX x h h1 := fun a ha => hF1 a (by omega)
      refine V_iconst 45 C dX9_runScript_44 rfl ic0 ?_
      refine V_istore 47 C dX9_runScript_45 rfl (by decide) (L' := [(0, _), (1, _), (2, _), (4, _)]) rfl ?_
      have J47 : ∀ (fuel : Nat) (i9 : Nat) (yt : Nat → Nat) (h2 : AH) (hi9 : i9 ≤ j1) (hIt : Iv yt) (hCt : cty (x + 33) yt h2) (hSt : SysC x y k D S sv N T h2) (hXt : FX x h h2) (hr9 : scr W j1 (j1 - i9) i9 yt = scr W j1 j1 0 y), j1 - i9 < fuel → V p₀ l e₀ (rmD 8 4 24) s₀ m₀ as₀ bl₀ me₀ c₀ (vx_MQ bl₀ (Po G (PoC x h (if (1 ≤ (nI j1).toInt ∧ (nI j1).toInt ≤ 3) ∧ (0 ≤ (lN W).toInt ∧ wz (lN W) < 100000 ^ z (nI j1)) then 0 else 1) (nI (scr (wz (lN W)) (z (nI j1)) (z (nI j1)) 0 y)) y k D S sv N T)) (PX G (PxC x h (if (1 ≤ (nI j1).toInt ∧ (nI j1).toInt ≤ 3) ∧ (0 ≤ (lN W).toInt ∧ wz (lN W) < 100000 ^ z (nI j1)) then 0 else 1) [iaE] y k D S sv N T)) as₀ s₀ 4 24 (rg G)) G 5 1 6 n h2 47 [(0, .ref x), (1, .int (nI j1)), (2, .long (lN W)), (4, .int (nI i9))] [] := by
        intro fuel
        induction fuel with
        | zero => intro i9 yt h2 hi9 hIt hCt hSt hXt hr9 hf; omega
        | succ fuel ih47 =>
          intro i9 yt h2 hi9 hIt hCt hSt hXt hr9 hf
          refine V_iload 49 C dX9_runScript_47 rfl rfl ?_
          refine V_iload_n 50 C dX9_runScript_49 rfl rfl ?_
          refine V_icmp_geN 89 53 C dX9_runScript_50 (by decide) rfl (by omega) (by omega) (fun c50 => ?_) (fun c50 => ?_)
          · have hz : scr W j1 j1 0 y = NO := by rw [← hr9, scr_e (by omega)]
            refine V_iconst 90 C dX9_runScript_89 rfl icm1 ?_
            refine V_x (V_ireturn C dX9_runScript_90 rfl rfl (by omega) (by omega) ?_)
            exact (PoC_mk hk0 (by rw [w1z, z1, hz]; rfl) hSt hXt)
          · refine V_lload_n 54 C dX9_runScript_53 rfl rfl ?_
            refine V_iload_n 55 C dX9_runScript_54 rfl rfl ?_
            refine V_iconst 56 C dX9_runScript_55 rfl ic1 ?_
            refine V_isubN 57 C dX9_runScript_56 rfl (by omega) ?_
            refine V_iload 59 C dX9_runScript_57 rfl rfl ?_
            refine V_isubN 60 C dX9_runScript_59 rfl (by omega) ?_
            refine V_callS 63 C dX9_runScript_60 rfl mX7_without tw888 (c_X7_without l G _ _ W (j1 - 1 - i9) hW (by omega)) rfl rfl (by decide) ⟨by omega, by omega⟩ (Nat.le_of_ble_eq_true rfl) ?_
            rintro _ _ _ ⟨rfl, rfl, rfl⟩
            refine V_callS 66 C dX9_runScript_63 rfl mX7_lastGroup tw893 (c_X7_lastGroup l G _ _ (W / 100000 ^ (j1 - 1 - i9)) (Nat.lt_of_le_of_lt (Nat.div_le_self _ _) hW)) rfl rfl (by decide) ⟨by omega, by omega⟩ (Nat.le_of_ble_eq_true rfl) ?_
            rintro _ _ _ ⟨rfl, rfl, rfl⟩
            obtain ⟨w, d2, d3, d4, d5, hg5, ⟨b1, b2, b3, b4, b5⟩, hgm⟩ := ex_dg (Nat.mod_lt (W / 100000 ^ (j1 - 1 - i9)) (show 0 < 100000 by omega))
            rw [hg5]
            have hgy := hgm yt
            obtain ⟨pf9, pg9, hP9⟩ := hSt.2.2.2.2.1
            refine V_aload_n 67 C dX9_runScript_66 rfl rfl ?_
            refine V_get (k := 1) 70 C dX9_runScript_67 rfl fcX9 tw229 (by decide) rfl hSt.1 rfl ?_
            refine V_aload_n 71 C dX9_runScript_70 rfl rfl ?_
            refine V_get (k := 3) 74 C dX9_runScript_71 rfl fcX9 tw231 (by decide) rfl hSt.1 rfl ?_
            refine V_callS 77 C dX9_runScript_74 rfl mX7_succeeds tw896 (c_X7_succeeds l G _ _ (x + 33) yt hCt hIt (x + 547) pf9 pg9 hP9 (by omega) w d2 d3 d4 d5 b1 b2 b3 b4 b5) rfl rfl (by decide) ⟨by omega, by omega⟩ (Nat.le_of_ble_eq_true rfl) ?_
            rintro _ _ h3 ⟨rfl, rfl, hC3, ⟨pf3, pg3, hP3⟩, hF3⟩
            rw [← hgy] at hC3 ⊢
            have hS3 := hSt.trp hC3 hP3 (fun a ha => hF3 a ha.1 ha.2)
            have hX3 : FX x h h3 := fun a ha => (hF3 a (by omega) (by omega)).trans (hXt a ha)
            have hI3 : Iv (cmG (W / 100000 ^ (j1 - 1 - i9) % 100000) yt).2 := by rw [hgy]; exact Iv_cmD hIt _ _ _ _ _
            refine V_if_neB 83 80 C dX9_runScript_77 (by decide) rfl  (fun c77 => ?_) (fun c77 => ?_)
            · have e4 := (scr_t (W := W) (n := j1) (f := j1 - i9) (i := i9) (y := yt) (by omega) c77).symm.trans hr9
              rw [show j1 - i9 - 1 = j1 - (i9 + 1) from by omega] at e4
              refine V_iinc 86 C dX9_runScript_83 rfl (by decide) rfl (ii1 _) (L' := [(0, _), (1, _), (2, _), (4, _)]) rfl ?_
              refine V_goto 47 C dX9_runScript_86 (by decide) ?_
              refine V_L [0, 1, 2, 4] rfl ?_
              exact ih47 (i9 + 1) _ h3 (by omega) hI3 hC3 hS3 hX3 e4 (by omega)
            · have hz : scr W j1 j1 0 y = i9 := by rw [← hr9, scr_f (by omega) c77]
              refine V_iload 82 C dX9_runScript_80 rfl rfl ?_
              refine V_x (V_ireturn C dX9_runScript_82 rfl rfl (by omega) (by omega) ?_)
              exact (PoC_mk hk0 (by rw [w1z, z1, hz]) hS3 hX3)
      refine V_L [0, 1, 2, 4] rfl ?_
      exact J47 (j1 + 1) 0 y h1 (by omega) hIy hC1 hS1 hX1 rfl (by omega)
    · have hk1 : (if (1 ≤ (nI j1).toInt ∧ (nI j1).toInt ≤ 3) ∧ (0 ≤ (lN W).toInt ∧ wz (lN W) < 100000 ^ z (nI j1)) then 0 else 1) = 1 := if_neg (fun q => c19 ((lg_cmp_eq _ _).mpr (by
        have e := q.2.2
        rw [w1z, z1] at e
        rw [div_0.mpr e])))
      exact V_throwW C hl hE thIA (show (290, "the script is negative or too long") ∈ strL from by decide +kernel) dX9_runScript_22 dX9_runScript_25 dX9_runScript_26 dX9_runScript_29 dX9_runScript_32 (by decide) ⟨by omega, by omega⟩ (Nat.le_of_ble_eq_true rfl) (PxC_mk 1 hk1 (by decide) rfl hS FX.rf)

theorem dX9_simulate_0 : decode cX9_simulate 0 = .ok (.iload_n 3, 1) := by decide +kernel
theorem dX9_simulate_1 : decode cX9_simulate 1 = .ok (.iconst 1, 1) := by decide +kernel
theorem dX9_simulate_2 : decode cX9_simulate 2 = .ok (.bipush 60, 2) := by decide +kernel
theorem dX9_simulate_4 : decode cX9_simulate 4 = .ok (.invokestatic 48, 3) := by decide +kernel
theorem dX9_simulate_7 : decode cX9_simulate 7 = .ok (.aload_n 0, 1) := by decide +kernel
theorem dX9_simulate_8 : decode cX9_simulate 8 = .ok (.getfield 16, 3) := by decide +kernel
theorem dX9_simulate_11 : decode cX9_simulate 11 = .ok (.aload_n 0, 1) := by decide +kernel
theorem dX9_simulate_12 : decode cX9_simulate 12 = .ok (.getfield 10, 3) := by decide +kernel
theorem dX9_simulate_15 : decode cX9_simulate 15 = .ok (.invokevirtual 292, 3) := by decide +kernel
theorem dX9_simulate_18 : decode cX9_simulate 18 = .ok (.lload_n 1, 1) := by decide +kernel
theorem dX9_simulate_19 : decode cX9_simulate 19 = .ok (.lstore 4, 2) := by decide +kernel
theorem dX9_simulate_21 : decode cX9_simulate 21 = .ok (.iconst 0, 1) := by decide +kernel
theorem dX9_simulate_22 : decode cX9_simulate 22 = .ok (.istore 6, 2) := by decide +kernel
theorem dX9_simulate_24 : decode cX9_simulate 24 = .ok (.iload 6, 2) := by decide +kernel
theorem dX9_simulate_26 : decode cX9_simulate 26 = .ok (.iload_n 3, 1) := by decide +kernel
theorem dX9_simulate_27 : decode cX9_simulate 27 = .ok (.if_icmp .ge 34, 3) := by decide +kernel
theorem dX9_simulate_30 : decode cX9_simulate 30 = .ok (.lload 4, 2) := by decide +kernel
theorem dX9_simulate_32 : decode cX9_simulate 32 = .ok (.ldc2_w 303, 3) := by decide +kernel
theorem dX9_simulate_35 : decode cX9_simulate 35 = .ok (.lmul, 1) := by decide +kernel
theorem dX9_simulate_36 : decode cX9_simulate 36 = .ok (.ldc2_w 305, 3) := by decide +kernel
theorem dX9_simulate_39 : decode cX9_simulate 39 = .ok (.ladd, 1) := by decide +kernel
theorem dX9_simulate_40 : decode cX9_simulate 40 = .ok (.lstore 4, 2) := by decide +kernel
theorem dX9_simulate_42 : decode cX9_simulate 42 = .ok (.lload 4, 2) := by decide +kernel
theorem dX9_simulate_44 : decode cX9_simulate 44 = .ok (.bipush 33, 2) := by decide +kernel
theorem dX9_simulate_46 : decode cX9_simulate 46 = .ok (.lushr, 1) := by decide +kernel
theorem dX9_simulate_47 : decode cX9_simulate 47 = .ok (.l2i, 1) := by decide +kernel
theorem dX9_simulate_48 : decode cX9_simulate 48 = .ok (.aload_n 0, 1) := by decide +kernel
theorem dX9_simulate_49 : decode cX9_simulate 49 = .ok (.getfield 16, 3) := by decide +kernel
theorem dX9_simulate_52 : decode cX9_simulate 52 = .ok (.invokestatic 307, 3) := by decide +kernel
theorem dX9_simulate_55 : decode cX9_simulate 55 = .ok (.iinc 6 1, 3) := by decide +kernel
theorem dX9_simulate_58 : decode cX9_simulate 58 = .ok (.goto (-34), 3) := by decide +kernel
theorem dX9_simulate_61 : decode cX9_simulate 61 = .ok (.sipush 10000, 3) := by decide +kernel
theorem dX9_simulate_64 : decode cX9_simulate 64 = .ok (.aload_n 0, 1) := by decide +kernel
theorem dX9_simulate_65 : decode cX9_simulate 65 = .ok (.getfield 16, 3) := by decide +kernel
theorem dX9_simulate_68 : decode cX9_simulate 68 = .ok (.getfield 99, 3) := by decide +kernel
theorem dX9_simulate_71 : decode cX9_simulate 71 = .ok (.imul, 1) := by decide +kernel
theorem dX9_simulate_72 : decode cX9_simulate 72 = .ok (.bipush 100, 2) := by decide +kernel
theorem dX9_simulate_74 : decode cX9_simulate 74 = .ok (.aload_n 0, 1) := by decide +kernel
theorem dX9_simulate_75 : decode cX9_simulate 75 = .ok (.getfield 16, 3) := by decide +kernel
theorem dX9_simulate_78 : decode cX9_simulate 78 = .ok (.invokevirtual 105, 3) := by decide +kernel
theorem dX9_simulate_81 : decode cX9_simulate 81 = .ok (.imul, 1) := by decide +kernel
theorem dX9_simulate_82 : decode cX9_simulate 82 = .ok (.iadd, 1) := by decide +kernel
theorem dX9_simulate_83 : decode cX9_simulate 83 = .ok (.aload_n 0, 1) := by decide +kernel
theorem dX9_simulate_84 : decode cX9_simulate 84 = .ok (.getfield 16, 3) := by decide +kernel
theorem dX9_simulate_87 : decode cX9_simulate 87 = .ok (.invokevirtual 108, 3) := by decide +kernel
theorem dX9_simulate_90 : decode cX9_simulate 90 = .ok (.iadd, 1) := by decide +kernel
theorem dX9_simulate_91 : decode cX9_simulate 91 = .ok (.ireturn, 1) := by decide +kernel
set_option maxRecDepth 100000 in
set_option maxHeartbeats 4000000 in
theorem c_X9_simulate (l : Launch) (G : GT) (n : Nat) (h : AH) (hl : l.stackTraces = false) (x : Nat) (y : Nat → Nat) (k : Nat) (D S : Nat → Nat → Nat) (sv : Nat → Bool) (N : Nat) (T : Nat → Nat) (hS : SysC x y k D S sv N T h) (hI : SI y k D S sv N T) (p1 : Int64) (p2 : Int32) : CX l yX9_simulate cX9_simulate 7 (some .int) 7 4 24 G n h [.ref x, .long p1, .int p2] (PoC x h (if 1 ≤ p2.toInt ∧ p2.toInt ≤ 60 then 0 else 1) (nI (smA (trk p1 y (z p2)))) y k D S sv N T) (PxC x h (if 1 ≤ p2.toInt ∧ p2.toInt ≤ 60 then 0 else 1) [iaE] y k D S sv N T) := by
  have NE := NO_eq
  obtain ⟨w0, w1, ⟨z2, w2⟩, ⟨fi, w3⟩, ⟨pf, pg, w4⟩, ⟨tp, tlt, tf, tg, w5⟩, ⟨f6, w6, v6⟩, w7, w8, ⟨g9, w9, v9⟩⟩ := id hS
  obtain ⟨hIy, hk14, hID, hIS, hN, hT⟩ := id hI
  obtain ⟨⟨i0, i1, i2, i3, i4⟩, iR, iU, iM, iS⟩ := id hIy
  obtain ⟨yob, ⟨fR, hfR, hR⟩, ⟨fU, hfU, hU⟩, ⟨fS, hfS, hSS⟩, ⟨fM, hfM, hM⟩, -, -, -⟩ := id w1
  refine CX_of mX9_simulate.1 (Nat.le_of_ble_eq_true rfl) ?_
  intro p₀ e₀ s₀ m₀ as₀ bl₀ me₀ c₀ C hE
  refine V_Le (L' := [(0, .ref x), (1, .long p1), (3, .int p2)]) rfl ?_
  refine V_iload_n 1 C dX9_simulate_0 rfl rfl ?_
  refine V_iconst 2 C dX9_simulate_1 rfl ic1 ?_
  refine V_bipush 4 C dX9_simulate_2 rfl bip60 ?_
  refine V_callSX 7 C hE dX9_simulate_4 rfl mX9_requireRange tw262 (c_X9_requireRange l G _ _ hl p2 1 60 (by omega) (by omega)) rfl rfl (by decide) ⟨by omega, by omega⟩ (Nat.le_of_ble_eq_true rfl) (fun _ _ e => by obtain ⟨rfl, e2, rfl⟩ := e; exact PxC_mk 1 (if_neg e2) (by decide) rfl hS FX.rf) ?_
  rintro _ _ _ ⟨rfl, hr4, rfl, rfl⟩
  have hk0 : (if 1 ≤ p2.toInt ∧ p2.toInt ≤ 60 then 0 else 1) = 0 := if_pos hr4
  have hw : ix p2 61 := ⟨by omega, by omega⟩
  obtain ⟨j2, hj2, rfl⟩ := ix_of hw (by omega)
  have z2z := zn (show j2 < 2 ^ 31 by omega)
  refine V_aload_n 8 C dX9_simulate_7 rfl rfl ?_
  refine V_get (k := 1) 11 C dX9_simulate_8 rfl fcX9 tw229 (by decide) rfl w0 rfl ?_
  refine V_aload_n 12 C dX9_simulate_11 rfl rfl ?_
  refine V_get (k := 0) 15 C dX9_simulate_12 rfl fcX9 tw228 (by decide) rfl w0 rfl ?_
  refine V_callV 18 C dX9_simulate_15 rfl mX1_copyFrom tw845 fcX1 w2.1 (c_X1_copyFrom l G _ _ (x + 33) (x + 1) z2 y w2 w1 hIy (by omega)) rfl rfl (by decide) ⟨by omega, by omega⟩ (Nat.le_of_ble_eq_true rfl) ?_
  rintro _ _ h1 ⟨rfl, rfl, hC1, hF1⟩
  have hS1 := hS.tri hC1 hF1
  have hX1 : FX x h h1 := fun a ha => hF1 a (by omega)
  refine V_lload_n 19 C dX9_simulate_18 rfl rfl ?_
  refine V_lstore 21 C dX9_simulate_19 rfl (by decide) (L' := [(0, _), (1, _), (3, _), (4, _)]) rfl ?_
  refine V_iconst 22 C dX9_simulate_21 rfl ic0 ?_
  refine V_istore 24 C dX9_simulate_22 rfl (by decide) (L' := [(0, _), (1, _), (3, _), (4, _), (6, _)]) rfl ?_
  have J24 : ∀ (fuel : Nat) (i9 : Nat) (h2 : AH) (hi9 : i9 ≤ j2) (hCt : cty (x + 33) (trk p1 y i9) h2) (hSt : SysC x y k D S sv N T h2) (hXt : FX x h h2), j2 - i9 < fuel → V p₀ l e₀ (rmD 7 4 24) s₀ m₀ as₀ bl₀ me₀ c₀ (vx_MQ bl₀ (Po G (PoC x h (if 1 ≤ (nI j2).toInt ∧ (nI j2).toInt ≤ 60 then 0 else 1) (nI (smA (trk p1 y (z (nI j2))))) y k D S sv N T)) (PX G (PxC x h (if 1 ≤ (nI j2).toInt ∧ (nI j2).toInt ≤ 60 then 0 else 1) [iaE] y k D S sv N T)) as₀ s₀ 4 24 (rg G)) G 7 1 6 n h2 24 [(0, .ref x), (1, .long p1), (3, .int (nI j2)), (4, .long (sdk p1 i9)), (6, .int (nI i9))] [] := by
    intro fuel
    induction fuel with
    | zero => intro i9 h2 hi9 hCt hSt hXt hf; omega
    | succ fuel ih24 =>
      intro i9 h2 hi9 hCt hSt hXt hf
      refine V_iload 26 C dX9_simulate_24 rfl rfl ?_
      refine V_iload_n 27 C dX9_simulate_26 rfl rfl ?_
      refine V_icmp_geN 61 30 C dX9_simulate_27 (by decide) rfl (by omega) (by omega) (fun c27 => ?_) (fun c27 => ?_)
      · have ei : i9 = j2 := by omega
        refine V_sipush 64 C dX9_simulate_61 rfl sip10000 ?_
        refine V_aload_n 65 C dX9_simulate_64 rfl rfl ?_
        refine V_get (k := 1) 68 C dX9_simulate_65 rfl fcX9 tw229 (by decide) rfl hSt.1 rfl ?_
        refine V_get (k := 4) 71 C dX9_simulate_68 rfl fcX1 tw132 (by decide) rfl hCt.1 rfl ?_
        refine V_imulN 72 C dX9_simulate_71 rfl  ?_
        refine V_bipush 74 C dX9_simulate_72 rfl bip100 ?_
        refine V_aload_n 75 C dX9_simulate_74 rfl rfl ?_
        refine V_get (k := 1) 78 C dX9_simulate_75 rfl fcX9 tw229 (by decide) rfl hSt.1 rfl ?_
        refine V_callV 81 C dX9_simulate_78 rfl mX1_allErrors tw541 fcX1 hCt.1 (c_X1_allErrors l G _ _ (x + 33) _ hCt (Iv_trk hIy p1 i9)) rfl rfl (by decide) ⟨by omega, by omega⟩ (Nat.le_of_ble_eq_true rfl) ?_
        rintro _ _ _ ⟨rfl, rfl, rfl⟩
        refine V_imulN 82 C dX9_simulate_81 rfl  ?_
        refine V_iaddN 83 C dX9_simulate_82 rfl  ?_
        refine V_aload_n 84 C dX9_simulate_83 rfl rfl ?_
        refine V_get (k := 1) 87 C dX9_simulate_84 rfl fcX9 tw229 (by decide) rfl hSt.1 rfl ?_
        refine V_callV 90 C dX9_simulate_87 rfl mX1_unreadable tw555 fcX1 hCt.1 (c_X1_unreadable l G _ _ (x + 33) _ hCt (Iv_trk hIy p1 i9)) rfl rfl (by decide) ⟨by omega, by omega⟩ (Nat.le_of_ble_eq_true rfl) ?_
        rintro _ _ _ ⟨rfl, rfl, rfl⟩
        refine V_iaddN 91 C dX9_simulate_90 rfl  ?_
        refine V_x (V_ireturn C dX9_simulate_91 rfl rfl (by omega) (by omega) ?_)
        exact (PoC_mk hk0 (by rw [z2z, ← ei]; unfold smA; rfl) hSt hXt)
      · refine V_lload 32 C dX9_simulate_30 rfl rfl ?_
        refine V_ldc2 35 C dX9_simulate_32 rfl tw919 ?_
        refine V_lmul 36 C dX9_simulate_35 rfl  ?_
        refine V_ldc2 39 C dX9_simulate_36 rfl tw920 ?_
        refine V_ladd 40 C dX9_simulate_39 rfl  ?_
        rw [← sdk_s]
        refine V_lstore 42 C dX9_simulate_40 rfl (by decide) (L' := [(0, _), (1, _), (3, _), (4, _), (6, _)]) rfl ?_
        refine V_lload 44 C dX9_simulate_42 rfl rfl ?_
        refine V_bipush 46 C dX9_simulate_44 rfl bip33 ?_
        refine V_lushr 47 C dX9_simulate_46 rfl  ?_
        refine V_l2i 48 C dX9_simulate_47 rfl  ?_
        rw [r33]
        refine V_aload_n 49 C dX9_simulate_48 rfl rfl ?_
        refine V_get (k := 1) 52 C dX9_simulate_49 rfl fcX9 tw229 (by decide) rfl hSt.1 rfl ?_
        refine V_callS 55 C dX9_simulate_52 rfl mX7_turn tw921 (c_X7_turn l G _ _ (shr33 (sdk p1 (i9 + 1))) (r33_b _) (x + 33) (trk p1 y i9) hCt (Iv_trk hIy p1 i9)) rfl rfl (by decide) ⟨by omega, by omega⟩ (Nat.le_of_ble_eq_true rfl) ?_
        rintro _ _ h3 ⟨rfl, rfl, hC3, hF3⟩
        have hC3 := tn2_e hC3
        rw [← trk_s] at hC3
        have hS3 := hSt.tri hC3 hF3
        have hX3 : FX x h h3 := fun a ha => (hF3 a (by omega)).trans (hXt a ha)
        refine V_iinc 58 C dX9_simulate_55 rfl (by decide) rfl (ii1 _) (L' := [(0, _), (1, _), (3, _), (4, _), (6, _)]) rfl ?_
        refine V_goto 24 C dX9_simulate_58 (by decide) ?_
        refine V_L [0, 1, 3, 4, 6] rfl ?_
        exact ih24 (i9 + 1) h3 (by omega) hC3 hS3 hX3 (by omega)
  refine V_L [0, 1, 3, 4, 6] rfl ?_
  have J := J24 (j2 + 1) 0 h1 (by omega) (by rw [trk]; exact hC1) hS1 hX1 (by omega)
  rw [sdk] at J
  exact J


