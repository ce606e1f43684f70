/-! THE CLASS'S FACE: reads -/
def qAbout (y : Nat → Nat) (w : Nat) : Nat := if w = 6 then allk y (y 4) else if w = 7 then blk y (y 4) else if w = 8 then y 6 else if w = 9 then rtk y (y 2) else y w
def qRunner (y : Nat → Nat) (r w : Nat) : Nat := if w = 2 then cbk y r (y 4) else if w = 3 then y (37 + 3 * r + 2) else y (37 + 3 * r + w)
def qSheet (y : Nat → Nat) (s w : Nat) : Nat := if w = 4 then pof y s else if w = 5 then ers y s 0 else if w = 6 then y (58 + 6 * s + 1) else if w = 7 then rof y s else if w = 0 then y (58 + 6 * s) else y (58 + 6 * s + (w + 1))
def rgt (y : Nat → Nat) (s : Nat) : Nat → Nat → Nat
  | 0, _ => NO
  | f + 1, n => if ers y s 0 < ers y s n then n else rgt y s f (n + 1)
theorem rgt_e {y : Nat → Nat} {s f n : Nat} (h : f = 0) : rgt y s f n = NO := by rw [h]; rfl
theorem rgt_t {y : Nat → Nat} {s f n : Nat} (hf : 0 < f) (h : ers y s 0 < ers y s n) : rgt y s f n = n := by
  obtain ⟨j, rfl⟩ : ∃ j, f = j + 1 := ⟨f - 1, by omega⟩
  simp only [rgt]
  rw [if_pos h]
theorem rgt_s {y : Nat → Nat} {s f n : Nat} (hf : 0 < f) (h : ¬ ers y s 0 < ers y s n) : rgt y s f n = rgt y s (f - 1) (n + 1) := by
  obtain ⟨j, rfl⟩ : ∃ j, f = j + 1 := ⟨f - 1, by omega⟩
  simp only [rgt]
  rw [if_neg h, Nat.add_sub_cancel]
def ibS (y : Nat → Nat) (s : Nat) : Nat := if y (58 + 6 * s + 4) = NO then y (58 + 6 * s + 5) else y (37 + 3 * y (58 + 6 * s + 4))
def ibL (y : Nat → Nat) (s : Nat) : Nat := if y (58 + 6 * s + 4) = NO then 0 else y (37 + 3 * y (58 + 6 * s + 4) + 1)
noncomputable def qIb (y : Nat → Nat) (s t : Nat) : Nat := if dst y (ibS y s) t = FAR then NO else ers y s (ibL y s + dst y (ibS y s) t)
theorem ib_b {y : Nat → Nat} (hI : Iv y) {s : Nat} (hs : s < y 4) : ibS y s < 6 ∧ ibL y s ≤ 20 := by
  obtain ⟨⟨i0, i1, i2, i3, i4⟩, iR, iU, iM, iS⟩ := hI
  have h := iS s hs
  unfold ibS ibL
  by_cases e : y (58 + 6 * s + 4) = NO
  · rw [if_pos e, if_pos e]; omega
  · rw [if_neg e, if_neg e]
    have := iU _ (h.2.2.2.2.1.resolve_left e)
    omega
theorem pln_up {p : Nat} {f g f2 g2 : Nat → Int32} {h : AH} (hP : pln p f g h) : pln p f2 g2 (up (up h (p + 1) (ra f2)) (p + 2) (rb g2)) := ⟨by rw [up_n _ (by omega), up_n _ (by omega)]; exact hP.1, by rw [up_n _ (by omega)]; exact up_s _ _ _, up_s _ _ _⟩
theorem SysC.plu {x : Nat} {h : AH} {y : Nat → Nat} {k : Nat} {D S : Nat → Nat → Nat} {sv : Nat → Bool} {N : Nat} {T : Nat → Nat} {f2 g2 : Nat → Int32} (hS : SysC x y k D S sv N T h) : SysC x y k D S sv N T (up (up h (x + 547 + 1) (ra f2)) (x + 547 + 2) (rb g2)) := by
  obtain ⟨pf, pg, w4⟩ := hS.2.2.2.2.1
  exact hS.pln (pln_up w4) (fun a ha => by rw [up_n _ (by omega), up_n _ (by omega)])
theorem FX.plu {x : Nat} {h : AH} {f2 g2 : Nat → Int32} : FX x h (up (up h (x + 547 + 1) (ra f2)) (x + 547 + 2) (rb g2)) := fun a ha => by rw [up_n _ (by omega), up_n _ (by omega)]
theorem dX9_requireThere_0 : decode cX9_requireThere 0 = .ok (.iload_n 0, 1) := by decide +kernel
theorem dX9_requireThere_1 : decode cX9_requireThere 1 = .ok (.ifCond .ne 14, 3) := by decide +kernel
theorem dX9_requireThere_4 : decode cX9_requireThere 4 = .ok (.new 313, 3) := by decide +kernel
theorem dX9_requireThere_7 : decode cX9_requireThere 7 = .ok (.dup, 1) := by decide +kernel
theorem dX9_requireThere_8 : decode cX9_requireThere 8 = .ok (.ldc_w 315, 3) := by decide +kernel
theorem dX9_requireThere_11 : decode cX9_requireThere 11 = .ok (.invokespecial 317, 3) := by decide +kernel
theorem dX9_requireThere_14 : decode cX9_requireThere 14 = .ok (.athrow, 1) := by decide +kernel
theorem dX9_requireThere_15 : decode cX9_requireThere 15 = .ok (.return_, 1) := by decide +kernel
set_option maxRecDepth 100000 in
set_option maxHeartbeats 4000000 in
theorem c_X9_requireThere (l : Launch) (G : GT) (n : Nat) (h : AH) (hl : l.stackTraces = false) (b : Nat) (hb : b ≤ 1) : CX l yX9_requireThere cX9_requireThere 1 none 6 1 6 G n h [.int (nI b)] (fun v n' h' => v = none ∧ b = 1 ∧ n = n' ∧ h = h') (fun E h' => E = ioE ∧ b = 0 ∧ h' = h) := by
  refine CX_of mX9_requireThere.1 (Nat.le_of_ble_eq_true rfl) ?_
  intro p₀ e₀ s₀ m₀ as₀ bl₀ me₀ c₀ C hE
  refine V_Le (L' := [(0, .int (nI b))]) rfl ?_
  refine V_iload_n 1 C dX9_requireThere_0 rfl rfl ?_
  refine V_if_neN 15 4 C dX9_requireThere_1 (by decide) rfl (by omega) (fun c1 => ?_) (fun c1 => ?_)
  · refine V_x (V_return C dX9_requireThere_15 rfl (by omega) (by omega) ?_)
    exact ⟨rfl, by omega, rfl, rfl⟩
  · exact V_throwW C hl hE thIO (show (315, "there is no such thing") ∈ strL from by decide +kernel) dX9_requireThere_4 dX9_requireThere_7 dX9_requireThere_8 dX9_requireThere_11 dX9_requireThere_14 (by decide) ⟨by omega, by omega⟩ (Nat.le_of_ble_eq_true rfl) ⟨rfl, c1, rfl⟩

theorem dX9_requireRange_0 : decode cX9_requireRange 0 = .ok (.iload_n 0, 1) := by decide +kernel
theorem dX9_requireRange_1 : decode cX9_requireRange 1 = .ok (.iload_n 1, 1) := by decide +kernel
theorem dX9_requireRange_2 : decode cX9_requireRange 2 = .ok (.iload_n 2, 1) := by decide +kernel
theorem dX9_requireRange_3 : decode cX9_requireRange 3 = .ok (.invokestatic 318, 3) := by decide +kernel
theorem dX9_requireRange_6 : decode cX9_requireRange 6 = .ok (.ifCond .ne 14, 3) := by decide +kernel
theorem dX9_requireRange_9 : decode cX9_requireRange 9 = .ok (.new 117, 3) := by decide +kernel
theorem dX9_requireRange_12 : decode cX9_requireRange 12 = .ok (.dup, 1) := by decide +kernel
theorem dX9_requireRange_13 : decode cX9_requireRange 13 = .ok (.ldc_w 322, 3) := by decide +kernel
theorem dX9_requireRange_16 : decode cX9_requireRange 16 = .ok (.invokespecial 121, 3) := by decide +kernel
theorem dX9_requireRange_19 : decode cX9_requireRange 19 = .ok (.athrow, 1) := by decide +kernel
theorem dX9_requireRange_20 : decode cX9_requireRange 20 = .ok (.return_, 1) := by decide +kernel
set_option maxRecDepth 100000 in
set_option maxHeartbeats 4000000 in
theorem c_X9_requireRange (l : Launch) (G : GT) (n : Nat) (h : AH) (hl : l.stackTraces = false) (v : Int32) (lo hi : Nat) (h1 : lo < 2 ^ 31) (h2 : hi < 2 ^ 31) : CX l yX9_requireRange cX9_requireRange 3 none 6 1 6 G n h [.int v, .int (nI lo), .int (nI hi)] (fun v' n' h' => v' = none ∧ ((lo : Int) ≤ v.toInt ∧ v.toInt ≤ (hi : Int)) ∧ n = n' ∧ h = h') (fun E h' => E = iaE ∧ ¬ ((lo : Int) ≤ v.toInt ∧ v.toInt ≤ (hi : Int)) ∧ h' = h) := by
  refine CX_of mX9_requireRange.1 (Nat.le_of_ble_eq_true rfl) ?_
  intro p₀ e₀ s₀ m₀ as₀ bl₀ me₀ c₀ C hE
  refine V_Le (L' := [(0, .int v), (1, .int (nI lo)), (2, .int (nI hi))]) rfl ?_
  refine V_iload_n 1 C dX9_requireRange_0 rfl rfl ?_
  refine V_iload_n 2 C dX9_requireRange_1 rfl rfl ?_
  refine V_iload_n 3 C dX9_requireRange_2 rfl rfl ?_
  refine V_callS 6 C dX9_requireRange_3 rfl mX9_inRange tw265 (c_X9_inRange l G _ _ _ _ _) rfl rfl (by decide) ⟨by omega, by omega⟩ (Nat.le_of_ble_eq_true rfl) ?_
  rintro _ _ _ ⟨rfl, rfl, rfl⟩
  rw [nI_toInt h1, nI_toInt h2]
  refine V_if_neB 20 9 C dX9_requireRange_6 (by decide) rfl  (fun c6 => ?_) (fun c6 => ?_)
  · refine V_x (V_return C dX9_requireRange_20 rfl (by omega) (by omega) ?_)
    exact ⟨rfl, c6, rfl, rfl⟩
  · exact V_throwW C hl hE thIA (show (322, "an argument is out of its range") ∈ strL from by decide +kernel) dX9_requireRange_9 dX9_requireRange_12 dX9_requireRange_13 dX9_requireRange_16 dX9_requireRange_19 (by decide) ⟨by omega, by omega⟩ (Nat.le_of_ble_eq_true rfl) ⟨rfl, c6, rfl⟩

theorem dX9_about_0 : decode cX9_about 0 = .ok (.iload_n 1, 1) := by decide +kernel
theorem dX9_about_1 : decode cX9_about 1 = .ok (.tableswitch 135 0 9 #[55, 63, 71, 79, 87, 95, 103, 111, 119, 127], 55) := by decide +kernel
theorem dX9_about_56 : decode cX9_about 56 = .ok (.aload_n 0, 1) := by decide +kernel
theorem dX9_about_57 : decode cX9_about 57 = .ok (.getfield 10, 3) := by decide +kernel
theorem dX9_about_60 : decode cX9_about 60 = .ok (.getfield 86, 3) := by decide +kernel
theorem dX9_about_63 : decode cX9_about 63 = .ok (.ireturn, 1) := by decide +kernel
theorem dX9_about_64 : decode cX9_about 64 = .ok (.aload_n 0, 1) := by decide +kernel
theorem dX9_about_65 : decode cX9_about 65 = .ok (.getfield 10, 3) := by decide +kernel
theorem dX9_about_68 : decode cX9_about 68 = .ok (.getfield 90, 3) := by decide +kernel
theorem dX9_about_71 : decode cX9_about 71 = .ok (.ireturn, 1) := by decide +kernel
theorem dX9_about_72 : decode cX9_about 72 = .ok (.aload_n 0, 1) := by decide +kernel
theorem dX9_about_73 : decode cX9_about 73 = .ok (.getfield 10, 3) := by decide +kernel
theorem dX9_about_76 : decode cX9_about 76 = .ok (.getfield 93, 3) := by decide +kernel
theorem dX9_about_79 : decode cX9_about 79 = .ok (.ireturn, 1) := by decide +kernel
theorem dX9_about_80 : decode cX9_about 80 = .ok (.aload_n 0, 1) := by decide +kernel
theorem dX9_about_81 : decode cX9_about 81 = .ok (.getfield 10, 3) := by decide +kernel
theorem dX9_about_84 : decode cX9_about 84 = .ok (.getfield 96, 3) := by decide +kernel
theorem dX9_about_87 : decode cX9_about 87 = .ok (.ireturn, 1) := by decide +kernel
theorem dX9_about_88 : decode cX9_about 88 = .ok (.aload_n 0, 1) := by decide +kernel
theorem dX9_about_89 : decode cX9_about 89 = .ok (.getfield 10, 3) := by decide +kernel
theorem dX9_about_92 : decode cX9_about 92 = .ok (.getfield 99, 3) := by decide +kernel
theorem dX9_about_95 : decode cX9_about 95 = .ok (.ireturn, 1) := by decide +kernel
theorem dX9_about_96 : decode cX9_about 96 = .ok (.aload_n 0, 1) := by decide +kernel
theorem dX9_about_97 : decode cX9_about 97 = .ok (.getfield 10, 3) := by decide +kernel
theorem dX9_about_100 : decode cX9_about 100 = .ok (.getfield 102, 3) := by decide +kernel
theorem dX9_about_103 : decode cX9_about 103 = .ok (.ireturn, 1) := by decide +kernel
theorem dX9_about_104 : decode cX9_about 104 = .ok (.aload_n 0, 1) := by decide +kernel
theorem dX9_about_105 : decode cX9_about 105 = .ok (.getfield 10, 3) := by decide +kernel
theorem dX9_about_108 : decode cX9_about 108 = .ok (.invokevirtual 105, 3) := by decide +kernel
theorem dX9_about_111 : decode cX9_about 111 = .ok (.ireturn, 1) := by decide +kernel
theorem dX9_about_112 : decode cX9_about 112 = .ok (.aload_n 0, 1) := by decide +kernel
theorem dX9_about_113 : decode cX9_about 113 = .ok (.getfield 10, 3) := by decide +kernel
theorem dX9_about_116 : decode cX9_about 116 = .ok (.invokevirtual 108, 3) := by decide +kernel
theorem dX9_about_119 : decode cX9_about 119 = .ok (.ireturn, 1) := by decide +kernel
theorem dX9_about_120 : decode cX9_about 120 = .ok (.aload_n 0, 1) := by decide +kernel
theorem dX9_about_121 : decode cX9_about 121 = .ok (.getfield 10, 3) := by decide +kernel
theorem dX9_about_124 : decode cX9_about 124 = .ok (.getfield 111, 3) := by decide +kernel
theorem dX9_about_127 : decode cX9_about 127 = .ok (.ireturn, 1) := by decide +kernel
theorem dX9_about_128 : decode cX9_about 128 = .ok (.aload_n 0, 1) := by decide +kernel
theorem dX9_about_129 : decode cX9_about 129 = .ok (.getfield 10, 3) := by decide +kernel
theorem dX9_about_132 : decode cX9_about 132 = .ok (.invokevirtual 114, 3) := by decide +kernel
theorem dX9_about_135 : decode cX9_about 135 = .ok (.ireturn, 1) := by decide +kernel
theorem dX9_about_136 : decode cX9_about 136 = .ok (.new 117, 3) := by decide +kernel
theorem dX9_about_139 : decode cX9_about 139 = .ok (.dup, 1) := by decide +kernel
theorem dX9_about_140 : decode cX9_about 140 = .ok (.ldc 119, 2) := by decide +kernel
theorem dX9_about_142 : decode cX9_about 142 = .ok (.invokespecial 121, 3) := by decide +kernel
theorem dX9_about_145 : decode cX9_about 145 = .ok (.athrow, 1) := by decide +kernel
set_option maxRecDepth 100000 in
set_option maxHeartbeats 4000000 in
theorem c_X9_about (l : Launch) (G : GT) (n : Nat) (h : AH) (hl : l.stackTraces = false) (x : Nat) (y : Nat → Nat) (k : Nat) (D S : Nat → Nat → Nat) (sv : Nat → Bool) (N : Nat) (T : Nat → Nat) (hS : SysC x y k D S sv N T h) (hI : SI y k D S sv N T) (p1 : Int32) : CX l yX9_about cX9_about 2 (some .int) 7 4 24 G n h [.ref x, .int p1] (PoC x h (if ix p1 10 then 0 else 1) (nI (qAbout y (z p1))) y k D S sv N T) (PxC x h (if ix p1 10 then 0 else 1) [iaE] y k D S sv N T) := by
  have NE := NO_eq
  obtain ⟨w0, w1, ⟨z2, w2⟩, ⟨fi, w3⟩, ⟨pf, pg, w4⟩, ⟨tp, tlt, tf, tg, w5⟩, ⟨f6, w6, v6⟩, w7, w8, ⟨g9, w9, v9⟩⟩ := id hS
  obtain ⟨hIy, hk14, hID, hIS, hN, hT⟩ := id hI
  obtain ⟨⟨i0, i1, i2, i3, i4⟩, iR, iU, iM, iS⟩ := id hIy
  obtain ⟨yob, ⟨fR, hfR, hR⟩, ⟨fU, hfU, hU⟩, ⟨fS, hfS, hSS⟩, ⟨fM, hfM, hM⟩, -, -, -⟩ := id w1
  refine CX_of mX9_about.1 (Nat.le_of_ble_eq_true rfl) ?_
  intro p₀ e₀ s₀ m₀ as₀ bl₀ me₀ c₀ C hE
  refine V_Le (L' := [(0, .ref x), (1, .int p1)]) rfl ?_
  refine V_iload_n 1 C dX9_about_0 rfl rfl ?_
  by_cases hw : ix p1 10
  · skip
    obtain ⟨jw, hjw, rfl⟩ := ix_of hw (by omega)
    refine V_case 0 (fun c1_0 => ?_) (fun n1_0 => ?_)
    · refine V_tsI 56 C dX9_about_1 c1_0 (by decide) (by decide) (by decide) rfl (by decide) ?_
      refine V_aload_n 57 C dX9_about_56 rfl rfl ?_
      refine V_get (k := 0) 60 C dX9_about_57 rfl fcX9 tw228 (by decide) rfl w0 rfl ?_
      refine V_get (k := 0) 63 C dX9_about_60 rfl fcX1 tw123 (by decide) rfl w1.1 rfl ?_
      refine V_x (V_ireturn C dX9_about_63 rfl rfl (by omega) (by omega) ?_)
      exact (PoC_mk (if_pos hw) (by subst c1_0; rw [zn (by omega)]; first | done | rfl) hS FX.rf)
    · skip
      refine V_case 1 (fun c1_1 => ?_) (fun n1_1 => ?_)
      · refine V_tsI 64 C dX9_about_1 c1_1 (by decide) (by decide) (by decide) rfl (by decide) ?_
        refine V_aload_n 65 C dX9_about_64 rfl rfl ?_
        refine V_get (k := 0) 68 C dX9_about_65 rfl fcX9 tw228 (by decide) rfl w0 rfl ?_
        refine V_get (k := 1) 71 C dX9_about_68 rfl fcX1 tw126 (by decide) rfl w1.1 rfl ?_
        refine V_x (V_ireturn C dX9_about_71 rfl rfl (by omega) (by omega) ?_)
        exact (PoC_mk (if_pos hw) (by subst c1_1; rw [zn (by omega)]; first | done | rfl) hS FX.rf)
      · skip
        refine V_case 2 (fun c1_2 => ?_) (fun n1_2 => ?_)
        · refine V_tsI 72 C dX9_about_1 c1_2 (by decide) (by decide) (by decide) rfl (by decide) ?_
          refine V_aload_n 73 C dX9_about_72 rfl rfl ?_
          refine V_get (k := 0) 76 C dX9_about_73 rfl fcX9 tw228 (by decide) rfl w0 rfl ?_
          refine V_get (k := 2) 79 C dX9_about_76 rfl fcX1 tw128 (by decide) rfl w1.1 rfl ?_
          refine V_x (V_ireturn C dX9_about_79 rfl rfl (by omega) (by omega) ?_)
          exact (PoC_mk (if_pos hw) (by subst c1_2; rw [zn (by omega)]; first | done | rfl) hS FX.rf)
        · skip
          refine V_case 3 (fun c1_3 => ?_) (fun n1_3 => ?_)
          · refine V_tsI 80 C dX9_about_1 c1_3 (by decide) (by decide) (by decide) rfl (by decide) ?_
            refine V_aload_n 81 C dX9_about_80 rfl rfl ?_
            refine V_get (k := 0) 84 C dX9_about_81 rfl fcX9 tw228 (by decide) rfl w0 rfl ?_
            refine V_get (k := 3) 87 C dX9_about_84 rfl fcX1 tw130 (by decide) rfl w1.1 rfl ?_
            refine V_x (V_ireturn C dX9_about_87 rfl rfl (by omega) (by omega) ?_)
            exact (PoC_mk (if_pos hw) (by subst c1_3; rw [zn (by omega)]; first | done | rfl) hS FX.rf)
          · skip
            refine V_case 4 (fun c1_4 => ?_) (fun n1_4 => ?_)
            · refine V_tsI 88 C dX9_about_1 c1_4 (by decide) (by decide) (by decide) rfl (by decide) ?_
              refine V_aload_n 89 C dX9_about_88 rfl rfl ?_
              refine V_get (k := 0) 92 C dX9_about_89 rfl fcX9 tw228 (by decide) rfl w0 rfl ?_
              refine V_get (k := 4) 95 C dX9_about_92 rfl fcX1 tw132 (by decide) rfl w1.1 rfl ?_
              refine V_x (V_ireturn C dX9_about_95 rfl rfl (by omega) (by omega) ?_)
              exact (PoC_mk (if_pos hw) (by subst c1_4; rw [zn (by omega)]; first | done | rfl) hS FX.rf)
            · skip
              refine V_case 5 (fun c1_5 => ?_) (fun n1_5 => ?_)
              · refine V_tsI 96 C dX9_about_1 c1_5 (by decide) (by decide) (by decide) rfl (by decide) ?_
                refine V_aload_n 97 C dX9_about_96 rfl rfl ?_
                refine V_get (k := 0) 100 C dX9_about_97 rfl fcX9 tw228 (by decide) rfl w0 rfl ?_
                refine V_get (k := 5) 103 C dX9_about_100 rfl fcX1 tw134 (by decide) rfl w1.1 rfl ?_
                refine V_x (V_ireturn C dX9_about_103 rfl rfl (by omega) (by omega) ?_)
                exact (PoC_mk (if_pos hw) (by subst c1_5; rw [zn (by omega)]; first | done | rfl) hS FX.rf)
              · skip
                refine V_case 6 (fun c1_6 => ?_) (fun n1_6 => ?_)
                · refine V_tsI 104 C dX9_about_1 c1_6 (by decide) (by decide) (by decide) rfl (by decide) ?_
                  refine V_aload_n 105 C dX9_about_104 rfl rfl ?_
                  refine V_get (k := 0) 108 C dX9_about_105 rfl fcX9 tw228 (by decide) rfl w0 rfl ?_
                  refine V_callV 111 C dX9_about_108 rfl mX1_allErrors tw541 fcX1 w1.1 (c_X1_allErrors l G _ _ (x + 1) y w1 hIy) rfl rfl (by decide) ⟨by omega, by omega⟩ (Nat.le_of_ble_eq_true rfl) ?_
                  rintro _ _ _ ⟨rfl, rfl, rfl⟩
                  refine V_x (V_ireturn C dX9_about_111 rfl rfl (by omega) (by omega) ?_)
                  exact (PoC_mk (if_pos hw) (by subst c1_6; rw [zn (by omega)]; first | done | rfl) hS FX.rf)
                · skip
                  refine V_case 7 (fun c1_7 => ?_) (fun n1_7 => ?_)
                  · refine V_tsI 112 C dX9_about_1 c1_7 (by decide) (by decide) (by decide) rfl (by decide) ?_
                    refine V_aload_n 113 C dX9_about_112 rfl rfl ?_
                    refine V_get (k := 0) 116 C dX9_about_113 rfl fcX9 tw228 (by decide) rfl w0 rfl ?_
                    refine V_callV 119 C dX9_about_116 rfl mX1_unreadable tw555 fcX1 w1.1 (c_X1_unreadable l G _ _ (x + 1) y w1 hIy) rfl rfl (by decide) ⟨by omega, by omega⟩ (Nat.le_of_ble_eq_true rfl) ?_
                    rintro _ _ _ ⟨rfl, rfl, rfl⟩
                    refine V_x (V_ireturn C dX9_about_119 rfl rfl (by omega) (by omega) ?_)
                    exact (PoC_mk (if_pos hw) (by subst c1_7; rw [zn (by omega)]; first | done | rfl) hS FX.rf)
                  · skip
                    refine V_case 8 (fun c1_8 => ?_) (fun n1_8 => ?_)
                    · refine V_tsI 120 C dX9_about_1 c1_8 (by decide) (by decide) (by decide) rfl (by decide) ?_
                      refine V_aload_n 121 C dX9_about_120 rfl rfl ?_
                      refine V_get (k := 0) 124 C dX9_about_121 rfl fcX9 tw228 (by decide) rfl w0 rfl ?_
                      refine V_get (k := 6) 127 C dX9_about_124 rfl fcX1 tw136 (by decide) rfl w1.1 rfl ?_
                      refine V_x (V_ireturn C dX9_about_127 rfl rfl (by omega) (by omega) ?_)
                      exact (PoC_mk (if_pos hw) (by subst c1_8; rw [zn (by omega)]; first | done | rfl) hS FX.rf)
                    · skip
                      refine V_case 9 (fun c1_9 => ?_) (fun n1_9 => ?_)
                      · refine V_tsI 128 C dX9_about_1 c1_9 (by decide) (by decide) (by decide) rfl (by decide) ?_
                        refine V_aload_n 129 C dX9_about_128 rfl rfl ?_
                        refine V_get (k := 0) 132 C dX9_about_129 rfl fcX9 tw228 (by decide) rfl w0 rfl ?_
                        refine V_callV 135 C dX9_about_132 rfl mX1_runnersInTowns tw559 fcX1 w1.1 (c_X1_runnersInTowns l G _ _ (x + 1) y w1 hIy) rfl rfl (by decide) ⟨by omega, by omega⟩ (Nat.le_of_ble_eq_true rfl) ?_
                        rintro _ _ _ ⟨rfl, rfl, rfl⟩
                        refine V_x (V_ireturn C dX9_about_135 rfl rfl (by omega) (by omega) ?_)
                        exact (PoC_mk (if_pos hw) (by subst c1_9; rw [zn (by omega)]; first | done | rfl) hS FX.rf)
                      · skip
                        exfalso
                        omega
  · skip
    refine V_tableOut 136 C dX9_about_1 (by unfold ix at hw; omega) (by decide) ?_
    exact V_throwS C hl hE thIA (show (119, "what is not 0 to 9") ∈ strL from by decide +kernel) dX9_about_136 dX9_about_139 dX9_about_140 dX9_about_142 dX9_about_145 (by decide) ⟨by omega, by omega⟩ (Nat.le_of_ble_eq_true rfl) (PxC_mk 1 (if_neg hw) (by decide) rfl hS FX.rf)

theorem dX9_roadOf_0 : decode cX9_roadOf 0 = .ok (.aload_n 0, 1) := by decide +kernel
theorem dX9_roadOf_1 : decode cX9_roadOf 1 = .ok (.getfield 10, 3) := by decide +kernel
theorem dX9_roadOf_4 : decode cX9_roadOf 4 = .ok (.iload_n 1, 1) := by decide +kernel
theorem dX9_roadOf_5 : decode cX9_roadOf 5 = .ok (.invokevirtual 122, 3) := by decide +kernel
theorem dX9_roadOf_8 : decode cX9_roadOf 8 = .ok (.invokestatic 126, 3) := by decide +kernel
theorem dX9_roadOf_11 : decode cX9_roadOf 11 = .ok (.aload_n 0, 1) := by decide +kernel
theorem dX9_roadOf_12 : decode cX9_roadOf 12 = .ok (.getfield 10, 3) := by decide +kernel
theorem dX9_roadOf_15 : decode cX9_roadOf 15 = .ok (.getfield 130, 3) := by decide +kernel
theorem dX9_roadOf_18 : decode cX9_roadOf 18 = .ok (.iload_n 1, 1) := by decide +kernel
theorem dX9_roadOf_19 : decode cX9_roadOf 19 = .ok (.aaload, 1) := by decide +kernel
theorem dX9_roadOf_20 : decode cX9_roadOf 20 = .ok (.astore_n 3, 1) := by decide +kernel
theorem dX9_roadOf_21 : decode cX9_roadOf 21 = .ok (.iload_n 2, 1) := by decide +kernel
theorem dX9_roadOf_22 : decode cX9_roadOf 22 = .ok (.tableswitch 41 0 2 #[26, 31, 36], 26) := by decide +kernel
theorem dX9_roadOf_48 : decode cX9_roadOf 48 = .ok (.aload_n 3, 1) := by decide +kernel
theorem dX9_roadOf_49 : decode cX9_roadOf 49 = .ok (.getfield 134, 3) := by decide +kernel
theorem dX9_roadOf_52 : decode cX9_roadOf 52 = .ok (.ireturn, 1) := by decide +kernel
theorem dX9_roadOf_53 : decode cX9_roadOf 53 = .ok (.aload_n 3, 1) := by decide +kernel
theorem dX9_roadOf_54 : decode cX9_roadOf 54 = .ok (.getfield 139, 3) := by decide +kernel
theorem dX9_roadOf_57 : decode cX9_roadOf 57 = .ok (.ireturn, 1) := by decide +kernel
theorem dX9_roadOf_58 : decode cX9_roadOf 58 = .ok (.aload_n 3, 1) := by decide +kernel
theorem dX9_roadOf_59 : decode cX9_roadOf 59 = .ok (.getfield 142, 3) := by decide +kernel
theorem dX9_roadOf_62 : decode cX9_roadOf 62 = .ok (.ireturn, 1) := by decide +kernel
theorem dX9_roadOf_63 : decode cX9_roadOf 63 = .ok (.new 117, 3) := by decide +kernel
theorem dX9_roadOf_66 : decode cX9_roadOf 66 = .ok (.dup, 1) := by decide +kernel
theorem dX9_roadOf_67 : decode cX9_roadOf 67 = .ok (.ldc 145, 2) := by decide +kernel
theorem dX9_roadOf_69 : decode cX9_roadOf 69 = .ok (.invokespecial 121, 3) := by decide +kernel
theorem dX9_roadOf_72 : decode cX9_roadOf 72 = .ok (.athrow, 1) := by decide +kernel
set_option maxRecDepth 100000 in
set_option maxHeartbeats 4000000 in
theorem c_X9_roadOf (l : Launch) (G : GT) (n : Nat) (h : AH) (hl : l.stackTraces = false) (x : Nat) (y : Nat → Nat) (k : Nat) (D S : Nat → Nat → Nat) (sv : Nat → Bool) (N : Nat) (T : Nat → Nat) (hS : SysC x y k D S sv N T h) (hI : SI y k D S sv N T) (p1 : Int32) (p2 : Int32) : CX l yX9_roadOf cX9_roadOf 4 (some .int) 7 4 24 G n h [.ref x, .int p1, .int p2] (PoC x h (if ix p1 (y 1) then (if ix p2 3 then 0 else 2) else 1) (nI (y (7 + 3 * z p1 + z p2))) y k D S sv N T) (PxC x h (if ix p1 (y 1) then (if ix p2 3 then 0 else 2) else 1) [ioE, iaE] y k D S sv N T) := by
  have NE := NO_eq
  obtain ⟨w0, w1, ⟨z2, w2⟩, ⟨fi, w3⟩, ⟨pf, pg, w4⟩, ⟨tp, tlt, tf, tg, w5⟩, ⟨f6, w6, v6⟩, w7, w8, ⟨g9, w9, v9⟩⟩ := id hS
  obtain ⟨hIy, hk14, hID, hIS, hN, hT⟩ := id hI
  obtain ⟨⟨i0, i1, i2, i3, i4⟩, iR, iU, iM, iS⟩ := id hIy
  obtain ⟨yob, ⟨fR, hfR, hR⟩, ⟨fU, hfU, hU⟩, ⟨fS, hfS, hSS⟩, ⟨fM, hfM, hM⟩, -, -, -⟩ := id w1
  refine CX_of mX9_roadOf.1 (Nat.le_of_ble_eq_true rfl) ?_
  intro p₀ e₀ s₀ m₀ as₀ bl₀ me₀ c₀ C hE
  refine V_Le (L' := [(0, .ref x), (1, .int p1), (2, .int p2)]) rfl ?_
  refine V_aload_n 1 C dX9_roadOf_0 rfl rfl ?_
  refine V_get (k := 0) 4 C dX9_roadOf_1 rfl fcX9 tw228 (by decide) rfl w0 rfl ?_
  refine V_iload_n 5 C dX9_roadOf_4 rfl rfl ?_
  refine V_callV 8 C dX9_roadOf_5 rfl mX1_hasRoad tw572 fcX1 w1.1 (c_X1_hasRoad l G _ _ (x + 1) y w1 hIy p1) rfl rfl (by decide) ⟨by omega, by omega⟩ (Nat.le_of_ble_eq_true rfl) ?_
  rintro _ _ _ ⟨rfl, rfl, rfl⟩
  refine V_callSX 11 C hE dX9_roadOf_8 rfl mX9_requireThere tw573 (c_X9_requireThere l G _ _ hl _ bp_le) rfl rfl (by decide) ⟨by omega, by omega⟩ (Nat.le_of_ble_eq_true rfl) (fun _ _ e => by obtain ⟨rfl, e2, rfl⟩ := e; exact PxC_mk 1 (if_neg (bp_0.mp e2)) (by decide) rfl hS FX.rf) ?_
  rintro _ _ _ ⟨rfl, hb8, rfl, rfl⟩
  have ht : ix p1 (y 1) := bp_1.mp (by omega)
  obtain ⟨j1, hj1, rfl⟩ := ix_of ht (by omega)
  refine V_aload_n 12 C dX9_roadOf_11 rfl rfl ?_
  refine V_get (k := 0) 15 C dX9_roadOf_12 rfl fcX9 tw228 (by decide) rfl w0 rfl ?_
  refine V_get (k := 7) 18 C dX9_roadOf_15 rfl fcX1 tw139 (by decide) rfl w1.1 rfl ?_
  refine V_iload_n 19 C dX9_roadOf_18 rfl rfl ?_
  refine V_aald (j := j1) 20 C dX9_roadOf_19 rfl hfR rfl rfl (by omega) (by omega) (hR _ (by omega)) ?_
  have hcell := cty_rd w1 hj1 i1
  refine V_astore_n 21 C dX9_roadOf_20 rfl (by decide) (L' := [(0, _), (1, _), (2, _), (3, _)]) rfl ?_
  refine V_iload_n 22 C dX9_roadOf_21 rfl rfl ?_
  by_cases hw : ix p2 3
  · skip
    obtain ⟨jw, hjw, rfl⟩ := ix_of hw (by omega)
    refine V_case 0 (fun c22_0 => ?_) (fun n22_0 => ?_)
    · refine V_tsI 48 C dX9_roadOf_22 c22_0 (by decide) (by decide) (by decide) rfl (by decide) ?_
      refine V_aload_n 49 C dX9_roadOf_48 rfl rfl ?_
      refine V_get (k := 0) 52 C dX9_roadOf_49 rfl fcX5 tw42 (by decide) rfl hcell rfl ?_
      refine V_x (V_ireturn C dX9_roadOf_52 rfl rfl (by omega) (by omega) ?_)
      exact (PoC_mk (by rw [if_pos ht, if_pos hw]) (by subst c22_0; rw [zn (by omega), zn (by omega)]; first | done | rfl) hS FX.rf)
    · skip
      refine V_case 1 (fun c22_1 => ?_) (fun n22_1 => ?_)
      · refine V_tsI 53 C dX9_roadOf_22 c22_1 (by decide) (by decide) (by decide) rfl (by decide) ?_
        refine V_aload_n 54 C dX9_roadOf_53 rfl rfl ?_
        refine V_get (k := 1) 57 C dX9_roadOf_54 rfl fcX5 tw46 (by decide) rfl hcell rfl ?_
        refine V_x (V_ireturn C dX9_roadOf_57 rfl rfl (by omega) (by omega) ?_)
        exact (PoC_mk (by rw [if_pos ht, if_pos hw]) (by subst c22_1; rw [zn (by omega), zn (by omega)]; first | done | rfl) hS FX.rf)
      · skip
        refine V_case 2 (fun c22_2 => ?_) (fun n22_2 => ?_)
        · refine V_tsI 58 C dX9_roadOf_22 c22_2 (by decide) (by decide) (by decide) rfl (by decide) ?_
          refine V_aload_n 59 C dX9_roadOf_58 rfl rfl ?_
          refine V_get (k := 2) 62 C dX9_roadOf_59 rfl fcX5 tw50 (by decide) rfl hcell rfl ?_
          refine V_x (V_ireturn C dX9_roadOf_62 rfl rfl (by omega) (by omega) ?_)
          exact (PoC_mk (by rw [if_pos ht, if_pos hw]) (by subst c22_2; rw [zn (by omega), zn (by omega)]; first | done | rfl) hS FX.rf)
        · skip
          exfalso
          omega
  · skip
    refine V_tableOut 63 C dX9_roadOf_22 (by unfold ix at hw; omega) (by decide) ?_
    exact V_throwS C hl hE thIA (show (145, "what is not 0 to 2") ∈ strL from by decide +kernel) dX9_roadOf_63 dX9_roadOf_66 dX9_roadOf_67 dX9_roadOf_69 dX9_roadOf_72 (by decide) ⟨by omega, by omega⟩ (Nat.le_of_ble_eq_true rfl) (PxC_mk 2 (by rw [if_pos ht, if_neg hw]) (by decide) rfl hS FX.rf)

theorem dX9_runnerOf_0 : decode cX9_runnerOf 0 = .ok (.aload_n 0, 1) := by decide +kernel
theorem dX9_runnerOf_1 : decode cX9_runnerOf 1 = .ok (.getfield 10, 3) := by decide +kernel
theorem dX9_runnerOf_4 : decode cX9_runnerOf 4 = .ok (.iload_n 1, 1) := by decide +kernel
theorem dX9_runnerOf_5 : decode cX9_runnerOf 5 = .ok (.invokevirtual 147, 3) := by decide +kernel
theorem dX9_runnerOf_8 : decode cX9_runnerOf 8 = .ok (.invokestatic 126, 3) := by decide +kernel
theorem dX9_runnerOf_11 : decode cX9_runnerOf 11 = .ok (.aload_n 0, 1) := by decide +kernel
theorem dX9_runnerOf_12 : decode cX9_runnerOf 12 = .ok (.getfield 10, 3) := by decide +kernel
theorem dX9_runnerOf_15 : decode cX9_runnerOf 15 = .ok (.getfield 150, 3) := by decide +kernel
theorem dX9_runnerOf_18 : decode cX9_runnerOf 18 = .ok (.iload_n 1, 1) := by decide +kernel
theorem dX9_runnerOf_19 : decode cX9_runnerOf 19 = .ok (.aaload, 1) := by decide +kernel
theorem dX9_runnerOf_20 : decode cX9_runnerOf 20 = .ok (.astore_n 3, 1) := by decide +kernel
theorem dX9_runnerOf_21 : decode cX9_runnerOf 21 = .ok (.iload_n 2, 1) := by decide +kernel
theorem dX9_runnerOf_22 : decode cX9_runnerOf 22 = .ok (.tableswitch 54 0 3 #[30, 35, 40, 49], 30) := by decide +kernel
theorem dX9_runnerOf_52 : decode cX9_runnerOf 52 = .ok (.aload_n 3, 1) := by decide +kernel
theorem dX9_runnerOf_53 : decode cX9_runnerOf 53 = .ok (.getfield 154, 3) := by decide +kernel
theorem dX9_runnerOf_56 : decode cX9_runnerOf 56 = .ok (.ireturn, 1) := by decide +kernel
theorem dX9_runnerOf_57 : decode cX9_runnerOf 57 = .ok (.aload_n 3, 1) := by decide +kernel
theorem dX9_runnerOf_58 : decode cX9_runnerOf 58 = .ok (.getfield 159, 3) := by decide +kernel
theorem dX9_runnerOf_61 : decode cX9_runnerOf 61 = .ok (.ireturn, 1) := by decide +kernel
theorem dX9_runnerOf_62 : decode cX9_runnerOf 62 = .ok (.aload_n 0, 1) := by decide +kernel
theorem dX9_runnerOf_63 : decode cX9_runnerOf 63 = .ok (.getfield 10, 3) := by decide +kernel
theorem dX9_runnerOf_66 : decode cX9_runnerOf 66 = .ok (.iload_n 1, 1) := by decide +kernel
theorem dX9_runnerOf_67 : decode cX9_runnerOf 67 = .ok (.invokevirtual 162, 3) := by decide +kernel
theorem dX9_runnerOf_70 : decode cX9_runnerOf 70 = .ok (.ireturn, 1) := by decide +kernel
theorem dX9_runnerOf_71 : decode cX9_runnerOf 71 = .ok (.aload_n 3, 1) := by decide +kernel
theorem dX9_runnerOf_72 : decode cX9_runnerOf 72 = .ok (.getfield 166, 3) := by decide +kernel
theorem dX9_runnerOf_75 : decode cX9_runnerOf 75 = .ok (.ireturn, 1) := by decide +kernel
theorem dX9_runnerOf_76 : decode cX9_runnerOf 76 = .ok (.new 117, 3) := by decide +kernel
theorem dX9_runnerOf_79 : decode cX9_runnerOf 79 = .ok (.dup, 1) := by decide +kernel
theorem dX9_runnerOf_80 : decode cX9_runnerOf 80 = .ok (.ldc 169, 2) := by decide +kernel
theorem dX9_runnerOf_82 : decode cX9_runnerOf 82 = .ok (.invokespecial 121, 3) := by decide +kernel
theorem dX9_runnerOf_85 : decode cX9_runnerOf 85 = .ok (.athrow, 1) := by decide +kernel
set_option maxRecDepth 100000 in
set_option maxHeartbeats 4000000 in
theorem c_X9_runnerOf (l : Launch) (G : GT) (n : Nat) (h : AH) (hl : l.stackTraces = false) (x : Nat) (y : Nat → Nat) (k : Nat) (D S : Nat → Nat → Nat) (sv : Nat → Bool) (N : Nat) (T : Nat → Nat) (hS : SysC x y k D S sv N T h) (hI : SI y k D S sv N T) (p1 : Int32) (p2 : Int32) : CX l yX9_runnerOf cX9_runnerOf 4 (some .int) 7 4 24 G n h [.ref x, .int p1, .int p2] (PoC x h (if ix p1 (y 2) then (if ix p2 4 then 0 else 2) else 1) (nI (qRunner y (z p1) (z p2))) y k D S sv N T) (PxC x h (if ix p1 (y 2) then (if ix p2 4 then 0 else 2) else 1) [ioE, iaE] y k D S sv N T) := by
  have NE := NO_eq
  obtain ⟨w0, w1, ⟨z2, w2⟩, ⟨fi, w3⟩, ⟨pf, pg, w4⟩, ⟨tp, tlt, tf, tg, w5⟩, ⟨f6, w6, v6⟩, w7, w8, ⟨g9, w9, v9⟩⟩ := id hS
  obtain ⟨hIy, hk14, hID, hIS, hN, hT⟩ := id hI
  obtain ⟨⟨i0, i1, i2, i3, i4⟩, iR, iU, iM, iS⟩ := id hIy
  obtain ⟨yob, ⟨fR, hfR, hR⟩, ⟨fU, hfU, hU⟩, ⟨fS, hfS, hSS⟩, ⟨fM, hfM, hM⟩, -, -, -⟩ := id w1
  refine CX_of mX9_runnerOf.1 (Nat.le_of_ble_eq_true rfl) ?_
  intro p₀ e₀ s₀ m₀ as₀ bl₀ me₀ c₀ C hE
  refine V_Le (L' := [(0, .ref x), (1, .int p1), (2, .int p2)]) rfl ?_
  refine V_aload_n 1 C dX9_runnerOf_0 rfl rfl ?_
  refine V_get (k := 0) 4 C dX9_runnerOf_1 rfl fcX9 tw228 (by decide) rfl w0 rfl ?_
  refine V_iload_n 5 C dX9_runnerOf_4 rfl rfl ?_
  refine V_callV 8 C dX9_runnerOf_5 rfl mX1_hasRunner tw601 fcX1 w1.1 (c_X1_hasRunner l G _ _ (x + 1) y w1 hIy p1) rfl rfl (by decide) ⟨by omega, by omega⟩ (Nat.le_of_ble_eq_true rfl) ?_
  rintro _ _ _ ⟨rfl, rfl, rfl⟩
  refine V_callSX 11 C hE dX9_runnerOf_8 rfl mX9_requireThere tw573 (c_X9_requireThere l G _ _ hl _ bp_le) rfl rfl (by decide) ⟨by omega, by omega⟩ (Nat.le_of_ble_eq_true rfl) (fun _ _ e => by obtain ⟨rfl, e2, rfl⟩ := e; exact PxC_mk 1 (if_neg (bp_0.mp e2)) (by decide) rfl hS FX.rf) ?_
  rintro _ _ _ ⟨rfl, hb8, rfl, rfl⟩
  have ht : ix p1 (y 2) := bp_1.mp (by omega)
  obtain ⟨j1, hj1, rfl⟩ := ix_of ht (by omega)
  refine V_aload_n 12 C dX9_runnerOf_11 rfl rfl ?_
  refine V_get (k := 0) 15 C dX9_runnerOf_12 rfl fcX9 tw228 (by decide) rfl w0 rfl ?_
  refine V_get (k := 8) 18 C dX9_runnerOf_15 rfl fcX1 tw142 (by decide) rfl w1.1 rfl ?_
  refine V_iload_n 19 C dX9_runnerOf_18 rfl rfl ?_
  refine V_aald (j := j1) 20 C dX9_runnerOf_19 rfl hfU rfl rfl (by omega) (by omega) (hU _ (by omega)) ?_
  have hcell := cty_ru w1 hj1 i2
  refine V_astore_n 21 C dX9_runnerOf_20 rfl (by decide) (L' := [(0, _), (1, _), (2, _), (3, _)]) rfl ?_
  refine V_iload_n 22 C dX9_runnerOf_21 rfl rfl ?_
  by_cases hw : ix p2 4
  · skip
    obtain ⟨jw, hjw, rfl⟩ := ix_of hw (by omega)
    refine V_case 0 (fun c22_0 => ?_) (fun n22_0 => ?_)
    · refine V_tsI 52 C dX9_runnerOf_22 c22_0 (by decide) (by decide) (by decide) rfl (by decide) ?_
      refine V_aload_n 53 C dX9_runnerOf_52 rfl rfl ?_
      refine V_get (k := 0) 56 C dX9_runnerOf_53 rfl fcX6 tw67 (by decide) rfl hcell rfl ?_
      refine V_x (V_ireturn C dX9_runnerOf_56 rfl rfl (by omega) (by omega) ?_)
      exact (PoC_mk (by rw [if_pos ht, if_pos hw]) (by subst c22_0; rw [zn (by omega), zn (by omega)]; first | done | rfl) hS FX.rf)
    · skip
      refine V_case 1 (fun c22_1 => ?_) (fun n22_1 => ?_)
      · refine V_tsI 57 C dX9_runnerOf_22 c22_1 (by decide) (by decide) (by decide) rfl (by decide) ?_
        refine V_aload_n 58 C dX9_runnerOf_57 rfl rfl ?_
        refine V_get (k := 1) 61 C dX9_runnerOf_58 rfl fcX6 tw70 (by decide) rfl hcell rfl ?_
        refine V_x (V_ireturn C dX9_runnerOf_61 rfl rfl (by omega) (by omega) ?_)
        exact (PoC_mk (by rw [if_pos ht, if_pos hw]) (by subst c22_1; rw [zn (by omega), zn (by omega)]; first | done | rfl) hS FX.rf)
      · skip
        refine V_case 2 (fun c22_2 => ?_) (fun n22_2 => ?_)
        · refine V_tsI 62 C dX9_runnerOf_22 c22_2 (by decide) (by decide) (by decide) rfl (by decide) ?_
          refine V_aload_n 63 C dX9_runnerOf_62 rfl rfl ?_
          refine V_get (k := 0) 66 C dX9_runnerOf_63 rfl fcX9 tw228 (by decide) rfl w0 rfl ?_
          refine V_iload_n 67 C dX9_runnerOf_66 rfl rfl ?_
          refine V_callV 70 C dX9_runnerOf_67 rfl mX1_carriedBy tw602 fcX1 w1.1 (c_X1_carriedBy l G _ _ (x + 1) y w1 hIy j1 (by omega)) rfl rfl (by decide) ⟨by omega, by omega⟩ (Nat.le_of_ble_eq_true rfl) ?_
          rintro _ _ _ ⟨rfl, rfl, rfl⟩
          refine V_x (V_ireturn C dX9_runnerOf_70 rfl rfl (by omega) (by omega) ?_)
          exact (PoC_mk (by rw [if_pos ht, if_pos hw]) (by subst c22_2; rw [zn (by omega), zn (by omega)]; first | done | rfl) hS FX.rf)
        · skip
          refine V_case 3 (fun c22_3 => ?_) (fun n22_3 => ?_)
          · refine V_tsI 71 C dX9_runnerOf_22 c22_3 (by decide) (by decide) (by decide) rfl (by decide) ?_
            refine V_aload_n 72 C dX9_runnerOf_71 rfl rfl ?_
            refine V_get (k := 2) 75 C dX9_runnerOf_72 rfl fcX6 tw73 (by decide) rfl hcell rfl ?_
            refine V_x (V_ireturn C dX9_runnerOf_75 rfl rfl (by omega) (by omega) ?_)
            exact (PoC_mk (by rw [if_pos ht, if_pos hw]) (by subst c22_3; rw [zn (by omega), zn (by omega)]; first | done | rfl) hS FX.rf)
          · skip
            exfalso
            omega
  · skip
    refine V_tableOut 76 C dX9_runnerOf_22 (by unfold ix at hw; omega) (by decide) ?_
    exact V_throwS C hl hE thIA (show (169, "what is not 0 to 3") ∈ strL from by decide +kernel) dX9_runnerOf_76 dX9_runnerOf_79 dX9_runnerOf_80 dX9_runnerOf_82 dX9_runnerOf_85 (by decide) ⟨by omega, by omega⟩ (Nat.le_of_ble_eq_true rfl) (PxC_mk 2 (by rw [if_pos ht, if_neg hw]) (by decide) rfl hS FX.rf)

theorem dX9_sheetOf_0 : decode cX9_sheetOf 0 = .ok (.aload_n 0, 1) := by decide +kernel
theorem dX9_sheetOf_1 : decode cX9_sheetOf 1 = .ok (.getfield 10, 3) := by decide +kernel
theorem dX9_sheetOf_4 : decode cX9_sheetOf 4 = .ok (.iload_n 1, 1) := by decide +kernel
theorem dX9_sheetOf_5 : decode cX9_sheetOf 5 = .ok (.invokevirtual 171, 3) := by decide +kernel
theorem dX9_sheetOf_8 : decode cX9_sheetOf 8 = .ok (.invokestatic 126, 3) := by decide +kernel
theorem dX9_sheetOf_11 : decode cX9_sheetOf 11 = .ok (.aload_n 0, 1) := by decide +kernel
theorem dX9_sheetOf_12 : decode cX9_sheetOf 12 = .ok (.getfield 10, 3) := by decide +kernel
theorem dX9_sheetOf_15 : decode cX9_sheetOf 15 = .ok (.getfield 174, 3) := by decide +kernel
theorem dX9_sheetOf_18 : decode cX9_sheetOf 18 = .ok (.iload_n 1, 1) := by decide +kernel
theorem dX9_sheetOf_19 : decode cX9_sheetOf 19 = .ok (.aaload, 1) := by decide +kernel
theorem dX9_sheetOf_20 : decode cX9_sheetOf 20 = .ok (.astore_n 3, 1) := by decide +kernel
theorem dX9_sheetOf_21 : decode cX9_sheetOf 21 = .ok (.iload_n 2, 1) := by decide +kernel
theorem dX9_sheetOf_22 : decode cX9_sheetOf 22 = .ok (.tableswitch 99 0 7 #[46, 51, 56, 61, 66, 75, 85, 90], 46) := by decide +kernel
theorem dX9_sheetOf_68 : decode cX9_sheetOf 68 = .ok (.aload_n 3, 1) := by decide +kernel
theorem dX9_sheetOf_69 : decode cX9_sheetOf 69 = .ok (.getfield 178, 3) := by decide +kernel
theorem dX9_sheetOf_72 : decode cX9_sheetOf 72 = .ok (.ireturn, 1) := by decide +kernel
theorem dX9_sheetOf_73 : decode cX9_sheetOf 73 = .ok (.aload_n 3, 1) := by decide +kernel
theorem dX9_sheetOf_74 : decode cX9_sheetOf 74 = .ok (.getfield 183, 3) := by decide +kernel
theorem dX9_sheetOf_77 : decode cX9_sheetOf 77 = .ok (.ireturn, 1) := by decide +kernel
theorem dX9_sheetOf_78 : decode cX9_sheetOf 78 = .ok (.aload_n 3, 1) := by decide +kernel
theorem dX9_sheetOf_79 : decode cX9_sheetOf 79 = .ok (.getfield 186, 3) := by decide +kernel
theorem dX9_sheetOf_82 : decode cX9_sheetOf 82 = .ok (.ireturn, 1) := by decide +kernel
theorem dX9_sheetOf_83 : decode cX9_sheetOf 83 = .ok (.aload_n 3, 1) := by decide +kernel
theorem dX9_sheetOf_84 : decode cX9_sheetOf 84 = .ok (.getfield 189, 3) := by decide +kernel
theorem dX9_sheetOf_87 : decode cX9_sheetOf 87 = .ok (.ireturn, 1) := by decide +kernel
theorem dX9_sheetOf_88 : decode cX9_sheetOf 88 = .ok (.aload_n 0, 1) := by decide +kernel
theorem dX9_sheetOf_89 : decode cX9_sheetOf 89 = .ok (.getfield 10, 3) := by decide +kernel
theorem dX9_sheetOf_92 : decode cX9_sheetOf 92 = .ok (.iload_n 1, 1) := by decide +kernel
theorem dX9_sheetOf_93 : decode cX9_sheetOf 93 = .ok (.invokevirtual 192, 3) := by decide +kernel
theorem dX9_sheetOf_96 : decode cX9_sheetOf 96 = .ok (.ireturn, 1) := by decide +kernel
theorem dX9_sheetOf_97 : decode cX9_sheetOf 97 = .ok (.aload_n 0, 1) := by decide +kernel
theorem dX9_sheetOf_98 : decode cX9_sheetOf 98 = .ok (.getfield 10, 3) := by decide +kernel
theorem dX9_sheetOf_101 : decode cX9_sheetOf 101 = .ok (.iload_n 1, 1) := by decide +kernel
theorem dX9_sheetOf_102 : decode cX9_sheetOf 102 = .ok (.iconst 0, 1) := by decide +kernel
theorem dX9_sheetOf_103 : decode cX9_sheetOf 103 = .ok (.invokevirtual 195, 3) := by decide +kernel
theorem dX9_sheetOf_106 : decode cX9_sheetOf 106 = .ok (.ireturn, 1) := by decide +kernel
theorem dX9_sheetOf_107 : decode cX9_sheetOf 107 = .ok (.aload_n 3, 1) := by decide +kernel
theorem dX9_sheetOf_108 : decode cX9_sheetOf 108 = .ok (.getfield 199, 3) := by decide +kernel
theorem dX9_sheetOf_111 : decode cX9_sheetOf 111 = .ok (.ireturn, 1) := by decide +kernel
theorem dX9_sheetOf_112 : decode cX9_sheetOf 112 = .ok (.aload_n 0, 1) := by decide +kernel
theorem dX9_sheetOf_113 : decode cX9_sheetOf 113 = .ok (.getfield 10, 3) := by decide +kernel
theorem dX9_sheetOf_116 : decode cX9_sheetOf 116 = .ok (.iload_n 1, 1) := by decide +kernel
theorem dX9_sheetOf_117 : decode cX9_sheetOf 117 = .ok (.invokevirtual 202, 3) := by decide +kernel
theorem dX9_sheetOf_120 : decode cX9_sheetOf 120 = .ok (.ireturn, 1) := by decide +kernel
theorem dX9_sheetOf_121 : decode cX9_sheetOf 121 = .ok (.new 117, 3) := by decide +kernel
theorem dX9_sheetOf_124 : decode cX9_sheetOf 124 = .ok (.dup, 1) := by decide +kernel
theorem dX9_sheetOf_125 : decode cX9_sheetOf 125 = .ok (.ldc 205, 2) := by decide +kernel
theorem dX9_sheetOf_127 : decode cX9_sheetOf 127 = .ok (.invokespecial 121, 3) := by decide +kernel
theorem dX9_sheetOf_130 : decode cX9_sheetOf 130 = .ok (.athrow, 1) := by decide +kernel
set_option maxRecDepth 100000 in
set_option maxHeartbeats 4000000 in
theorem c_X9_sheetOf (l : Launch) (G : GT) (n : Nat) (h : AH) (hl : l.stackTraces = false) (x : Nat) (y : Nat → Nat) (k : Nat) (D S : Nat → Nat → Nat) (sv : Nat → Bool) (N : Nat) (T : Nat → Nat) (hS : SysC x y k D S sv N T h) (hI : SI y k D S sv N T) (p1 : Int32) (p2 : Int32) : CX l yX9_sheetOf cX9_sheetOf 4 (some .int) 7 4 24 G n h [.ref x, .int p1, .int p2] (PoC x h (if ix p1 (y 4) then (if ix p2 8 then 0 else 2) else 1) (nI (qSheet y (z p1) (z p2))) y k D S sv N T) (PxC x h (if ix p1 (y 4) then (if ix p2 8 then 0 else 2) else 1) [ioE, iaE] y k D S sv N T) := by
  have NE := NO_eq
  obtain ⟨w0, w1, ⟨z2, w2⟩, ⟨fi, w3⟩, ⟨pf, pg, w4⟩, ⟨tp, tlt, tf, tg, w5⟩, ⟨f6, w6, v6⟩, w7, w8, ⟨g9, w9, v9⟩⟩ := id hS
  obtain ⟨hIy, hk14, hID, hIS, hN, hT⟩ := id hI
  obtain ⟨⟨i0, i1, i2, i3, i4⟩, iR, iU, iM, iS⟩ := id hIy
  obtain ⟨yob, ⟨fR, hfR, hR⟩, ⟨fU, hfU, hU⟩, ⟨fS, hfS, hSS⟩, ⟨fM, hfM, hM⟩, -, -, -⟩ := id w1
  refine CX_of mX9_sheetOf.1 (Nat.le_of_ble_eq_true rfl) ?_
  intro p₀ e₀ s₀ m₀ as₀ bl₀ me₀ c₀ C hE
  refine V_Le (L' := [(0, .ref x), (1, .int p1), (2, .int p2)]) rfl ?_
  refine V_aload_n 1 C dX9_sheetOf_0 rfl rfl ?_
  refine V_get (k := 0) 4 C dX9_sheetOf_1 rfl fcX9 tw228 (by decide) rfl w0 rfl ?_
  refine V_iload_n 5 C dX9_sheetOf_4 rfl rfl ?_
  refine V_callV 8 C dX9_sheetOf_5 rfl mX1_hasSheet tw611 fcX1 w1.1 (c_X1_hasSheet l G _ _ (x + 1) y w1 hIy p1) rfl rfl (by decide) ⟨by omega, by omega⟩ (Nat.le_of_ble_eq_true rfl) ?_
  rintro _ _ _ ⟨rfl, rfl, rfl⟩
  refine V_callSX 11 C hE dX9_sheetOf_8 rfl mX9_requireThere tw573 (c_X9_requireThere l G _ _ hl _ bp_le) rfl rfl (by decide) ⟨by omega, by omega⟩ (Nat.le_of_ble_eq_true rfl) (fun _ _ e => by obtain ⟨rfl, e2, rfl⟩ := e; exact PxC_mk 1 (if_neg (bp_0.mp e2)) (by decide) rfl hS FX.rf) ?_
  rintro _ _ _ ⟨rfl, hb8, rfl, rfl⟩
  have ht : ix p1 (y 4) := bp_1.mp (by omega)
  obtain ⟨j1, hj1, rfl⟩ := ix_of ht (by omega)
  refine V_aload_n 12 C dX9_sheetOf_11 rfl rfl ?_
  refine V_get (k := 0) 15 C dX9_sheetOf_12 rfl fcX9 tw228 (by decide) rfl w0 rfl ?_
  refine V_get (k := 10) 18 C dX9_sheetOf_15 rfl fcX1 tw147 (by decide) rfl w1.1 rfl ?_
  refine V_iload_n 19 C dX9_sheetOf_18 rfl rfl ?_
  refine V_aald (j := j1) 20 C dX9_sheetOf_19 rfl hfS rfl rfl (by omega) (by omega) (hSS _ (by omega)) ?_
  have hcell := cty_sh w1 hj1 i4
  refine V_astore_n 21 C dX9_sheetOf_20 rfl (by decide) (L' := [(0, _), (1, _), (2, _), (3, _)]) rfl ?_
  refine V_iload_n 22 C dX9_sheetOf_21 rfl rfl ?_
  by_cases hw : ix p2 8
  · skip
    obtain ⟨jw, hjw, rfl⟩ := ix_of hw (by omega)
    refine V_case 0 (fun c22_0 => ?_) (fun n22_0 => ?_)
    · refine V_tsI 68 C dX9_sheetOf_22 c22_0 (by decide) (by decide) (by decide) rfl (by decide) ?_
      refine V_aload_n 69 C dX9_sheetOf_68 rfl rfl ?_
      refine V_get (k := 0) 72 C dX9_sheetOf_69 rfl fcX8 tw90 (by decide) rfl hcell rfl ?_
      refine V_x (V_ireturn C dX9_sheetOf_72 rfl rfl (by omega) (by omega) ?_)
      exact (PoC_mk (by rw [if_pos ht, if_pos hw]) (by subst c22_0; rw [zn (by omega), zn (by omega)]; first | done | rfl) hS FX.rf)
    · skip
      refine V_case 1 (fun c22_1 => ?_) (fun n22_1 => ?_)
      · refine V_tsI 73 C dX9_sheetOf_22 c22_1 (by decide) (by decide) (by decide) rfl (by decide) ?_
        refine V_aload_n 74 C dX9_sheetOf_73 rfl rfl ?_
        refine V_get (k := 2) 77 C dX9_sheetOf_74 rfl fcX8 tw97 (by decide) rfl hcell rfl ?_
        refine V_x (V_ireturn C dX9_sheetOf_77 rfl rfl (by omega) (by omega) ?_)
        exact (PoC_mk (by rw [if_pos ht, if_pos hw]) (by subst c22_1; rw [zn (by omega), zn (by omega)]; first | done | rfl) hS FX.rf)
      · skip
        refine V_case 2 (fun c22_2 => ?_) (fun n22_2 => ?_)
        · refine V_tsI 78 C dX9_sheetOf_22 c22_2 (by decide) (by decide) (by decide) rfl (by decide) ?_
          refine V_aload_n 79 C dX9_sheetOf_78 rfl rfl ?_
          refine V_get (k := 3) 82 C dX9_sheetOf_79 rfl fcX8 tw100 (by decide) rfl hcell rfl ?_
          refine V_x (V_ireturn C dX9_sheetOf_82 rfl rfl (by omega) (by omega) ?_)
          exact (PoC_mk (by rw [if_pos ht, if_pos hw]) (by subst c22_2; rw [zn (by omega), zn (by omega)]; first | done | rfl) hS FX.rf)
        · skip
          refine V_case 3 (fun c22_3 => ?_) (fun n22_3 => ?_)
          · refine V_tsI 83 C dX9_sheetOf_22 c22_3 (by decide) (by decide) (by decide) rfl (by decide) ?_
            refine V_aload_n 84 C dX9_sheetOf_83 rfl rfl ?_
            refine V_get (k := 4) 87 C dX9_sheetOf_84 rfl fcX8 tw104 (by decide) rfl hcell rfl ?_
            refine V_x (V_ireturn C dX9_sheetOf_87 rfl rfl (by omega) (by omega) ?_)
            exact (PoC_mk (by rw [if_pos ht, if_pos hw]) (by subst c22_3; rw [zn (by omega), zn (by omega)]; first | done | rfl) hS FX.rf)
          · skip
            refine V_case 4 (fun c22_4 => ?_) (fun n22_4 => ?_)
            · refine V_tsI 88 C dX9_sheetOf_22 c22_4 (by decide) (by decide) (by decide) rfl (by decide) ?_
              refine V_aload_n 89 C dX9_sheetOf_88 rfl rfl ?_
              refine V_get (k := 0) 92 C dX9_sheetOf_89 rfl fcX9 tw228 (by decide) rfl w0 rfl ?_
              refine V_iload_n 93 C dX9_sheetOf_92 rfl rfl ?_
              refine V_callV 96 C dX9_sheetOf_93 rfl mX1_placeOf tw612 fcX1 w1.1 (c_X1_placeOf l G _ _ (x + 1) y w1 hIy j1 hj1) rfl rfl (by decide) ⟨by omega, by omega⟩ (Nat.le_of_ble_eq_true rfl) ?_
              rintro _ _ _ ⟨rfl, rfl, rfl⟩
              refine V_x (V_ireturn C dX9_sheetOf_96 rfl rfl (by omega) (by omega) ?_)
              exact (PoC_mk (by rw [if_pos ht, if_pos hw]) (by subst c22_4; rw [zn (by omega), zn (by omega)]; first | done | rfl) hS FX.rf)
            · skip
              refine V_case 5 (fun c22_5 => ?_) (fun n22_5 => ?_)
              · refine V_tsI 97 C dX9_sheetOf_22 c22_5 (by decide) (by decide) (by decide) rfl (by decide) ?_
                refine V_aload_n 98 C dX9_sheetOf_97 rfl rfl ?_
                refine V_get (k := 0) 101 C dX9_sheetOf_98 rfl fcX9 tw228 (by decide) rfl w0 rfl ?_
                refine V_iload_n 102 C dX9_sheetOf_101 rfl rfl ?_
                refine V_iconst 103 C dX9_sheetOf_102 rfl ic0 ?_
                refine V_callV 106 C dX9_sheetOf_103 rfl mX1_errorsAfter tw613 fcX1 w1.1 (c_X1_errorsAfter l G _ _ (x + 1) y w1 hIy j1 0 hj1 (by omega)) rfl rfl (by decide) ⟨by omega, by omega⟩ (Nat.le_of_ble_eq_true rfl) ?_
                rintro _ _ _ ⟨rfl, rfl, rfl⟩
                refine V_x (V_ireturn C dX9_sheetOf_106 rfl rfl (by omega) (by omega) ?_)
                exact (PoC_mk (by rw [if_pos ht, if_pos hw]) (by subst c22_5; rw [zn (by omega), zn (by omega)]; first | done | rfl) hS FX.rf)
              · skip
                refine V_case 6 (fun c22_6 => ?_) (fun n22_6 => ?_)
                · refine V_tsI 107 C dX9_sheetOf_22 c22_6 (by decide) (by decide) (by decide) rfl (by decide) ?_
                  refine V_aload_n 108 C dX9_sheetOf_107 rfl rfl ?_
                  refine V_get (k := 1) 111 C dX9_sheetOf_108 rfl fcX8 tw93 (by decide) rfl hcell rfl ?_
                  refine V_x (V_ireturn C dX9_sheetOf_111 rfl rfl (by omega) (by omega) ?_)
                  exact (PoC_mk (by rw [if_pos ht, if_pos hw]) (by subst c22_6; rw [zn (by omega), zn (by omega)]; first | done | rfl) hS FX.rf)
                · skip
                  refine V_case 7 (fun c22_7 => ?_) (fun n22_7 => ?_)
                  · refine V_tsI 112 C dX9_sheetOf_22 c22_7 (by decide) (by decide) (by decide) rfl (by decide) ?_
                    refine V_aload_n 113 C dX9_sheetOf_112 rfl rfl ?_
                    refine V_get (k := 0) 116 C dX9_sheetOf_113 rfl fcX9 tw228 (by decide) rfl w0 rfl ?_
                    refine V_iload_n 117 C dX9_sheetOf_116 rfl rfl ?_
                    refine V_callV 120 C dX9_sheetOf_117 rfl mX1_readOf tw614 fcX1 w1.1 (c_X1_readOf l G _ _ (x + 1) y w1 hIy j1 hj1) rfl rfl (by decide) ⟨by omega, by omega⟩ (Nat.le_of_ble_eq_true rfl) ?_
                    rintro _ _ _ ⟨rfl, rfl, rfl⟩
                    refine V_x (V_ireturn C dX9_sheetOf_120 rfl rfl (by omega) (by omega) ?_)
                    exact (PoC_mk (by rw [if_pos ht, if_pos hw]) (by subst c22_7; rw [zn (by omega), zn (by omega)]; first | done | rfl) hS FX.rf)
                  · skip
                    exfalso
                    omega
  · skip
    refine V_tableOut 121 C dX9_sheetOf_22 (by unfold ix at hw; omega) (by decide) ?_
    exact V_throwS C hl hE thIA (show (205, "what is not 0 to 7") ∈ strL from by decide +kernel) dX9_sheetOf_121 dX9_sheetOf_124 dX9_sheetOf_125 dX9_sheetOf_127 dX9_sheetOf_130 (by decide) ⟨by omega, by omega⟩ (Nat.le_of_ble_eq_true rfl) (PxC_mk 2 (by rw [if_pos ht, if_neg hw]) (by decide) rfl hS FX.rf)

theorem dX9_message_0 : decode cX9_message 0 = .ok (.aload_n 0, 1) := by decide +kernel
theorem dX9_message_1 : decode cX9_message 1 = .ok (.getfield 10, 3) := by decide +kernel
theorem dX9_message_4 : decode cX9_message 4 = .ok (.iload_n 1, 1) := by decide +kernel
theorem dX9_message_5 : decode cX9_message 5 = .ok (.invokevirtual 207, 3) := by decide +kernel
theorem dX9_message_8 : decode cX9_message 8 = .ok (.invokestatic 126, 3) := by decide +kernel
theorem dX9_message_11 : decode cX9_message 11 = .ok (.aload_n 0, 1) := by decide +kernel
theorem dX9_message_12 : decode cX9_message 12 = .ok (.getfield 10, 3) := by decide +kernel
theorem dX9_message_15 : decode cX9_message 15 = .ok (.getfield 210, 3) := by decide +kernel
theorem dX9_message_18 : decode cX9_message 18 = .ok (.iload_n 1, 1) := by decide +kernel
theorem dX9_message_19 : decode cX9_message 19 = .ok (.iaload, 1) := by decide +kernel
theorem dX9_message_20 : decode cX9_message 20 = .ok (.ireturn, 1) := by decide +kernel
set_option maxRecDepth 100000 in
set_option maxHeartbeats 4000000 in
theorem c_X9_message (l : Launch) (G : GT) (n : Nat) (h : AH) (hl : l.stackTraces = false) (x : Nat) (y : Nat → Nat) (k : Nat) (D S : Nat → Nat → Nat) (sv : Nat → Bool) (N : Nat) (T : Nat → Nat) (hS : SysC x y k D S sv N T h) (hI : SI y k D S sv N T) (p1 : Int32) : CX l yX9_message cX9_message 2 (some .int) 7 4 24 G n h [.ref x, .int p1] (PoC x h (if ix p1 (y 3) then 0 else 1) (nI (y (52 + z p1))) y k D S sv N T) (PxC x h (if ix p1 (y 3) then 0 else 1) [ioE] y k D S sv N T) := by
  have NE := NO_eq
  obtain ⟨w0, w1, ⟨z2, w2⟩, ⟨fi, w3⟩, ⟨pf, pg, w4⟩, ⟨tp, tlt, tf, tg, w5⟩, ⟨f6, w6, v6⟩, w7, w8, ⟨g9, w9, v9⟩⟩ := id hS
  obtain ⟨hIy, hk14, hID, hIS, hN, hT⟩ := id hI
  obtain ⟨⟨i0, i1, i2, i3, i4⟩, iR, iU, iM, iS⟩ := id hIy
  obtain ⟨yob, ⟨fR, hfR, hR⟩, ⟨fU, hfU, hU⟩, ⟨fS, hfS, hSS⟩, ⟨fM, hfM, hM⟩, -, -, -⟩ := id w1
  refine CX_of mX9_message.1 (Nat.le_of_ble_eq_true rfl) ?_
  intro p₀ e₀ s₀ m₀ as₀ bl₀ me₀ c₀ C hE
  refine V_Le (L' := [(0, .ref x), (1, .int p1)]) rfl ?_
  refine V_aload_n 1 C dX9_message_0 rfl rfl ?_
  refine V_get (k := 0) 4 C dX9_message_1 rfl fcX9 tw228 (by decide) rfl w0 rfl ?_
  refine V_iload_n 5 C dX9_message_4 rfl rfl ?_
  refine V_callV 8 C dX9_message_5 rfl mX1_hasMessage tw623 fcX1 w1.1 (c_X1_hasMessage l G _ _ (x + 1) y w1 hIy p1) rfl rfl (by decide) ⟨by omega, by omega⟩ (Nat.le_of_ble_eq_true rfl) ?_
  rintro _ _ _ ⟨rfl, rfl, rfl⟩
  refine V_callSX 11 C hE dX9_message_8 rfl mX9_requireThere tw573 (c_X9_requireThere l G _ _ hl _ bp_le) rfl rfl (by decide) ⟨by omega, by omega⟩ (Nat.le_of_ble_eq_true rfl) (fun _ _ e => by obtain ⟨rfl, e2, rfl⟩ := e; exact PxC_mk 1 (if_neg (bp_0.mp e2)) (by decide) rfl hS FX.rf) ?_
  rintro _ _ _ ⟨rfl, hb8, rfl, rfl⟩
  have ht : ix p1 (y 3) := bp_1.mp (by omega)
  obtain ⟨j1, hj1, rfl⟩ := ix_of ht (by omega)
  refine V_aload_n 12 C dX9_message_11 rfl rfl ?_
  refine V_get (k := 0) 15 C dX9_message_12 rfl fcX9 tw228 (by decide) rfl w0 rfl ?_
  refine V_get (k := 9) 18 C dX9_message_15 rfl fcX1 tw144 (by decide) rfl w1.1 rfl ?_
  refine V_iload_n 19 C dX9_message_18 rfl rfl ?_
  refine V_iald (j := j1) 20 C dX9_message_19 rfl hfM rfl (by omega) (by omega) ?_
  rw [hM j1 hj1]
  refine V_x (V_ireturn C dX9_message_20 rfl rfl (by omega) (by omega) ?_)
  exact (PoC_mk (if_pos ht) (by rw [zn (by omega)]) hS FX.rf)

theorem dX9_why_0 : decode cX9_why 0 = .ok (.aload_n 0, 1) := by decide +kernel
theorem dX9_why_1 : decode cX9_why 1 = .ok (.getfield 10, 3) := by decide +kernel
theorem dX9_why_4 : decode cX9_why 4 = .ok (.iload_n 1, 1) := by decide +kernel
theorem dX9_why_5 : decode cX9_why 5 = .ok (.invokevirtual 171, 3) := by decide +kernel
theorem dX9_why_8 : decode cX9_why 8 = .ok (.invokestatic 126, 3) := by decide +kernel
theorem dX9_why_11 : decode cX9_why 11 = .ok (.aload_n 0, 1) := by decide +kernel
theorem dX9_why_12 : decode cX9_why 12 = .ok (.getfield 10, 3) := by decide +kernel
theorem dX9_why_15 : decode cX9_why 15 = .ok (.iload_n 1, 1) := by decide +kernel
theorem dX9_why_16 : decode cX9_why 16 = .ok (.invokevirtual 264, 3) := by decide +kernel
theorem dX9_why_19 : decode cX9_why 19 = .ok (.ireturn, 1) := by decide +kernel
set_option maxRecDepth 100000 in
set_option maxHeartbeats 4000000 in
theorem c_X9_why (l : Launch) (G : GT) (n : Nat) (h : AH) (hl : l.stackTraces = false) (x : Nat) (y : Nat → Nat) (k : Nat) (D S : Nat → Nat → Nat) (sv : Nat → Bool) (N : Nat) (T : Nat → Nat) (hS : SysC x y k D S sv N T h) (hI : SI y k D S sv N T) (p1 : Int32) : CX l yX9_why cX9_why 2 (some .int) 7 4 24 G n h [.ref x, .int p1] (PoC x h (if ix p1 (y 4) then 0 else 1) (nI (crs y (z p1))) y k D S sv N T) (PxC x h (if ix p1 (y 4) then 0 else 1) [ioE] y k D S sv N T) := by
  have NE := NO_eq
  obtain ⟨w0, w1, ⟨z2, w2⟩, ⟨fi, w3⟩, ⟨pf, pg, w4⟩, ⟨tp, tlt, tf, tg, w5⟩, ⟨f6, w6, v6⟩, w7, w8, ⟨g9, w9, v9⟩⟩ := id hS
  obtain ⟨hIy, hk14, hID, hIS, hN, hT⟩ := id hI
  obtain ⟨⟨i0, i1, i2, i3, i4⟩, iR, iU, iM, iS⟩ := id hIy
  obtain ⟨yob, ⟨fR, hfR, hR⟩, ⟨fU, hfU, hU⟩, ⟨fS, hfS, hSS⟩, ⟨fM, hfM, hM⟩, -, -, -⟩ := id w1
  refine CX_of mX9_why.1 (Nat.le_of_ble_eq_true rfl) ?_
  intro p₀ e₀ s₀ m₀ as₀ bl₀ me₀ c₀ C hE
  refine V_Le (L' := [(0, .ref x), (1, .int p1)]) rfl ?_
  refine V_aload_n 1 C dX9_why_0 rfl rfl ?_
  refine V_get (k := 0) 4 C dX9_why_1 rfl fcX9 tw228 (by decide) rfl w0 rfl ?_
  refine V_iload_n 5 C dX9_why_4 rfl rfl ?_
  refine V_callV 8 C dX9_why_5 rfl mX1_hasSheet tw611 fcX1 w1.1 (c_X1_hasSheet l G _ _ (x + 1) y w1 hIy p1) rfl rfl (by decide) ⟨by omega, by omega⟩ (Nat.le_of_ble_eq_true rfl) ?_
  rintro _ _ _ ⟨rfl, rfl, rfl⟩
  refine V_callSX 11 C hE dX9_why_8 rfl mX9_requireThere tw573 (c_X9_requireThere l G _ _ hl _ bp_le) rfl rfl (by decide) ⟨by omega, by omega⟩ (Nat.le_of_ble_eq_true rfl) (fun _ _ e => by obtain ⟨rfl, e2, rfl⟩ := e; exact PxC_mk 1 (if_neg (bp_0.mp e2)) (by decide) rfl hS FX.rf) ?_
  rintro _ _ _ ⟨rfl, hb8, rfl, rfl⟩
  have ht : ix p1 (y 4) := bp_1.mp (by omega)
  obtain ⟨j1, hj1, rfl⟩ := ix_of ht (by omega)
  refine V_aload_n 12 C dX9_why_11 rfl rfl ?_
  refine V_get (k := 0) 15 C dX9_why_12 rfl fcX9 tw228 (by decide) rfl w0 rfl ?_
  refine V_iload_n 16 C dX9_why_15 rfl rfl ?_
  refine V_callV 19 C dX9_why_16 rfl mX1_copyHindrance tw751 fcX1 w1.1 (c_X1_copyHindrance l G _ _ (x + 1) y w1 hIy j1 hj1) rfl rfl (by decide) ⟨by omega, by omega⟩ (Nat.le_of_ble_eq_true rfl) ?_
  rintro _ _ _ ⟨rfl, rfl, rfl⟩
  refine V_x (V_ireturn C dX9_why_19 rfl rfl (by omega) (by omega) ?_)
  exact (PoC_mk (if_pos ht) (by rw [zn (by omega)]) hS FX.rf)

theorem dX9_best_0 : decode cX9_best 0 = .ok (.aload_n 0, 1) := by decide +kernel
theorem dX9_best_1 : decode cX9_best 1 = .ok (.getfield 10, 3) := by decide +kernel
theorem dX9_best_4 : decode cX9_best 4 = .ok (.iload_n 1, 1) := by decide +kernel
theorem dX9_best_5 : decode cX9_best 5 = .ok (.invokevirtual 207, 3) := by decide +kernel
theorem dX9_best_8 : decode cX9_best 8 = .ok (.invokestatic 126, 3) := by decide +kernel
theorem dX9_best_11 : decode cX9_best 11 = .ok (.aload_n 0, 1) := by decide +kernel
theorem dX9_best_12 : decode cX9_best 12 = .ok (.getfield 10, 3) := by decide +kernel
theorem dX9_best_15 : decode cX9_best 15 = .ok (.iload_n 1, 1) := by decide +kernel
theorem dX9_best_16 : decode cX9_best 16 = .ok (.invokevirtual 281, 3) := by decide +kernel
theorem dX9_best_19 : decode cX9_best 19 = .ok (.ireturn, 1) := by decide +kernel
set_option maxRecDepth 100000 in
set_option maxHeartbeats 4000000 in
theorem c_X9_best (l : Launch) (G : GT) (n : Nat) (h : AH) (hl : l.stackTraces = false) (x : Nat) (y : Nat → Nat) (k : Nat) (D S : Nat → Nat → Nat) (sv : Nat → Bool) (N : Nat) (T : Nat → Nat) (hS : SysC x y k D S sv N T h) (hI : SI y k D S sv N T) (p1 : Int32) : CX l yX9_best cX9_best 2 (some .int) 7 4 24 G n h [.ref x, .int p1] (PoC x h (if ix p1 (y 3) then 0 else 1) (nI (bestk y (z p1) (y 4))) y k D S sv N T) (PxC x h (if ix p1 (y 3) then 0 else 1) [ioE] y k D S sv N T) := by
  have NE := NO_eq
  obtain ⟨w0, w1, ⟨z2, w2⟩, ⟨fi, w3⟩, ⟨pf, pg, w4⟩, ⟨tp, tlt, tf, tg, w5⟩, ⟨f6, w6, v6⟩, w7, w8, ⟨g9, w9, v9⟩⟩ := id hS
  obtain ⟨hIy, hk14, hID, hIS, hN, hT⟩ := id hI
  obtain ⟨⟨i0, i1, i2, i3, i4⟩, iR, iU, iM, iS⟩ := id hIy
  obtain ⟨yob, ⟨fR, hfR, hR⟩, ⟨fU, hfU, hU⟩, ⟨fS, hfS, hSS⟩, ⟨fM, hfM, hM⟩, -, -, -⟩ := id w1
  refine CX_of mX9_best.1 (Nat.le_of_ble_eq_true rfl) ?_
  intro p₀ e₀ s₀ m₀ as₀ bl₀ me₀ c₀ C hE
  refine V_Le (L' := [(0, .ref x), (1, .int p1)]) rfl ?_
  refine V_aload_n 1 C dX9_best_0 rfl rfl ?_
  refine V_get (k := 0) 4 C dX9_best_1 rfl fcX9 tw228 (by decide) rfl w0 rfl ?_
  refine V_iload_n 5 C dX9_best_4 rfl rfl ?_
  refine V_callV 8 C dX9_best_5 rfl mX1_hasMessage tw623 fcX1 w1.1 (c_X1_hasMessage l G _ _ (x + 1) y w1 hIy p1) rfl rfl (by decide) ⟨by omega, by omega⟩ (Nat.le_of_ble_eq_true rfl) ?_
  rintro _ _ _ ⟨rfl, rfl, rfl⟩
  refine V_callSX 11 C hE dX9_best_8 rfl mX9_requireThere tw573 (c_X9_requireThere l G _ _ hl _ bp_le) rfl rfl (by decide) ⟨by omega, by omega⟩ (Nat.le_of_ble_eq_true rfl) (fun _ _ e => by obtain ⟨rfl, e2, rfl⟩ := e; exact PxC_mk 1 (if_neg (bp_0.mp e2)) (by decide) rfl hS FX.rf) ?_
  rintro _ _ _ ⟨rfl, hb8, rfl, rfl⟩
  have ht : ix p1 (y 3) := bp_1.mp (by omega)
  obtain ⟨j1, hj1, rfl⟩ := ix_of ht (by omega)
  refine V_aload_n 12 C dX9_best_11 rfl rfl ?_
  refine V_get (k := 0) 15 C dX9_best_12 rfl fcX9 tw228 (by decide) rfl w0 rfl ?_
  refine V_iload_n 16 C dX9_best_15 rfl rfl ?_
  refine V_callV 19 C dX9_best_16 rfl mX1_bestOf tw830 fcX1 w1.1 (c_X1_bestOf l G _ _ (x + 1) y w1 hIy j1 (by omega)) rfl rfl (by decide) ⟨by omega, by omega⟩ (Nat.le_of_ble_eq_true rfl) ?_
  rintro _ _ _ ⟨rfl, rfl, rfl⟩
  refine V_x (V_ireturn C dX9_best_19 rfl rfl (by omega) (by omega) ?_)
  exact (PoC_mk (if_pos ht) (by rw [zn (by omega)]) hS FX.rf)

theorem dX9_errorsIn_0 : decode cX9_errorsIn 0 = .ok (.aload_n 0, 1) := by decide +kernel
theorem dX9_errorsIn_1 : decode cX9_errorsIn 1 = .ok (.getfield 10, 3) := by decide +kernel
theorem dX9_errorsIn_4 : decode cX9_errorsIn 4 = .ok (.iload_n 1, 1) := by decide +kernel
theorem dX9_errorsIn_5 : decode cX9_errorsIn 5 = .ok (.invokevirtual 171, 3) := by decide +kernel
theorem dX9_errorsIn_8 : decode cX9_errorsIn 8 = .ok (.invokestatic 126, 3) := by decide +kernel
theorem dX9_errorsIn_11 : decode cX9_errorsIn 11 = .ok (.iload_n 2, 1) := by decide +kernel
theorem dX9_errorsIn_12 : decode cX9_errorsIn 12 = .ok (.iconst 0, 1) := by decide +kernel
theorem dX9_errorsIn_13 : decode cX9_errorsIn 13 = .ok (.sipush 200, 3) := by decide +kernel
theorem dX9_errorsIn_16 : decode cX9_errorsIn 16 = .ok (.invokestatic 48, 3) := by decide +kernel
theorem dX9_errorsIn_19 : decode cX9_errorsIn 19 = .ok (.aload_n 0, 1) := by decide +kernel
theorem dX9_errorsIn_20 : decode cX9_errorsIn 20 = .ok (.getfield 10, 3) := by decide +kernel
theorem dX9_errorsIn_23 : decode cX9_errorsIn 23 = .ok (.iload_n 1, 1) := by decide +kernel
theorem dX9_errorsIn_24 : decode cX9_errorsIn 24 = .ok (.iload_n 2, 1) := by decide +kernel
theorem dX9_errorsIn_25 : decode cX9_errorsIn 25 = .ok (.invokevirtual 195, 3) := by decide +kernel
theorem dX9_errorsIn_28 : decode cX9_errorsIn 28 = .ok (.ireturn, 1) := by decide +kernel
set_option maxRecDepth 100000 in
set_option maxHeartbeats 4000000 in
theorem c_X9_errorsIn (l : Launch) (G : GT) (n : Nat) (h : AH) (hl : l.stackTraces = false) (x : Nat) (y : Nat → Nat) (k : Nat) (D S : Nat → Nat → Nat) (sv : Nat → Bool) (N : Nat) (T : Nat → Nat) (hS : SysC x y k D S sv N T h) (hI : SI y k D S sv N T) (p1 : Int32) (p2 : Int32) : CX l yX9_errorsIn cX9_errorsIn 3 (some .int) 7 4 24 G n h [.ref x, .int p1, .int p2] (PoC x h (if ix p1 (y 4) then (if ix p2 201 then 0 else 2) else 1) (nI (ers y (z p1) (z p2))) y k D S sv N T) (PxC x h (if ix p1 (y 4) then (if ix p2 201 then 0 else 2) else 1) [ioE, iaE] y k D S sv N T) := by
  have NE := NO_eq
  obtain ⟨w0, w1, ⟨z2, w2⟩, ⟨fi, w3⟩, ⟨pf, pg, w4⟩, ⟨tp, tlt, tf, tg, w5⟩, ⟨f6, w6, v6⟩, w7, w8, ⟨g9, w9, v9⟩⟩ := id hS
  obtain ⟨hIy, hk14, hID, hIS, hN, hT⟩ := id hI
  obtain ⟨⟨i0, i1, i2, i3, i4⟩, iR, iU, iM, iS⟩ := id hIy
  obtain ⟨yob, ⟨fR, hfR, hR⟩, ⟨fU, hfU, hU⟩, ⟨fS, hfS, hSS⟩, ⟨fM, hfM, hM⟩, -, -, -⟩ := id w1
  refine CX_of mX9_errorsIn.1 (Nat.le_of_ble_eq_true rfl) ?_
  intro p₀ e₀ s₀ m₀ as₀ bl₀ me₀ c₀ C hE
  refine V_Le (L' := [(0, .ref x), (1, .int p1), (2, .int p2)]) rfl ?_
  refine V_aload_n 1 C dX9_errorsIn_0 rfl rfl ?_
  refine V_get (k := 0) 4 C dX9_errorsIn_1 rfl fcX9 tw228 (by decide) rfl w0 rfl ?_
  refine V_iload_n 5 C dX9_errorsIn_4 rfl rfl ?_
  refine V_callV 8 C dX9_errorsIn_5 rfl mX1_hasSheet tw611 fcX1 w1.1 (c_X1_hasSheet l G _ _ (x + 1) y w1 hIy p1) rfl rfl (by decide) ⟨by omega, by omega⟩ (Nat.le_of_ble_eq_true rfl) ?_
  rintro _ _ _ ⟨rfl, rfl, rfl⟩
  refine V_callSX 11 C hE dX9_errorsIn_8 rfl mX9_requireThere tw573 (c_X9_requireThere l G _ _ hl _ bp_le) rfl rfl (by decide) ⟨by omega, by omega⟩ (Nat.le_of_ble_eq_true rfl) (fun _ _ e => by obtain ⟨rfl, e2, rfl⟩ := e; exact PxC_mk 1 (if_neg (bp_0.mp e2)) (by decide) rfl hS FX.rf) ?_
  rintro _ _ _ ⟨rfl, hb8, rfl, rfl⟩
  have ht : ix p1 (y 4) := bp_1.mp (by omega)
  obtain ⟨j1, hj1, rfl⟩ := ix_of ht (by omega)
  refine V_iload_n 12 C dX9_errorsIn_11 rfl rfl ?_
  refine V_iconst 13 C dX9_errorsIn_12 rfl ic0 ?_
  refine V_sipush 16 C dX9_errorsIn_13 rfl sip200 ?_
  refine V_callSX 19 C hE dX9_errorsIn_16 rfl mX9_requireRange tw262 (c_X9_requireRange l G _ _ hl p2 0 200 (by omega) (by omega)) rfl rfl (by decide) ⟨by omega, by omega⟩ (Nat.le_of_ble_eq_true rfl) (fun _ _ e => by obtain ⟨rfl, e2, rfl⟩ := e; exact PxC_mk 2 (by rw [if_pos ht, if_neg (fun z => e2 (by have := z.1; have := z.2; omega))]) (by decide) rfl hS FX.rf) ?_
  rintro _ _ _ ⟨rfl, hr16, rfl, rfl⟩
  have hw : ix p2 201 := ⟨by omega, by omega⟩
  obtain ⟨j2, hj2, rfl⟩ := ix_of hw (by omega)
  refine V_aload_n 20 C dX9_errorsIn_19 rfl rfl ?_
  refine V_get (k := 0) 23 C dX9_errorsIn_20 rfl fcX9 tw228 (by decide) rfl w0 rfl ?_
  refine V_iload_n 24 C dX9_errorsIn_23 rfl rfl ?_
  refine V_iload_n 25 C dX9_errorsIn_24 rfl rfl ?_
  refine V_callV 28 C dX9_errorsIn_25 rfl mX1_errorsAfter tw613 fcX1 w1.1 (c_X1_errorsAfter l G _ _ (x + 1) y w1 hIy j1 j2 hj1 (by omega)) rfl rfl (by decide) ⟨by omega, by omega⟩ (Nat.le_of_ble_eq_true rfl) ?_
  rintro _ _ _ ⟨rfl, rfl, rfl⟩
  refine V_x (V_ireturn C dX9_errorsIn_28 rfl rfl (by omega) (by omega) ?_)
  exact (PoC_mk (by rw [if_pos ht, if_pos hw]) (by rw [zn (by omega), zn (by omega)]) hS FX.rf)

theorem dX9_rightFor_0 : decode cX9_rightFor 0 = .ok (.aload_n 0, 1) := by decide +kernel
theorem dX9_rightFor_1 : decode cX9_rightFor 1 = .ok (.getfield 10, 3) := by decide +kernel
theorem dX9_rightFor_4 : decode cX9_rightFor 4 = .ok (.iload_n 1, 1) := by decide +kernel
theorem dX9_rightFor_5 : decode cX9_rightFor 5 = .ok (.invokevirtual 171, 3) := by decide +kernel
theorem dX9_rightFor_8 : decode cX9_rightFor 8 = .ok (.invokestatic 126, 3) := by decide +kernel
theorem dX9_rightFor_11 : decode cX9_rightFor 11 = .ok (.aload_n 0, 1) := by decide +kernel
theorem dX9_rightFor_12 : decode cX9_rightFor 12 = .ok (.getfield 10, 3) := by decide +kernel
theorem dX9_rightFor_15 : decode cX9_rightFor 15 = .ok (.iload_n 1, 1) := by decide +kernel
theorem dX9_rightFor_16 : decode cX9_rightFor 16 = .ok (.iconst 0, 1) := by decide +kernel
theorem dX9_rightFor_17 : decode cX9_rightFor 17 = .ok (.invokevirtual 195, 3) := by decide +kernel
theorem dX9_rightFor_20 : decode cX9_rightFor 20 = .ok (.istore_n 2, 1) := by decide +kernel
theorem dX9_rightFor_21 : decode cX9_rightFor 21 = .ok (.iconst 1, 1) := by decide +kernel
theorem dX9_rightFor_22 : decode cX9_rightFor 22 = .ok (.istore_n 3, 1) := by decide +kernel
theorem dX9_rightFor_23 : decode cX9_rightFor 23 = .ok (.iload_n 3, 1) := by decide +kernel
theorem dX9_rightFor_24 : decode cX9_rightFor 24 = .ok (.sipush 200, 3) := by decide +kernel
theorem dX9_rightFor_27 : decode cX9_rightFor 27 = .ok (.if_icmp .gt 24, 3) := by decide +kernel
theorem dX9_rightFor_30 : decode cX9_rightFor 30 = .ok (.aload_n 0, 1) := by decide +kernel
theorem dX9_rightFor_31 : decode cX9_rightFor 31 = .ok (.getfield 10, 3) := by decide +kernel
theorem dX9_rightFor_34 : decode cX9_rightFor 34 = .ok (.iload_n 1, 1) := by decide +kernel
theorem dX9_rightFor_35 : decode cX9_rightFor 35 = .ok (.iload_n 3, 1) := by decide +kernel
theorem dX9_rightFor_36 : decode cX9_rightFor 36 = .ok (.invokevirtual 195, 3) := by decide +kernel
theorem dX9_rightFor_39 : decode cX9_rightFor 39 = .ok (.iload_n 2, 1) := by decide +kernel
theorem dX9_rightFor_40 : decode cX9_rightFor 40 = .ok (.if_icmp .le 5, 3) := by decide +kernel
theorem dX9_rightFor_43 : decode cX9_rightFor 43 = .ok (.iload_n 3, 1) := by decide +kernel
theorem dX9_rightFor_44 : decode cX9_rightFor 44 = .ok (.ireturn, 1) := by decide +kernel
theorem dX9_rightFor_45 : decode cX9_rightFor 45 = .ok (.iinc 3 1, 3) := by decide +kernel
theorem dX9_rightFor_48 : decode cX9_rightFor 48 = .ok (.goto (-25), 3) := by decide +kernel
theorem dX9_rightFor_51 : decode cX9_rightFor 51 = .ok (.iconst (-1), 1) := by decide +kernel
theorem dX9_rightFor_52 : decode cX9_rightFor 52 = .ok (.ireturn, 1) := by decide +kernel
set_option maxRecDepth 100000 in
set_option maxHeartbeats 4000000 in
theorem c_X9_rightFor (l : Launch) (G : GT) (n : Nat) (h : AH) (hl : l.stackTraces = false) (x : Nat) (y : Nat → Nat) (k : Nat) (D S : Nat → Nat → Nat) (sv : Nat → Bool) (N : Nat) (T : Nat → Nat) (hS : SysC x y k D S sv N T h) (hI : SI y k D S sv N T) (p1 : Int32) : CX l yX9_rightFor cX9_rightFor 4 (some .int) 7 4 24 G n h [.ref x, .int p1] (PoC x h (if ix p1 (y 4) then 0 else 1) (nI (rgt y (z p1) 200 1)) y k D S sv N T) (PxC x h (if ix p1 (y 4) then 0 else 1) [ioE] y k D S sv N T) := by
  have NE := NO_eq
  obtain ⟨w0, w1, ⟨z2, w2⟩, ⟨fi, w3⟩, ⟨pf, pg, w4⟩, ⟨tp, tlt, tf, tg, w5⟩, ⟨f6, w6, v6⟩, w7, w8, ⟨g9, w9, v9⟩⟩ := id hS
  obtain ⟨hIy, hk14, hID, hIS, hN, hT⟩ := id hI
  obtain ⟨⟨i0, i1, i2, i3, i4⟩, iR, iU, iM, iS⟩ := id hIy
  obtain ⟨yob, ⟨fR, hfR, hR⟩, ⟨fU, hfU, hU⟩, ⟨fS, hfS, hSS⟩, ⟨fM, hfM, hM⟩, -, -, -⟩ := id w1
  refine CX_of mX9_rightFor.1 (Nat.le_of_ble_eq_true rfl) ?_
  intro p₀ e₀ s₀ m₀ as₀ bl₀ me₀ c₀ C hE
  refine V_Le (L' := [(0, .ref x), (1, .int p1)]) rfl ?_
  refine V_aload_n 1 C dX9_rightFor_0 rfl rfl ?_
  refine V_get (k := 0) 4 C dX9_rightFor_1 rfl fcX9 tw228 (by decide) rfl w0 rfl ?_
  refine V_iload_n 5 C dX9_rightFor_4 rfl rfl ?_
  refine V_callV 8 C dX9_rightFor_5 rfl mX1_hasSheet tw611 fcX1 w1.1 (c_X1_hasSheet l G _ _ (x + 1) y w1 hIy p1) rfl rfl (by decide) ⟨by omega, by omega⟩ (Nat.le_of_ble_eq_true rfl) ?_
  rintro _ _ _ ⟨rfl, rfl, rfl⟩
  refine V_callSX 11 C hE dX9_rightFor_8 rfl mX9_requireThere tw573 (c_X9_requireThere l G _ _ hl _ bp_le) rfl rfl (by decide) ⟨by omega, by omega⟩ (Nat.le_of_ble_eq_true rfl) (fun _ _ e => by obtain ⟨rfl, e2, rfl⟩ := e; exact PxC_mk 1 (if_neg (bp_0.mp e2)) (by decide) rfl hS FX.rf) ?_
  rintro _ _ _ ⟨rfl, hb8, rfl, rfl⟩
  have ht : ix p1 (y 4) := bp_1.mp (by omega)
  obtain ⟨j1, hj1, rfl⟩ := ix_of ht (by omega)
  refine V_aload_n 12 C dX9_rightFor_11 rfl rfl ?_
  refine V_get (k := 0) 15 C dX9_rightFor_12 rfl fcX9 tw228 (by decide) rfl w0 rfl ?_
  refine V_iload_n 16 C dX9_rightFor_15 rfl rfl ?_
  refine V_iconst 17 C dX9_rightFor_16 rfl ic0 ?_
  refine V_callV 20 C dX9_rightFor_17 rfl mX1_errorsAfter tw613 fcX1 w1.1 (c_X1_errorsAfter l G _ _ (x + 1) y w1 hIy j1 0 hj1 (by omega)) rfl rfl (by decide) ⟨by omega, by omega⟩ (Nat.le_of_ble_eq_true rfl) ?_
  rintro _ _ _ ⟨rfl, rfl, rfl⟩
  have he0 := ers_le y j1 0
  refine V_istore_n 21 C dX9_rightFor_20 rfl (by decide) (L' := [(0, _), (1, _), (2, _)]) rfl ?_
  refine V_iconst 22 C dX9_rightFor_21 rfl ic1 ?_
  refine V_istore_n 23 C dX9_rightFor_22 rfl (by decide) (L' := [(0, _), (1, _), (2, _), (3, _)]) rfl ?_
  have J23 : ∀ (fuel : Nat) (n9 : Nat) (h19 : 1 ≤ n9) (h29 : n9 ≤ 201) (hr : rgt y j1 (201 - n9) n9 = rgt y j1 200 1), 201 - n9 < fuel → V p₀ l e₀ (rmD 7 4 24) s₀ m₀ as₀ bl₀ me₀ c₀ (vx_MQ bl₀ (Po G (PoC x h (if ix (nI j1) (y 4) then 0 else 1) (nI (rgt y (z (nI j1)) 200 1)) y k D S sv N T)) (PX G (PxC x h (if ix (nI j1) (y 4) then 0 else 1) [ioE] y k D S sv N T)) as₀ s₀ 4 24 (rg G)) G 4 1 6 n h 23 [(0, .ref x), (1, .int (nI j1)), (2, .int (nI (ers y j1 0))), (3, .int (nI n9))] [] := by
    intro fuel
    induction fuel with
    | zero => intro n9 h19 h29 hr hf; omega
    | succ fuel ih23 =>
      intro n9 h19 h29 hr hf
      refine V_iload_n 24 C dX9_rightFor_23 rfl rfl ?_
      refine V_sipush 27 C dX9_rightFor_24 rfl sip200 ?_
      refine V_icmp_gtN 51 30 C dX9_rightFor_27 (by decide) rfl (by omega) (by omega) (fun c27 => ?_) (fun c27 => ?_)
      · have hz : rgt y j1 200 1 = NO := by rw [← hr, rgt_e (by omega)]
        refine V_iconst 52 C dX9_rightFor_51 rfl icm1 ?_
        refine V_x (V_ireturn C dX9_rightFor_52 rfl rfl (by omega) (by omega) ?_)
        exact (PoC_mk (if_pos ht) (by rw [zn (by omega), hz]; rfl) hS FX.rf)
      · refine V_aload_n 31 C dX9_rightFor_30 rfl rfl ?_
        refine V_get (k := 0) 34 C dX9_rightFor_31 rfl fcX9 tw228 (by decide) rfl w0 rfl ?_
        refine V_iload_n 35 C dX9_rightFor_34 rfl rfl ?_
        refine V_iload_n 36 C dX9_rightFor_35 rfl rfl ?_
        refine V_callV 39 C dX9_rightFor_36 rfl mX1_errorsAfter tw613 fcX1 w1.1 (c_X1_errorsAfter l G _ _ (x + 1) y w1 hIy j1 n9 hj1 (by omega)) rfl rfl (by decide) ⟨by omega, by omega⟩ (Nat.le_of_ble_eq_true rfl) ?_
        rintro _ _ _ ⟨rfl, rfl, rfl⟩
        have he1 := ers_le y j1 n9
        refine V_iload_n 40 C dX9_rightFor_39 rfl rfl ?_
        refine V_icmp_leN 45 43 C dX9_rightFor_40 (by decide) rfl (by omega) (by omega) (fun c40 => ?_) (fun c40 => ?_)
        · have e4 : rgt y j1 (201 - (n9 + 1)) (n9 + 1) = rgt y j1 200 1 := by
            rw [← hr, rgt_s (f := 201 - n9) (by omega) (by omega)]
            rfl
          refine V_iinc 48 C dX9_rightFor_45 rfl (by decide) rfl (ii1 _) (L' := [(0, _), (1, _), (2, _), (3, _)]) rfl ?_
          refine V_goto 23 C dX9_rightFor_48 (by decide) ?_
          refine V_L [0, 1, 2, 3] rfl ?_
          exact ih23 (n9 + 1) (by omega) (by omega) e4 (by omega)
        · have hz : rgt y j1 200 1 = n9 := by rw [← hr, rgt_t (by omega) (by omega)]
          refine V_iload_n 44 C dX9_rightFor_43 rfl rfl ?_
          refine V_x (V_ireturn C dX9_rightFor_44 rfl rfl (by omega) (by omega) ?_)
          exact (PoC_mk (if_pos ht) (by rw [zn (by omega), hz]) hS FX.rf)
  refine V_L [0, 1, 2, 3] rfl ?_
  exact J23 201 1 (by omega) (by omega) rfl (by omega)

theorem dX9_route_0 : decode cX9_route 0 = .ok (.aload_n 0, 1) := by decide +kernel
theorem dX9_route_1 : decode cX9_route 1 = .ok (.getfield 10, 3) := by decide +kernel
theorem dX9_route_4 : decode cX9_route 4 = .ok (.iload_n 1, 1) := by decide +kernel
theorem dX9_route_5 : decode cX9_route 5 = .ok (.invokevirtual 267, 3) := by decide +kernel
theorem dX9_route_8 : decode cX9_route 8 = .ok (.ifCond .eq 18, 3) := by decide +kernel
theorem dX9_route_11 : decode cX9_route 11 = .ok (.aload_n 0, 1) := by decide +kernel
theorem dX9_route_12 : decode cX9_route 12 = .ok (.getfield 10, 3) := by decide +kernel
theorem dX9_route_15 : decode cX9_route 15 = .ok (.iload_n 2, 1) := by decide +kernel
theorem dX9_route_16 : decode cX9_route 16 = .ok (.invokevirtual 267, 3) := by decide +kernel
theorem dX9_route_19 : decode cX9_route 19 = .ok (.ifCond .eq 7, 3) := by decide +kernel
theorem dX9_route_22 : decode cX9_route 22 = .ok (.iconst 1, 1) := by decide +kernel
theorem dX9_route_23 : decode cX9_route 23 = .ok (.goto 4, 3) := by decide +kernel
theorem dX9_route_26 : decode cX9_route 26 = .ok (.iconst 0, 1) := by decide +kernel
theorem dX9_route_27 : decode cX9_route 27 = .ok (.invokestatic 126, 3) := by decide +kernel
theorem dX9_route_30 : decode cX9_route 30 = .ok (.iload_n 3, 1) := by decide +kernel
theorem dX9_route_31 : decode cX9_route 31 = .ok (.iconst 0, 1) := by decide +kernel
theorem dX9_route_32 : decode cX9_route 32 = .ok (.iconst 1, 1) := by decide +kernel
theorem dX9_route_33 : decode cX9_route 33 = .ok (.invokestatic 48, 3) := by decide +kernel
theorem dX9_route_36 : decode cX9_route 36 = .ok (.iload_n 3, 1) := by decide +kernel
theorem dX9_route_37 : decode cX9_route 37 = .ok (.ifCond .ne 19, 3) := by decide +kernel
theorem dX9_route_40 : decode cX9_route 40 = .ok (.aload_n 0, 1) := by decide +kernel
theorem dX9_route_41 : decode cX9_route 41 = .ok (.getfield 29, 3) := by decide +kernel
theorem dX9_route_44 : decode cX9_route 44 = .ok (.aload_n 0, 1) := by decide +kernel
theorem dX9_route_45 : decode cX9_route 45 = .ok (.getfield 10, 3) := by decide +kernel
theorem dX9_route_48 : decode cX9_route 48 = .ok (.iload_n 1, 1) := by decide +kernel
theorem dX9_route_49 : decode cX9_route 49 = .ok (.iload_n 2, 1) := by decide +kernel
theorem dX9_route_50 : decode cX9_route 50 = .ok (.invokevirtual 270, 3) := by decide +kernel
theorem dX9_route_53 : decode cX9_route 53 = .ok (.goto 16, 3) := by decide +kernel
theorem dX9_route_56 : decode cX9_route 56 = .ok (.aload_n 0, 1) := by decide +kernel
theorem dX9_route_57 : decode cX9_route 57 = .ok (.getfield 29, 3) := by decide +kernel
theorem dX9_route_60 : decode cX9_route 60 = .ok (.aload_n 0, 1) := by decide +kernel
theorem dX9_route_61 : decode cX9_route 61 = .ok (.getfield 10, 3) := by decide +kernel
theorem dX9_route_64 : decode cX9_route 64 = .ok (.iload_n 1, 1) := by decide +kernel
theorem dX9_route_65 : decode cX9_route 65 = .ok (.iload_n 2, 1) := by decide +kernel
theorem dX9_route_66 : decode cX9_route 66 = .ok (.invokevirtual 274, 3) := by decide +kernel
theorem dX9_route_69 : decode cX9_route 69 = .ok (.ireturn, 1) := by decide +kernel
set_option maxRecDepth 100000 in
set_option maxHeartbeats 4000000 in
theorem c_X9_route (l : Launch) (G : GT) (n : Nat) (h : AH) (hl : l.stackTraces = false) (x : Nat) (y : Nat → Nat) (k : Nat) (D S : Nat → Nat → Nat) (sv : Nat → Bool) (N : Nat) (T : Nat → Nat) (hS : SysC x y k D S sv N T h) (hI : SI y k D S sv N T) (p1 : Int32) (p2 : Int32) (p3 : Int32) : CX l yX9_route cX9_route 4 (some .int) 7 4 24 G n h [.ref x, .int p1, .int p2, .int p3] (PoC x h (if ix p1 (y 0) ∧ ix p2 (y 0) then (if ix p3 2 then 0 else 2) else 1) (nI (mo (dst y (z p1) (z p2)))) y k D S sv N T) (PxC x h (if ix p1 (y 0) ∧ ix p2 (y 0) then (if ix p3 2 then 0 else 2) else 1) [ioE, iaE] y k D S sv N T) := by
  have NE := NO_eq
  obtain ⟨w0, w1, ⟨z2, w2⟩, ⟨fi, w3⟩, ⟨pf, pg, w4⟩, ⟨tp, tlt, tf, tg, w5⟩, ⟨f6, w6, v6⟩, w7, w8, ⟨g9, w9, v9⟩⟩ := id hS
  obtain ⟨hIy, hk14, hID, hIS, hN, hT⟩ := id hI
  obtain ⟨⟨i0, i1, i2, i3, i4⟩, iR, iU, iM, iS⟩ := id hIy
  obtain ⟨yob, ⟨fR, hfR, hR⟩, ⟨fU, hfU, hU⟩, ⟨fS, hfS, hSS⟩, ⟨fM, hfM, hM⟩, -, -, -⟩ := id w1
  refine CX_of mX9_route.1 (Nat.le_of_ble_eq_true rfl) ?_
  intro p₀ e₀ s₀ m₀ as₀ bl₀ me₀ c₀ C hE
  refine V_Le (L' := [(0, .ref x), (1, .int p1), (2, .int p2), (3, .int p3)]) rfl ?_
  refine V_aload_n 1 C dX9_route_0 rfl rfl ?_
  have J27 : ∀ (b9 : Nat) (hb9 : b9 = bp (ix p1 (y 0) ∧ ix p2 (y 0))), V p₀ l e₀ (rmD 7 4 24) s₀ m₀ as₀ bl₀ me₀ c₀ (vx_MQ bl₀ (Po G (PoC x h (if ix p1 (y 0) ∧ ix p2 (y 0) then (if ix p3 2 then 0 else 2) else 1) (nI (mo (dst y (z p1) (z p2)))) y k D S sv N T)) (PX G (PxC x h (if ix p1 (y 0) ∧ ix p2 (y 0) then (if ix p3 2 then 0 else 2) else 1) [ioE, iaE] y k D S sv N T)) as₀ s₀ 4 24 (rg G)) G 4 0 0 n h 27 [(0, .ref x), (1, .int p1), (2, .int p2), (3, .int p3)] [.int (nI b9)] := by
    intro b9 hb9
    refine V_callSX 30 C hE dX9_route_27 rfl mX9_requireThere tw573 (c_X9_requireThere l G _ _ hl b9 (by rw [hb9]; exact bp_le)) rfl rfl (by decide) ⟨by omega, by omega⟩ (Nat.le_of_ble_eq_true rfl) (fun _ _ e => by obtain ⟨rfl, e2, rfl⟩ := e; exact PxC_mk 1 (if_neg (bp_0.mp (by rw [← hb9]; exact e2))) (by decide) rfl hS FX.rf) ?_
    rintro _ _ _ ⟨rfl, hb27, rfl, rfl⟩
    have ht : ix p1 (y 0) ∧ ix p2 (y 0) := bp_1.mp (by rw [← hb9]; omega)
    obtain ⟨j1, hj1, rfl⟩ := ix_of ht.1 (by omega)
    obtain ⟨j2, hj2, rfl⟩ := ix_of ht.2 (by omega)
    refine V_iload_n 31 C dX9_route_30 rfl rfl ?_
    refine V_iconst 32 C dX9_route_31 rfl ic0 ?_
    refine V_iconst 33 C dX9_route_32 rfl ic1 ?_
    refine V_callSX 36 C hE dX9_route_33 rfl mX9_requireRange tw262 (c_X9_requireRange l G _ _ hl p3 0 1 (by omega) (by omega)) rfl rfl (by decide) ⟨by omega, by omega⟩ (Nat.le_of_ble_eq_true rfl) (fun _ _ e => by obtain ⟨rfl, e2, rfl⟩ := e; exact PxC_mk 2 (by rw [if_pos ht, if_neg (fun z => e2 (by have := z.1; have := z.2; omega))]) (by decide) rfl hS FX.rf) ?_
    rintro _ _ _ ⟨rfl, hr33, rfl, rfl⟩
    have hw : ix p3 2 := ⟨by omega, by omega⟩
    obtain ⟨j3, hj3, rfl⟩ := ix_of hw (by omega)
    refine V_iload_n 37 C dX9_route_36 rfl rfl ?_
    refine V_if_neN 56 40 C dX9_route_37 (by decide) rfl (by omega) (fun c37 => ?_) (fun c37 => ?_)
    · refine V_aload_n 57 C dX9_route_56 rfl rfl ?_
      refine V_get (k := 3) 60 C dX9_route_57 rfl fcX9 tw231 (by decide) rfl w0 rfl ?_
      refine V_aload_n 61 C dX9_route_60 rfl rfl ?_
      refine V_get (k := 0) 64 C dX9_route_61 rfl fcX9 tw228 (by decide) rfl w0 rfl ?_
      refine V_iload_n 65 C dX9_route_64 rfl rfl ?_
      refine V_iload_n 66 C dX9_route_65 rfl rfl ?_
      refine V_callV 69 C dX9_route_66 rfl mX4_roundByRound tw801 fcX4 w4.1 (c_X4_roundByRound l G _ _ (x + 547) pf pg w4 (x + 1) y w1 hIy (by omega) j1 j2 (by omega) (by omega)) rfl rfl (by decide) ⟨by omega, by omega⟩ (Nat.le_of_ble_eq_true rfl) ?_
      rintro _ _ _ ⟨rfl, rfl, f2, g2, rfl⟩
      refine V_x (V_ireturn C dX9_route_69 rfl rfl (by omega) (by omega) ?_)
      exact (PoC_mk (by rw [if_pos ht, if_pos hw]) (by rw [zn (by omega), zn (by omega)]) hS.plu FX.plu)
    · refine V_aload_n 41 C dX9_route_40 rfl rfl ?_
      refine V_get (k := 3) 44 C dX9_route_41 rfl fcX9 tw231 (by decide) rfl w0 rfl ?_
      refine V_aload_n 45 C dX9_route_44 rfl rfl ?_
      refine V_get (k := 0) 48 C dX9_route_45 rfl fcX9 tw228 (by decide) rfl w0 rfl ?_
      refine V_iload_n 49 C dX9_route_48 rfl rfl ?_
      refine V_iload_n 50 C dX9_route_49 rfl rfl ?_
      refine V_callV 53 C dX9_route_50 rfl mX4_nearestFirst tw774 fcX4 w4.1 (c_X4_nearestFirst l G _ _ (x + 547) pf pg w4 (x + 1) y w1 hIy (by omega) j1 j2 (by omega) (by omega)) rfl rfl (by decide) ⟨by omega, by omega⟩ (Nat.le_of_ble_eq_true rfl) ?_
      rintro _ _ _ ⟨rfl, rfl, f2, g2, rfl⟩
      refine V_goto 69 C dX9_route_53 (by decide) ?_
      refine V_x (V_ireturn C dX9_route_69 rfl rfl (by omega) (by omega) ?_)
      exact (PoC_mk (by rw [if_pos ht, if_pos hw]) (by rw [zn (by omega), zn (by omega)]) hS.plu FX.plu)
  refine V_get (k := 0) 4 C dX9_route_1 rfl fcX9 tw228 (by decide) rfl w0 rfl ?_
  refine V_iload_n 5 C dX9_route_4 rfl rfl ?_
  refine V_callV 8 C dX9_route_5 rfl mX1_hasTown tw773 fcX1 w1.1 (c_X1_hasTown l G _ _ (x + 1) y w1 hIy p1) rfl rfl (by decide) ⟨by omega, by omega⟩ (Nat.le_of_ble_eq_true rfl) ?_
  rintro _ _ _ ⟨rfl, rfl, rfl⟩
  refine V_if_eqB 26 11 C dX9_route_8 (by decide) rfl  (fun c8 => ?_) (fun c8 => ?_)
  · have hno : ¬ (ix p1 (y 0) ∧ ix p2 (y 0)) := fun e => c8 e.1
    refine V_iconst 27 C dX9_route_26 rfl ic0 ?_
    refine V_L [0, 1, 2, 3] rfl ?_
    exact J27 0 (bp_f hno).symm
  · refine V_aload_n 12 C dX9_route_11 rfl rfl ?_
    refine V_get (k := 0) 15 C dX9_route_12 rfl fcX9 tw228 (by decide) rfl w0 rfl ?_
    refine V_iload_n 16 C dX9_route_15 rfl rfl ?_
    refine V_callV 19 C dX9_route_16 rfl mX1_hasTown tw773 fcX1 w1.1 (c_X1_hasTown l G _ _ (x + 1) y w1 hIy p2) rfl rfl (by decide) ⟨by omega, by omega⟩ (Nat.le_of_ble_eq_true rfl) ?_
    rintro _ _ _ ⟨rfl, rfl, rfl⟩
    refine V_if_eqB 26 22 C dX9_route_19 (by decide) rfl  (fun c19 => ?_) (fun c19 => ?_)
    · have hno : ¬ (ix p1 (y 0) ∧ ix p2 (y 0)) := fun e => c19 e.2
      refine V_iconst 27 C dX9_route_26 rfl ic0 ?_
      refine V_L [0, 1, 2, 3] rfl ?_
      exact J27 0 (bp_f hno).symm
    · refine V_iconst 23 C dX9_route_22 rfl ic1 ?_
      refine V_goto 27 C dX9_route_23 (by decide) ?_
      refine V_L [0, 1, 2, 3] rfl ?_
      exact J27 1 (bp_t ⟨c8, c19⟩).symm

theorem dX9_roadTo_0 : decode cX9_roadTo 0 = .ok (.aload_n 0, 1) := by decide +kernel
theorem dX9_roadTo_1 : decode cX9_roadTo 1 = .ok (.getfield 10, 3) := by decide +kernel
theorem dX9_roadTo_4 : decode cX9_roadTo 4 = .ok (.iload_n 1, 1) := by decide +kernel
theorem dX9_roadTo_5 : decode cX9_roadTo 5 = .ok (.invokevirtual 267, 3) := by decide +kernel
theorem dX9_roadTo_8 : decode cX9_roadTo 8 = .ok (.ifCond .eq 18, 3) := by decide +kernel
theorem dX9_roadTo_11 : decode cX9_roadTo 11 = .ok (.aload_n 0, 1) := by decide +kernel
theorem dX9_roadTo_12 : decode cX9_roadTo 12 = .ok (.getfield 10, 3) := by decide +kernel
theorem dX9_roadTo_15 : decode cX9_roadTo 15 = .ok (.iload_n 2, 1) := by decide +kernel
theorem dX9_roadTo_16 : decode cX9_roadTo 16 = .ok (.invokevirtual 267, 3) := by decide +kernel
theorem dX9_roadTo_19 : decode cX9_roadTo 19 = .ok (.ifCond .eq 7, 3) := by decide +kernel
theorem dX9_roadTo_22 : decode cX9_roadTo 22 = .ok (.iconst 1, 1) := by decide +kernel
theorem dX9_roadTo_23 : decode cX9_roadTo 23 = .ok (.goto 4, 3) := by decide +kernel
theorem dX9_roadTo_26 : decode cX9_roadTo 26 = .ok (.iconst 0, 1) := by decide +kernel
theorem dX9_roadTo_27 : decode cX9_roadTo 27 = .ok (.invokestatic 126, 3) := by decide +kernel
theorem dX9_roadTo_30 : decode cX9_roadTo 30 = .ok (.aload_n 0, 1) := by decide +kernel
theorem dX9_roadTo_31 : decode cX9_roadTo 31 = .ok (.getfield 29, 3) := by decide +kernel
theorem dX9_roadTo_34 : decode cX9_roadTo 34 = .ok (.aload_n 0, 1) := by decide +kernel
theorem dX9_roadTo_35 : decode cX9_roadTo 35 = .ok (.getfield 10, 3) := by decide +kernel
theorem dX9_roadTo_38 : decode cX9_roadTo 38 = .ok (.iload_n 1, 1) := by decide +kernel
theorem dX9_roadTo_39 : decode cX9_roadTo 39 = .ok (.iload_n 2, 1) := by decide +kernel
theorem dX9_roadTo_40 : decode cX9_roadTo 40 = .ok (.invokevirtual 277, 3) := by decide +kernel
theorem dX9_roadTo_43 : decode cX9_roadTo 43 = .ok (.ireturn, 1) := by decide +kernel
set_option maxRecDepth 100000 in
set_option maxHeartbeats 4000000 in
theorem c_X9_roadTo (l : Launch) (G : GT) (n : Nat) (h : AH) (hl : l.stackTraces = false) (x : Nat) (y : Nat → Nat) (k : Nat) (D S : Nat → Nat → Nat) (sv : Nat → Bool) (N : Nat) (T : Nat → Nat) (hS : SysC x y k D S sv N T h) (hI : SI y k D S sv N T) (p1 : Int32) (p2 : Int32) : CX l yX9_roadTo cX9_roadTo 3 (some .int) 7 4 24 G n h [.ref x, .int p1, .int p2] (PoC x h (if ix p1 (y 0) ∧ ix p2 (y 0) then 0 else 1) (nI (rto y (z p1) (z p2))) y k D S sv N T) (PxC x h (if ix p1 (y 0) ∧ ix p2 (y 0) then 0 else 1) [ioE] y k D S sv N T) := by
  have NE := NO_eq
  obtain ⟨w0, w1, ⟨z2, w2⟩, ⟨fi, w3⟩, ⟨pf, pg, w4⟩, ⟨tp, tlt, tf, tg, w5⟩, ⟨f6, w6, v6⟩, w7, w8, ⟨g9, w9, v9⟩⟩ := id hS
  obtain ⟨hIy, hk14, hID, hIS, hN, hT⟩ := id hI
  obtain ⟨⟨i0, i1, i2, i3, i4⟩, iR, iU, iM, iS⟩ := id hIy
  obtain ⟨yob, ⟨fR, hfR, hR⟩, ⟨fU, hfU, hU⟩, ⟨fS, hfS, hSS⟩, ⟨fM, hfM, hM⟩, -, -, -⟩ := id w1
  refine CX_of mX9_roadTo.1 (Nat.le_of_ble_eq_true rfl) ?_
  intro p₀ e₀ s₀ m₀ as₀ bl₀ me₀ c₀ C hE
  refine V_Le (L' := [(0, .ref x), (1, .int p1), (2, .int p2)]) rfl ?_
  refine V_aload_n 1 C dX9_roadTo_0 rfl rfl ?_
  have J27 : ∀ (b9 : Nat) (hb9 : b9 = bp (ix p1 (y 0) ∧ ix p2 (y 0))), V p₀ l e₀ (rmD 7 4 24) s₀ m₀ as₀ bl₀ me₀ c₀ (vx_MQ bl₀ (Po G (PoC x h (if ix p1 (y 0) ∧ ix p2 (y 0) then 0 else 1) (nI (rto y (z p1) (z p2))) y k D S sv N T)) (PX G (PxC x h (if ix p1 (y 0) ∧ ix p2 (y 0) then 0 else 1) [ioE] y k D S sv N T)) as₀ s₀ 4 24 (rg G)) G 3 0 0 n h 27 [(0, .ref x), (1, .int p1), (2, .int p2)] [.int (nI b9)] := by
    intro b9 hb9
    refine V_callSX 30 C hE dX9_roadTo_27 rfl mX9_requireThere tw573 (c_X9_requireThere l G _ _ hl b9 (by rw [hb9]; exact bp_le)) rfl rfl (by decide) ⟨by omega, by omega⟩ (Nat.le_of_ble_eq_true rfl) (fun _ _ e => by obtain ⟨rfl, e2, rfl⟩ := e; exact PxC_mk 1 (if_neg (bp_0.mp (by rw [← hb9]; exact e2))) (by decide) rfl hS FX.rf) ?_
    rintro _ _ _ ⟨rfl, hb27, rfl, rfl⟩
    have ht : ix p1 (y 0) ∧ ix p2 (y 0) := bp_1.mp (by rw [← hb9]; omega)
    obtain ⟨j1, hj1, rfl⟩ := ix_of ht.1 (by omega)
    obtain ⟨j2, hj2, rfl⟩ := ix_of ht.2 (by omega)
    refine V_aload_n 31 C dX9_roadTo_30 rfl rfl ?_
    refine V_get (k := 3) 34 C dX9_roadTo_31 rfl fcX9 tw231 (by decide) rfl w0 rfl ?_
    refine V_aload_n 35 C dX9_roadTo_34 rfl rfl ?_
    refine V_get (k := 0) 38 C dX9_roadTo_35 rfl fcX9 tw228 (by decide) rfl w0 rfl ?_
    refine V_iload_n 39 C dX9_roadTo_38 rfl rfl ?_
    refine V_iload_n 40 C dX9_roadTo_39 rfl rfl ?_
    refine V_callV 43 C dX9_roadTo_40 rfl mX4_lowestRoad tw812 fcX4 w4.1 (c_X4_lowestRoad l G _ _ (x + 547) pf pg w4 (x + 1) y w1 hIy (by omega) j1 j2 (by omega) (by omega)) rfl rfl (by decide) ⟨by omega, by omega⟩ (Nat.le_of_ble_eq_true rfl) ?_
    rintro _ _ _ ⟨rfl, rfl, f2, g2, rfl⟩
    refine V_x (V_ireturn C dX9_roadTo_43 rfl rfl (by omega) (by omega) ?_)
    exact (PoC_mk (if_pos ht) (by rw [zn (by omega), zn (by omega)]) hS.plu FX.plu)
  refine V_get (k := 0) 4 C dX9_roadTo_1 rfl fcX9 tw228 (by decide) rfl w0 rfl ?_
  refine V_iload_n 5 C dX9_roadTo_4 rfl rfl ?_
  refine V_callV 8 C dX9_roadTo_5 rfl mX1_hasTown tw773 fcX1 w1.1 (c_X1_hasTown l G _ _ (x + 1) y w1 hIy p1) rfl rfl (by decide) ⟨by omega, by omega⟩ (Nat.le_of_ble_eq_true rfl) ?_
  rintro _ _ _ ⟨rfl, rfl, rfl⟩
  refine V_if_eqB 26 11 C dX9_roadTo_8 (by decide) rfl  (fun c8 => ?_) (fun c8 => ?_)
  · have hno : ¬ (ix p1 (y 0) ∧ ix p2 (y 0)) := fun e => c8 e.1
    refine V_iconst 27 C dX9_roadTo_26 rfl ic0 ?_
    refine V_L [0, 1, 2] rfl ?_
    exact J27 0 (bp_f hno).symm
  · refine V_aload_n 12 C dX9_roadTo_11 rfl rfl ?_
    refine V_get (k := 0) 15 C dX9_roadTo_12 rfl fcX9 tw228 (by decide) rfl w0 rfl ?_
    refine V_iload_n 16 C dX9_roadTo_15 rfl rfl ?_
    refine V_callV 19 C dX9_roadTo_16 rfl mX1_hasTown tw773 fcX1 w1.1 (c_X1_hasTown l G _ _ (x + 1) y w1 hIy p2) rfl rfl (by decide) ⟨by omega, by omega⟩ (Nat.le_of_ble_eq_true rfl) ?_
    rintro _ _ _ ⟨rfl, rfl, rfl⟩
    refine V_if_eqB 26 22 C dX9_roadTo_19 (by decide) rfl  (fun c19 => ?_) (fun c19 => ?_)
    · have hno : ¬ (ix p1 (y 0) ∧ ix p2 (y 0)) := fun e => c19 e.2
      refine V_iconst 27 C dX9_roadTo_26 rfl ic0 ?_
      refine V_L [0, 1, 2] rfl ?_
      exact J27 0 (bp_f hno).symm
    · refine V_iconst 23 C dX9_roadTo_22 rfl ic1 ?_
      refine V_goto 27 C dX9_roadTo_23 (by decide) ?_
      refine V_L [0, 1, 2] rfl ?_
      exact J27 1 (bp_t ⟨c8, c19⟩).symm

theorem dX9_ifBrought_0 : decode cX9_ifBrought 0 = .ok (.aload_n 0, 1) := by decide +kernel
theorem dX9_ifBrought_1 : decode cX9_ifBrought 1 = .ok (.getfield 10, 3) := by decide +kernel
theorem dX9_ifBrought_4 : decode cX9_ifBrought 4 = .ok (.iload_n 1, 1) := by decide +kernel
theorem dX9_ifBrought_5 : decode cX9_ifBrought 5 = .ok (.invokevirtual 171, 3) := by decide +kernel
theorem dX9_ifBrought_8 : decode cX9_ifBrought 8 = .ok (.ifCond .eq 18, 3) := by decide +kernel
theorem dX9_ifBrought_11 : decode cX9_ifBrought 11 = .ok (.aload_n 0, 1) := by decide +kernel
theorem dX9_ifBrought_12 : decode cX9_ifBrought 12 = .ok (.getfield 10, 3) := by decide +kernel
theorem dX9_ifBrought_15 : decode cX9_ifBrought 15 = .ok (.iload_n 2, 1) := by decide +kernel
theorem dX9_ifBrought_16 : decode cX9_ifBrought 16 = .ok (.invokevirtual 267, 3) := by decide +kernel
theorem dX9_ifBrought_19 : decode cX9_ifBrought 19 = .ok (.ifCond .eq 7, 3) := by decide +kernel
theorem dX9_ifBrought_22 : decode cX9_ifBrought 22 = .ok (.iconst 1, 1) := by decide +kernel
theorem dX9_ifBrought_23 : decode cX9_ifBrought 23 = .ok (.goto 4, 3) := by decide +kernel
theorem dX9_ifBrought_26 : decode cX9_ifBrought 26 = .ok (.iconst 0, 1) := by decide +kernel
theorem dX9_ifBrought_27 : decode cX9_ifBrought 27 = .ok (.invokestatic 126, 3) := by decide +kernel
theorem dX9_ifBrought_30 : decode cX9_ifBrought 30 = .ok (.aload_n 0, 1) := by decide +kernel
theorem dX9_ifBrought_31 : decode cX9_ifBrought 31 = .ok (.getfield 10, 3) := by decide +kernel
theorem dX9_ifBrought_34 : decode cX9_ifBrought 34 = .ok (.getfield 174, 3) := by decide +kernel
theorem dX9_ifBrought_37 : decode cX9_ifBrought 37 = .ok (.iload_n 1, 1) := by decide +kernel
theorem dX9_ifBrought_38 : decode cX9_ifBrought 38 = .ok (.aaload, 1) := by decide +kernel
theorem dX9_ifBrought_39 : decode cX9_ifBrought 39 = .ok (.getfield 280, 3) := by decide +kernel
theorem dX9_ifBrought_42 : decode cX9_ifBrought 42 = .ok (.istore_n 3, 1) := by decide +kernel
theorem dX9_ifBrought_43 : decode cX9_ifBrought 43 = .ok (.iconst 0, 1) := by decide +kernel
theorem dX9_ifBrought_44 : decode cX9_ifBrought 44 = .ok (.istore 4, 2) := by decide +kernel
theorem dX9_ifBrought_46 : decode cX9_ifBrought 46 = .ok (.aload_n 0, 1) := by decide +kernel
theorem dX9_ifBrought_47 : decode cX9_ifBrought 47 = .ok (.getfield 10, 3) := by decide +kernel
theorem dX9_ifBrought_50 : decode cX9_ifBrought 50 = .ok (.getfield 174, 3) := by decide +kernel
theorem dX9_ifBrought_53 : decode cX9_ifBrought 53 = .ok (.iload_n 1, 1) := by decide +kernel
theorem dX9_ifBrought_54 : decode cX9_ifBrought 54 = .ok (.aaload, 1) := by decide +kernel
theorem dX9_ifBrought_55 : decode cX9_ifBrought 55 = .ok (.getfield 189, 3) := by decide +kernel
theorem dX9_ifBrought_58 : decode cX9_ifBrought 58 = .ok (.istore 5, 2) := by decide +kernel
theorem dX9_ifBrought_60 : decode cX9_ifBrought 60 = .ok (.iload 5, 2) := by decide +kernel
theorem dX9_ifBrought_62 : decode cX9_ifBrought 62 = .ok (.iconst (-1), 1) := by decide +kernel
theorem dX9_ifBrought_63 : decode cX9_ifBrought 63 = .ok (.if_icmp .eq 32, 3) := by decide +kernel
theorem dX9_ifBrought_66 : decode cX9_ifBrought 66 = .ok (.aload_n 0, 1) := by decide +kernel
theorem dX9_ifBrought_67 : decode cX9_ifBrought 67 = .ok (.getfield 10, 3) := by decide +kernel
theorem dX9_ifBrought_70 : decode cX9_ifBrought 70 = .ok (.getfield 150, 3) := by decide +kernel
theorem dX9_ifBrought_73 : decode cX9_ifBrought 73 = .ok (.iload 5, 2) := by decide +kernel
theorem dX9_ifBrought_75 : decode cX9_ifBrought 75 = .ok (.aaload, 1) := by decide +kernel
theorem dX9_ifBrought_76 : decode cX9_ifBrought 76 = .ok (.getfield 154, 3) := by decide +kernel
theorem dX9_ifBrought_79 : decode cX9_ifBrought 79 = .ok (.istore_n 3, 1) := by decide +kernel
theorem dX9_ifBrought_80 : decode cX9_ifBrought 80 = .ok (.aload_n 0, 1) := by decide +kernel
theorem dX9_ifBrought_81 : decode cX9_ifBrought 81 = .ok (.getfield 10, 3) := by decide +kernel
theorem dX9_ifBrought_84 : decode cX9_ifBrought 84 = .ok (.getfield 150, 3) := by decide +kernel
theorem dX9_ifBrought_87 : decode cX9_ifBrought 87 = .ok (.iload 5, 2) := by decide +kernel
theorem dX9_ifBrought_89 : decode cX9_ifBrought 89 = .ok (.aaload, 1) := by decide +kernel
theorem dX9_ifBrought_90 : decode cX9_ifBrought 90 = .ok (.getfield 159, 3) := by decide +kernel
theorem dX9_ifBrought_93 : decode cX9_ifBrought 93 = .ok (.istore 4, 2) := by decide +kernel
theorem dX9_ifBrought_95 : decode cX9_ifBrought 95 = .ok (.aload_n 0, 1) := by decide +kernel
theorem dX9_ifBrought_96 : decode cX9_ifBrought 96 = .ok (.getfield 29, 3) := by decide +kernel
theorem dX9_ifBrought_99 : decode cX9_ifBrought 99 = .ok (.aload_n 0, 1) := by decide +kernel
theorem dX9_ifBrought_100 : decode cX9_ifBrought 100 = .ok (.getfield 10, 3) := by decide +kernel
theorem dX9_ifBrought_103 : decode cX9_ifBrought 103 = .ok (.iload_n 3, 1) := by decide +kernel
theorem dX9_ifBrought_104 : decode cX9_ifBrought 104 = .ok (.iload_n 2, 1) := by decide +kernel
theorem dX9_ifBrought_105 : decode cX9_ifBrought 105 = .ok (.invokevirtual 270, 3) := by decide +kernel
theorem dX9_ifBrought_108 : decode cX9_ifBrought 108 = .ok (.istore 6, 2) := by decide +kernel
theorem dX9_ifBrought_110 : decode cX9_ifBrought 110 = .ok (.iload 6, 2) := by decide +kernel
theorem dX9_ifBrought_112 : decode cX9_ifBrought 112 = .ok (.iconst (-1), 1) := by decide +kernel
theorem dX9_ifBrought_113 : decode cX9_ifBrought 113 = .ok (.if_icmp .ne 7, 3) := by decide +kernel
theorem dX9_ifBrought_116 : decode cX9_ifBrought 116 = .ok (.iconst (-1), 1) := by decide +kernel
theorem dX9_ifBrought_117 : decode cX9_ifBrought 117 = .ok (.goto 16, 3) := by decide +kernel
theorem dX9_ifBrought_120 : decode cX9_ifBrought 120 = .ok (.aload_n 0, 1) := by decide +kernel
theorem dX9_ifBrought_121 : decode cX9_ifBrought 121 = .ok (.getfield 10, 3) := by decide +kernel
theorem dX9_ifBrought_124 : decode cX9_ifBrought 124 = .ok (.iload_n 1, 1) := by decide +kernel
theorem dX9_ifBrought_125 : decode cX9_ifBrought 125 = .ok (.iload 4, 2) := by decide +kernel
theorem dX9_ifBrought_127 : decode cX9_ifBrought 127 = .ok (.iload 6, 2) := by decide +kernel
theorem dX9_ifBrought_129 : decode cX9_ifBrought 129 = .ok (.iadd, 1) := by decide +kernel
theorem dX9_ifBrought_130 : decode cX9_ifBrought 130 = .ok (.invokevirtual 195, 3) := by decide +kernel
theorem dX9_ifBrought_133 : decode cX9_ifBrought 133 = .ok (.ireturn, 1) := by decide +kernel
set_option maxRecDepth 100000 in
set_option maxHeartbeats 4000000 in
theorem c_X9_ifBrought (l : Launch) (G : GT) (n : Nat) (h : AH) (hl : l.stackTraces = false) (x : Nat) (y : Nat → Nat) (k : Nat) (D S : Nat → Nat → Nat) (sv : Nat → Bool) (N : Nat) (T : Nat → Nat) (hS : SysC x y k D S sv N T h) (hI : SI y k D S sv N T) (p1 : Int32) (p2 : Int32) : CX l yX9_ifBrought cX9_ifBrought 7 (some .int) 7 4 24 G n h [.ref x, .int p1, .int p2] (PoC x h (if ix p1 (y 4) ∧ ix p2 (y 0) then 0 else 1) (nI (qIb y (z p1) (z p2))) y k D S sv N T) (PxC x h (if ix p1 (y 4) ∧ ix p2 (y 0) then 0 else 1) [ioE] y k D S sv N T) := by
  have NE := NO_eq
  obtain ⟨w0, w1, ⟨z2, w2⟩, ⟨fi, w3⟩, ⟨pf, pg, w4⟩, ⟨tp, tlt, tf, tg, w5⟩, ⟨f6, w6, v6⟩, w7, w8, ⟨g9, w9, v9⟩⟩ := id hS
  obtain ⟨hIy, hk14, hID, hIS, hN, hT⟩ := id hI
  obtain ⟨⟨i0, i1, i2, i3, i4⟩, iR, iU, iM, iS⟩ := id hIy
  obtain ⟨yob, ⟨fR, hfR, hR⟩, ⟨fU, hfU, hU⟩, ⟨fS, hfS, hSS⟩, ⟨fM, hfM, hM⟩, -, -, -⟩ := id w1
  refine CX_of mX9_ifBrought.1 (Nat.le_of_ble_eq_true rfl) ?_
  intro p₀ e₀ s₀ m₀ as₀ bl₀ me₀ c₀ C hE
  refine V_Le (L' := [(0, .ref x), (1, .int p1), (2, .int p2)]) rfl ?_
  refine V_aload_n 1 C dX9_ifBrought_0 rfl rfl ?_
  have J27 : ∀ (b9 : Nat) (hb9 : b9 = bp (ix p1 (y 4) ∧ ix p2 (y 0))), V p₀ l e₀ (rmD 7 4 24) s₀ m₀ as₀ bl₀ me₀ c₀ (vx_MQ bl₀ (Po G (PoC x h (if ix p1 (y 4) ∧ ix p2 (y 0) then 0 else 1) (nI (qIb y (z p1) (z p2))) y k D S sv N T)) (PX G (PxC x h (if ix p1 (y 4) ∧ ix p2 (y 0) then 0 else 1) [ioE] y k D S sv N T)) as₀ s₀ 4 24 (rg G)) G 7 0 0 n h 27 [(0, .ref x), (1, .int p1), (2, .int p2)] [.int (nI b9)] := by
    intro b9 hb9
    refine V_callSX 30 C hE dX9_ifBrought_27 rfl mX9_requireThere tw573 (c_X9_requireThere l G _ _ hl b9 (by rw [hb9]; exact bp_le)) rfl rfl (by decide) ⟨by omega, by omega⟩ (Nat.le_of_ble_eq_true rfl) (fun _ _ e => by obtain ⟨rfl, e2, rfl⟩ := e; exact PxC_mk 1 (if_neg (bp_0.mp (by rw [← hb9]; exact e2))) (by decide) rfl hS FX.rf) ?_
    rintro _ _ _ ⟨rfl, hb27, rfl, rfl⟩
    have ht : ix p1 (y 4) ∧ ix p2 (y 0) := bp_1.mp (by rw [← hb9]; omega)
    obtain ⟨j1, hj1, rfl⟩ := ix_of ht.1 (by omega)
    obtain ⟨j2, hj2, rfl⟩ := ix_of ht.2 (by omega)
    have hcell := cty_sh w1 hj1 i4
    obtain ⟨hb1, hb2⟩ := ib_b hIy hj1
    obtain ⟨s0, s1, s2, s3, s4, s5⟩ := iS j1 hj1
    unfold NO at s4
    have hd100 := dst_100 hIy (a := ibS y j1) (t := j2) (by omega)
    have hdl := dst_le y (ibS y j1) j2
    have hmb := mo_b hdl
    have hF := FAR_eq
    refine V_aload_n 31 C dX9_ifBrought_30 rfl rfl ?_
    refine V_get (k := 0) 34 C dX9_ifBrought_31 rfl fcX9 tw228 (by decide) rfl w0 rfl ?_
    refine V_get (k := 10) 37 C dX9_ifBrought_34 rfl fcX1 tw147 (by decide) rfl w1.1 rfl ?_
    refine V_iload_n 38 C dX9_ifBrought_37 rfl rfl ?_
    refine V_aald (j := j1) 39 C dX9_ifBrought_38 rfl hfS rfl rfl (by omega) (by omega) (hSS _ (by omega)) ?_
    refine V_get (k := 5) 42 C dX9_ifBrought_39 rfl fcX8 tw107 (by decide) rfl hcell rfl ?_
    refine V_istore_n 43 C dX9_ifBrought_42 rfl (by decide) (L' := [(0, _), (1, _), (2, _), (3, _)]) rfl ?_
    refine V_iconst 44 C dX9_ifBrought_43 rfl ic0 ?_
    refine V_istore 46 C dX9_ifBrought_44 rfl (by decide) (L' := [(0, _), (1, _), (2, _), (3, _), (4, _)]) rfl ?_
    refine V_aload_n 47 C dX9_ifBrought_46 rfl rfl ?_
    refine V_get (k := 0) 50 C dX9_ifBrought_47 rfl fcX9 tw228 (by decide) rfl w0 rfl ?_
    refine V_get (k := 10) 53 C dX9_ifBrought_50 rfl fcX1 tw147 (by decide) rfl w1.1 rfl ?_
    refine V_iload_n 54 C dX9_ifBrought_53 rfl rfl ?_
    refine V_aald (j := j1) 55 C dX9_ifBrought_54 rfl hfS rfl rfl (by omega) (by omega) (hSS _ (by omega)) ?_
    refine V_get (k := 4) 58 C dX9_ifBrought_55 rfl fcX8 tw104 (by decide) rfl hcell rfl ?_
    refine V_istore 60 C dX9_ifBrought_58 rfl (by decide) (L' := [(0, _), (1, _), (2, _), (3, _), (4, _), (5, _)]) rfl ?_
    refine V_iload 62 C dX9_ifBrought_60 rfl rfl ?_
    refine V_iconst 63 C dX9_ifBrought_62 rfl icm1 ?_
    have J95 : V p₀ l e₀ (rmD 7 4 24) s₀ m₀ as₀ bl₀ me₀ c₀ (vx_MQ bl₀ (Po G (PoC x h (if ix (nI j1) (y 4) ∧ ix (nI j2) (y 0) then 0 else 1) (nI (qIb y (z (nI j1)) (z (nI j2)))) y k D S sv N T)) (PX G (PxC x h (if ix (nI j1) (y 4) ∧ ix (nI j2) (y 0) then 0 else 1) [ioE] y k D S sv N T)) as₀ s₀ 4 24 (rg G)) G 7 1 6 n h 95 [(0, .ref x), (1, .int (nI j1)), (2, .int (nI j2)), (3, .int (nI (ibS y j1))), (4, .int (nI (ibL y j1)))] [] := by
      refine V_aload_n 96 C dX9_ifBrought_95 rfl rfl ?_
      refine V_get (k := 3) 99 C dX9_ifBrought_96 rfl fcX9 tw231 (by decide) rfl w0 rfl ?_
      refine V_aload_n 100 C dX9_ifBrought_99 rfl rfl ?_
      refine V_get (k := 0) 103 C dX9_ifBrought_100 rfl fcX9 tw228 (by decide) rfl w0 rfl ?_
      refine V_iload_n 104 C dX9_ifBrought_103 rfl rfl ?_
      refine V_iload_n 105 C dX9_ifBrought_104 rfl rfl ?_
      refine V_callV 108 C dX9_ifBrought_105 rfl mX4_nearestFirst tw774 fcX4 w4.1 (c_X4_nearestFirst l G _ _ (x + 547) pf pg w4 (x + 1) y w1 hIy (by omega) (ibS y j1) j2 (by omega) (by omega)) rfl rfl (by decide) ⟨by omega, by omega⟩ (Nat.le_of_ble_eq_true rfl) ?_
      rintro _ _ _ ⟨rfl, rfl, f2, g2, rfl⟩
      have hS2 := hS.plu (f2 := f2) (g2 := g2)
      have w0b := hS2.1
      have w1b := hS2.2.1
      refine V_istore 110 C dX9_ifBrought_108 rfl (by decide) (L' := [(0, _), (1, _), (2, _), (3, _), (4, _), (6, _)]) rfl ?_
      refine V_iload 112 C dX9_ifBrought_110 rfl rfl ?_
      refine V_iconst 113 C dX9_ifBrought_112 rfl icm1 ?_
      refine V_icmp_neN 120 116 C dX9_ifBrought_113 (by decide) rfl (by omega) (by omega) (fun c113 => ?_) (fun c113 => ?_)
      · have hnF : ¬ dst y (ibS y j1) j2 = FAR := fun e => c113 (mo_y e)
        have hq : qIb y j1 j2 = ers y j1 (ibL y j1 + mo (dst y (ibS y j1) j2)) := by unfold qIb; rw [if_neg hnF, mo_n hnF]
        have hmo := mo_n hnF
        refine V_aload_n 121 C dX9_ifBrought_120 rfl rfl ?_
        refine V_get (k := 0) 124 C dX9_ifBrought_121 rfl fcX9 tw228 (by decide) rfl w0b rfl ?_
        refine V_iload_n 125 C dX9_ifBrought_124 rfl rfl ?_
        refine V_iload 127 C dX9_ifBrought_125 rfl rfl ?_
        refine V_iload 129 C dX9_ifBrought_127 rfl rfl ?_
        refine V_iaddN 130 C dX9_ifBrought_129 rfl  ?_
        refine V_callV 133 C dX9_ifBrought_130 rfl mX1_errorsAfter tw613 fcX1 w1b.1 (c_X1_errorsAfter l G _ _ (x + 1) y w1b hIy j1 (ibL y j1 + mo (dst y (ibS y j1) j2)) hj1 (by omega)) rfl rfl (by decide) ⟨by omega, by omega⟩ (Nat.le_of_ble_eq_true rfl) ?_
        rintro _ _ _ ⟨rfl, rfl, rfl⟩
        refine V_x (V_ireturn C dX9_ifBrought_133 rfl rfl (by omega) (by omega) ?_)
        exact (PoC_mk (if_pos ht) (by rw [zn (by omega), zn (by omega), hq]) hS2 FX.plu)
      · have hq : qIb y j1 j2 = 4294967295 := if_pos ((mo_iff hdl).mp c113)
        refine V_iconst 117 C dX9_ifBrought_116 rfl icm1 ?_
        refine V_goto 133 C dX9_ifBrought_117 (by decide) ?_
        refine V_x (V_ireturn C dX9_ifBrought_133 rfl rfl (by omega) (by omega) ?_)
        exact (PoC_mk (if_pos ht) (by rw [zn (by omega), zn (by omega), hq]) hS2 FX.plu)
    refine V_icmp_eqN 95 66 C dX9_ifBrought_63 (by decide) rfl (by omega) (by omega) (fun c63 => ?_) (fun c63 => ?_)
    · have e1 : ibS y j1 = y (58 + 6 * j1 + 5) := if_pos c63
      have e2 : ibL y j1 = 0 := if_pos c63
      refine V_L [0, 1, 2, 3, 4] rfl ?_
      have J := J95
      rw [e1, e2] at J
      exact J
    · have hcu : y (58 + 6 * j1 + 4) < y 2 := by omega
      have hru := cty_ru w1 hcu i2
      obtain ⟨u0, u1⟩ := iU _ hcu
      have e1 : ibS y j1 = y (37 + 3 * y (58 + 6 * j1 + 4)) := if_neg c63
      have e2 : ibL y j1 = y (37 + 3 * y (58 + 6 * j1 + 4) + 1) := if_neg c63
      refine V_aload_n 67 C dX9_ifBrought_66 rfl rfl ?_
      refine V_get (k := 0) 70 C dX9_ifBrought_67 rfl fcX9 tw228 (by decide) rfl w0 rfl ?_
      refine V_get (k := 8) 73 C dX9_ifBrought_70 rfl fcX1 tw142 (by decide) rfl w1.1 rfl ?_
      refine V_iload 75 C dX9_ifBrought_73 rfl rfl ?_
      refine V_aald (j := y (58 + 6 * j1 + 4)) 76 C dX9_ifBrought_75 rfl hfU rfl rfl (by omega) (by omega) (hU _ (by omega)) ?_
      refine V_get (k := 0) 79 C dX9_ifBrought_76 rfl fcX6 tw67 (by decide) rfl hru rfl ?_
      refine V_istore_n 80 C dX9_ifBrought_79 rfl (by decide) (L' := [(0, _), (1, _), (2, _), (3, _), (4, _), (5, _)]) rfl ?_
      refine V_aload_n 81 C dX9_ifBrought_80 rfl rfl ?_
      refine V_get (k := 0) 84 C dX9_ifBrought_81 rfl fcX9 tw228 (by decide) rfl w0 rfl ?_
      refine V_get (k := 8) 87 C dX9_ifBrought_84 rfl fcX1 tw142 (by decide) rfl w1.1 rfl ?_
      refine V_iload 89 C dX9_ifBrought_87 rfl rfl ?_
      refine V_aald (j := y (58 + 6 * j1 + 4)) 90 C dX9_ifBrought_89 rfl hfU rfl rfl (by omega) (by omega) (hU _ (by omega)) ?_
      refine V_get (k := 1) 93 C dX9_ifBrought_90 rfl fcX6 tw70 (by decide) rfl hru rfl ?_
      refine V_istore 95 C dX9_ifBrought_93 rfl (by decide) (L' := [(0, _), (1, _), (2, _), (3, _), (4, _), (5, _)]) rfl ?_
      refine V_L [0, 1, 2, 3, 4] rfl ?_
      have J := J95
      rw [e1, e2] at J
      exact J
  refine V_get (k := 0) 4 C dX9_ifBrought_1 rfl fcX9 tw228 (by decide) rfl w0 rfl ?_
  refine V_iload_n 5 C dX9_ifBrought_4 rfl rfl ?_
  refine V_callV 8 C dX9_ifBrought_5 rfl mX1_hasSheet tw611 fcX1 w1.1 (c_X1_hasSheet l G _ _ (x + 1) y w1 hIy p1) rfl rfl (by decide) ⟨by omega, by omega⟩ (Nat.le_of_ble_eq_true rfl) ?_
  rintro _ _ _ ⟨rfl, rfl, rfl⟩
  refine V_if_eqB 26 11 C dX9_ifBrought_8 (by decide) rfl  (fun c8 => ?_) (fun c8 => ?_)
  · have hno : ¬ (ix p1 (y 4) ∧ ix p2 (y 0)) := fun e => c8 e.1
    refine V_iconst 27 C dX9_ifBrought_26 rfl ic0 ?_
    refine V_L [0, 1, 2] rfl ?_
    exact J27 0 (bp_f hno).symm
  · refine V_aload_n 12 C dX9_ifBrought_11 rfl rfl ?_
    refine V_get (k := 0) 15 C dX9_ifBrought_12 rfl fcX9 tw228 (by decide) rfl w0 rfl ?_
    refine V_iload_n 16 C dX9_ifBrought_15 rfl rfl ?_
    refine V_callV 19 C dX9_ifBrought_16 rfl mX1_hasTown tw773 fcX1 w1.1 (c_X1_hasTown l G _ _ (x + 1) y w1 hIy p2) rfl rfl (by decide) ⟨by omega, by omega⟩ (Nat.le_of_ble_eq_true rfl) ?_
    rintro _ _ _ ⟨rfl, rfl, rfl⟩
    refine V_if_eqB 26 22 C dX9_ifBrought_19 (by decide) rfl  (fun c19 => ?_) (fun c19 => ?_)
    · have hno : ¬ (ix p1 (y 4) ∧ ix p2 (y 0)) := fun e => c19 e.2
      refine V_iconst 27 C dX9_ifBrought_26 rfl ic0 ?_
      refine V_L [0, 1, 2] rfl ?_
      exact J27 0 (bp_f hno).symm
    · refine V_iconst 23 C dX9_ifBrought_22 rfl ic1 ?_
      refine V_goto 27 C dX9_ifBrought_23 (by decide) ?_
      refine V_L [0, 1, 2] rfl ?_
      exact J27 1 (bp_t ⟨c8, c19⟩).symm


