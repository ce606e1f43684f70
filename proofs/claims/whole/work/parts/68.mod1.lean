/-! THE REFERENCE'S FACE: reads -/
theorem inI {v : Int32} {lo hi : Nat} {a b : Int64} (ha : a.toInt = (lo : Int)) (hb : b.toInt = (hi : Int)) : bp (a.toInt ≤ v.toInt64.toInt ∧ v.toInt64.toInt ≤ b.toInt) = bp ((lo : Int) ≤ v.toInt ∧ v.toInt ≤ (hi : Int)) := by
  apply bp_c
  rw [Int32.toInt_toInt64, ha, hb]
theorem or0 {a : Nat} (ha : a < 2 ^ 32) : nI a ||| nI 0 = nI a := by rw [orN ha (by omega), Nat.or_zero]
def Bt (y : Nat → Nat) (m i : Nat) : Prop := y (58 + 6 * i) = m ∧ (bestk y m i = 4294967295 ∨ (ers y i 0 < ers y (bestk y m i) 0 ∨ (ers y i 0 = ers y (bestk y m i) 0 ∧ y (58 + 6 * bestk y m i + 2) < y (58 + 6 * i + 2))))
theorem best_t {y : Nat → Nat} {m i : Nat} (h : Bt y m i) : bestk y m (i + 1) = i := if_pos h
theorem best_f {y : Nat → Nat} {m i : Nat} (h : ¬ Bt y m i) : bestk y m (i + 1) = bestk y m i := if_neg h
theorem worth_lt {a e a2 e2 : Nat} (ha : a ≤ 99) (he : e ≤ 6) (ha2 : a2 ≤ 99) (he2 : e2 ≤ 6) : nI a - nI (100 * e) ≤ nI a2 - nI (100 * e2) ↔ ¬ (e < e2 ∨ (e = e2 ∧ a2 < a)) := by
  rw [Int32.le_iff_toInt_le, pk_sub_toInt (by omega) (by omega), pk_sub_toInt (by omega) (by omega)]
  omega
theorem dX10_refused_0 : decode cX10_refused 0 = .ok (.aload_n 0, 1) := by decide +kernel
theorem dX10_refused_1 : decode cX10_refused 1 = .ok (.iload_n 1, 1) := by decide +kernel
theorem dX10_refused_2 : decode cX10_refused 2 = .ok (.putfield 36, 3) := by decide +kernel
theorem dX10_refused_5 : decode cX10_refused 5 = .ok (.iload_n 1, 1) := by decide +kernel
theorem dX10_refused_6 : decode cX10_refused 6 = .ok (.ifCond .le 7, 3) := by decide +kernel
theorem dX10_refused_9 : decode cX10_refused 9 = .ok (.iconst 1, 1) := by decide +kernel
theorem dX10_refused_10 : decode cX10_refused 10 = .ok (.goto 4, 3) := by decide +kernel
theorem dX10_refused_13 : decode cX10_refused 13 = .ok (.iconst 0, 1) := by decide +kernel
theorem dX10_refused_14 : decode cX10_refused 14 = .ok (.ireturn, 1) := by decide +kernel
set_option maxRecDepth 100000 in
set_option maxHeartbeats 4000000 in
theorem c_X10_refused (l : Launch) (G : GT) (n : Nat) (h : AH) (m : Nat) (rf sz ac sp ou : Int32) (hm : h m = some (obM m rf sz ac sp ou)) (w : Nat) (hw : w ≤ 3) : Ct l yX10_refused cX10_refused 2 (some .boolean) 1 0 0 G n h [.ref m, .int (nI w)] (Ri (nI (bp (0 < w))) n (fun h' => h' = up h m (obM m (nI w) sz ac sp ou))) := by
  refine Ct_of mX10_refused.1 (Nat.le_of_ble_eq_true rfl) ?_
  intro p₀ e₀ s₀ m₀ as₀ bl₀ me₀ c₀ C hin
  refine V_Le (L' := [(0, .ref m), (1, .int (nI w))]) rfl ?_
  refine V_aload_n 1 C dX10_refused_0 rfl rfl ?_
  refine V_iload_n 2 C dX10_refused_1 rfl rfl ?_
  refine V_put (fs' := [_, _, _, _, _, _, _, _, _, _, _, _]) (k := 0) 5 C dX10_refused_2 rfl fcX10 tw936 (by decide) rfl rfl hm rfl rfl (Nat.le_of_ble_eq_true rfl) rfl ?_
  refine V_iload_n 6 C dX10_refused_5 rfl rfl ?_
  refine V_if_leN 13 9 C dX10_refused_6 (by decide) rfl (by omega) (fun c6 => ?_) (fun c6 => ?_)
  · have e1 : bp (0 < w) = 0 := bp_f (by omega)
    refine V_iconst 14 C dX10_refused_13 rfl ic0 ?_
    refine V_ireturn C dX10_refused_14 rfl (by decide) (by omega) (by omega) ?_
    exact ⟨by rw [e1], rfl, rfl⟩
  · have e1 : bp (0 < w) = 1 := bp_t (by omega)
    refine V_iconst 10 C dX10_refused_9 rfl ic1 ?_
    refine V_goto 14 C dX10_refused_10 (by decide) ?_
    refine V_ireturn C dX10_refused_14 rfl (by decide) (by omega) (by omega) ?_
    exact ⟨by rw [e1], rfl, rfl⟩

theorem dX10_thrown_0 : decode cX10_thrown 0 = .ok (.aload_n 0, 1) := by decide +kernel
theorem dX10_thrown_1 : decode cX10_thrown 1 = .ok (.getfield 36, 3) := by decide +kernel
theorem dX10_thrown_4 : decode cX10_thrown 4 = .ok (.ireturn, 1) := by decide +kernel
set_option maxRecDepth 100000 in
set_option maxHeartbeats 4000000 in
theorem c_X10_thrown (l : Launch) (G : GT) (n : Nat) (h : AH) (m : Nat) (rf sz ac sp ou : Int32) (hm : h m = some (obM m rf sz ac sp ou)) : Ct l yX10_thrown cX10_thrown 1 (some .int) 1 0 0 G n h [.ref m] (Rt rf n h) := by
  refine Ct_of mX10_thrown.1 (Nat.le_of_ble_eq_true rfl) ?_
  intro p₀ e₀ s₀ m₀ as₀ bl₀ me₀ c₀ C hin
  refine V_Le (L' := [(0, .ref m)]) rfl ?_
  refine V_aload_n 1 C dX10_thrown_0 rfl rfl ?_
  refine V_get (k := 0) 4 C dX10_thrown_1 rfl fcX10 tw936 (by decide) rfl hm rfl ?_
  refine V_ireturn C dX10_thrown_4 rfl rfl (by omega) (by omega) ?_
  exact ⟨rfl, rfl, rfl⟩

theorem dX10_about_0 : decode cX10_about 0 = .ok (.aload_n 0, 1) := by decide +kernel
theorem dX10_about_1 : decode cX10_about 1 = .ok (.iload_n 1, 1) := by decide +kernel
theorem dX10_about_2 : decode cX10_about 2 = .ok (.i2l, 1) := by decide +kernel
theorem dX10_about_3 : decode cX10_about 3 = .ok (.lconst 0, 1) := by decide +kernel
theorem dX10_about_4 : decode cX10_about 4 = .ok (.ldc2_w 92, 3) := by decide +kernel
theorem dX10_about_7 : decode cX10_about 7 = .ok (.invokestatic 40, 3) := by decide +kernel
theorem dX10_about_10 : decode cX10_about 10 = .ok (.ifCond .eq 7, 3) := by decide +kernel
theorem dX10_about_13 : decode cX10_about 13 = .ok (.iconst 0, 1) := by decide +kernel
theorem dX10_about_14 : decode cX10_about 14 = .ok (.goto 4, 3) := by decide +kernel
theorem dX10_about_17 : decode cX10_about 17 = .ok (.iconst 1, 1) := by decide +kernel
theorem dX10_about_18 : decode cX10_about 18 = .ok (.invokevirtual 124, 3) := by decide +kernel
theorem dX10_about_21 : decode cX10_about 21 = .ok (.ifCond .eq 5, 3) := by decide +kernel
theorem dX10_about_24 : decode cX10_about 24 = .ok (.iconst 0, 1) := by decide +kernel
theorem dX10_about_25 : decode cX10_about 25 = .ok (.ireturn, 1) := by decide +kernel
theorem dX10_about_26 : decode cX10_about 26 = .ok (.iconst 0, 1) := by decide +kernel
theorem dX10_about_27 : decode cX10_about 27 = .ok (.istore_n 2, 1) := by decide +kernel
theorem dX10_about_28 : decode cX10_about 28 = .ok (.iconst 0, 1) := by decide +kernel
theorem dX10_about_29 : decode cX10_about 29 = .ok (.istore_n 3, 1) := by decide +kernel
theorem dX10_about_30 : decode cX10_about 30 = .ok (.iload_n 3, 1) := by decide +kernel
theorem dX10_about_31 : decode cX10_about 31 = .ok (.aload_n 0, 1) := by decide +kernel
theorem dX10_about_32 : decode cX10_about 32 = .ok (.getfield 13, 3) := by decide +kernel
theorem dX10_about_35 : decode cX10_about 35 = .ok (.iconst 2, 1) := by decide +kernel
theorem dX10_about_36 : decode cX10_about 36 = .ok (.iaload, 1) := by decide +kernel
theorem dX10_about_37 : decode cX10_about 37 = .ok (.if_icmp .ge 31, 3) := by decide +kernel
theorem dX10_about_40 : decode cX10_about 40 = .ok (.iload_n 2, 1) := by decide +kernel
theorem dX10_about_41 : decode cX10_about 41 = .ok (.aload_n 0, 1) := by decide +kernel
theorem dX10_about_42 : decode cX10_about 42 = .ok (.getfield 13, 3) := by decide +kernel
theorem dX10_about_45 : decode cX10_about 45 = .ok (.iload_n 3, 1) := by decide +kernel
theorem dX10_about_46 : decode cX10_about 46 = .ok (.invokestatic 51, 3) := by decide +kernel
theorem dX10_about_49 : decode cX10_about 49 = .ok (.iconst (-1), 1) := by decide +kernel
theorem dX10_about_50 : decode cX10_about 50 = .ok (.if_icmp .eq 9, 3) := by decide +kernel
theorem dX10_about_53 : decode cX10_about 53 = .ok (.iconst 1, 1) := by decide +kernel
theorem dX10_about_54 : decode cX10_about 54 = .ok (.iload_n 3, 1) := by decide +kernel
theorem dX10_about_55 : decode cX10_about 55 = .ok (.ishl, 1) := by decide +kernel
theorem dX10_about_56 : decode cX10_about 56 = .ok (.goto 4, 3) := by decide +kernel
theorem dX10_about_59 : decode cX10_about 59 = .ok (.iconst 0, 1) := by decide +kernel
theorem dX10_about_60 : decode cX10_about 60 = .ok (.ior, 1) := by decide +kernel
theorem dX10_about_61 : decode cX10_about 61 = .ok (.istore_n 2, 1) := by decide +kernel
theorem dX10_about_62 : decode cX10_about 62 = .ok (.iinc 3 1, 3) := by decide +kernel
theorem dX10_about_65 : decode cX10_about 65 = .ok (.goto (-35), 3) := by decide +kernel
theorem dX10_about_68 : decode cX10_about 68 = .ok (.iload_n 1, 1) := by decide +kernel
theorem dX10_about_69 : decode cX10_about 69 = .ok (.tableswitch 57 6 9 #[31, 39, 47, 55], 31) := by decide +kernel
theorem dX10_about_100 : decode cX10_about 100 = .ok (.aload_n 0, 1) := by decide +kernel
theorem dX10_about_101 : decode cX10_about 101 = .ok (.getfield 13, 3) := by decide +kernel
theorem dX10_about_104 : decode cX10_about 104 = .ok (.invokestatic 233, 3) := by decide +kernel
theorem dX10_about_107 : decode cX10_about 107 = .ok (.ireturn, 1) := by decide +kernel
theorem dX10_about_108 : decode cX10_about 108 = .ok (.aload_n 0, 1) := by decide +kernel
theorem dX10_about_109 : decode cX10_about 109 = .ok (.getfield 13, 3) := by decide +kernel
theorem dX10_about_112 : decode cX10_about 112 = .ok (.invokestatic 236, 3) := by decide +kernel
theorem dX10_about_115 : decode cX10_about 115 = .ok (.ireturn, 1) := by decide +kernel
theorem dX10_about_116 : decode cX10_about 116 = .ok (.aload_n 0, 1) := by decide +kernel
theorem dX10_about_117 : decode cX10_about 117 = .ok (.getfield 13, 3) := by decide +kernel
theorem dX10_about_120 : decode cX10_about 120 = .ok (.bipush 6, 2) := by decide +kernel
theorem dX10_about_122 : decode cX10_about 122 = .ok (.iaload, 1) := by decide +kernel
theorem dX10_about_123 : decode cX10_about 123 = .ok (.ireturn, 1) := by decide +kernel
theorem dX10_about_124 : decode cX10_about 124 = .ok (.iload_n 2, 1) := by decide +kernel
theorem dX10_about_125 : decode cX10_about 125 = .ok (.ireturn, 1) := by decide +kernel
theorem dX10_about_126 : decode cX10_about 126 = .ok (.aload_n 0, 1) := by decide +kernel
theorem dX10_about_127 : decode cX10_about 127 = .ok (.getfield 13, 3) := by decide +kernel
theorem dX10_about_130 : decode cX10_about 130 = .ok (.iload_n 1, 1) := by decide +kernel
theorem dX10_about_131 : decode cX10_about 131 = .ok (.iaload, 1) := by decide +kernel
theorem dX10_about_132 : decode cX10_about 132 = .ok (.ireturn, 1) := by decide +kernel
set_option maxRecDepth 100000 in
set_option maxHeartbeats 4000000 in
theorem c_X10_about (l : Launch) (G : GT) (n : Nat) (h : AH) (m : Nat) (rf : Int32) (y : Nat → Nat) (k : Nat) (D S : Nat → Nat → Nat) (sv : Nat → Bool) (N : Nat) (T : Nat → Nat) (hS : SysM m rf y k D S sv N T h) (hI : SI y k D S sv N T) (pq1 : Int32) : Ct l yX10_about cX10_about 4 (some .int) 7 0 0 G n h [.ref m, .int pq1] (PoM m n h (if ix pq1 10 then 0 else 1) (nI (qAbout y (z pq1))) y k D S sv N T) := by
  have NE := NO_eq
  obtain ⟨⟨sp, ou, g1, hmx⟩, hx, ⟨yt, hxt⟩, ⟨gd, hgd, hdia⟩, ⟨gk, hgk, hkp⟩, ⟨gi, hgi, hik⟩, ⟨gf, hgf⟩⟩ := id hS
  obtain ⟨hNn, hm, hg1, hch⟩ := id hmx
  obtain ⟨hIy, hk14, hID, hIS, hN, hT⟩ := id hI
  obtain ⟨⟨i0, i1, i2, i3, i4⟩, iR, iU, iM, iS⟩ := id hIy
  refine Ct_of mX10_about.1 (Nat.le_of_ble_eq_true rfl) ?_
  intro p₀ e₀ s₀ m₀ as₀ bl₀ me₀ c₀ C hin
  refine V_Le (L' := [(0, .ref m), (1, .int pq1)]) rfl ?_
  refine V_aload_n 1 C dX10_about_0 rfl rfl ?_
  refine V_iload_n 2 C dX10_about_1 rfl rfl ?_
  refine V_i2l 3 C dX10_about_2 rfl  ?_
  refine V_lconst 4 C dX10_about_3 rfl rfl ?_
  refine V_ldc2 7 C dX10_about_4 rfl tw1024 ?_
  refine V_callS 10 C dX10_about_7 rfl mX10_in tw982 (c_X10_in l G _ _ _ _ _) rfl rfl (by decide) ⟨by omega, by omega⟩ (Nat.le_of_ble_eq_true rfl) ?_
  rintro _ _ _ ⟨rfl, rfl, rfl⟩
  rw [inI (v := pq1) (lo := 0) (hi := 9) (by decide +kernel) (by decide +kernel)]
  have J18 : ∀ (w9 : Nat) (hw9 : w9 ≤ 3) (hq : (¬ w9 = 0 ∧ (if ix pq1 10 then 0 else 1) = w9) ∨ (w9 = 0 ∧ (if ix pq1 10 then 0 else 1) = 0 ∧ ix pq1 10)), V p₀ l e₀ (rmD 7 0 0) s₀ m₀ as₀ bl₀ me₀ c₀ (MQ bl₀ (Po G (PoM m n h (if ix pq1 10 then 0 else 1) (nI (qAbout y (z pq1))) y k D S sv N T)) as₀ s₀ 0 0 (rg G)) G 4 0 0 n h 18 [(0, .ref m), (1, .int pq1)] [.int (nI w9), .ref m] := by
    intro w9 hw9 hq
    refine V_callV 21 C dX10_about_18 rfl mX10_refused tw985 fcX10 hm (c_X10_refused l G _ _ m rf (nI N) (nI k) sp ou hm w9 hw9) rfl rfl (by decide) ⟨by omega, by omega⟩ (Nat.le_of_ble_eq_true rfl) ?_
    rintro _ _ h1 ⟨rfl, rfl, eh1⟩
    have hm1 : h1 m = some (obM m (nI w9) (nI N) (nI k) sp ou) := by rw [eh1]; exact up_s _ _ _
    have hF1 : ∀ a, ¬ a = m → h1 a = h a := fun a ha => by rw [eh1]; exact up_n _ ha
    have hS1 : SysM m (nI w9) y k D S sv N T h1 := hS.ob hm1 hF1
    have hX1 : FM m h h1 := fun a ha => hF1 a (by omega)
    have hx1 : Row (m + 2) y h1 := (hF1 _ (by omega)).trans hx
    refine V_if_eqB 26 24 C dX10_about_21 (by decide) rfl  (fun cq21 => ?_) (fun cq21 => ?_)
    · obtain ⟨rfl, hk0, hFF⟩ := hq.resolve_left (fun e => by omega)
      obtain ⟨j1, hj1, rfl⟩ := ix_of hFF (by omega)
      refine V_iconst 27 C dX10_about_26 rfl ic0 ?_
      refine V_istore_n 28 C dX10_about_27 rfl (by decide) (L' := [(0, _), (1, _), (2, _)]) rfl ?_
      refine V_iconst 29 C dX10_about_28 rfl ic0 ?_
      refine V_istore_n 30 C dX10_about_29 rfl (by decide) (L' := [(0, _), (1, _), (2, _), (3, _)]) rfl ?_
      have J30 : ∀ (fuel : Nat) (i9 : Nat) (hi9 : i9 ≤ y 2), y 2 - i9 < fuel → V p₀ l e₀ (rmD 7 0 0) s₀ m₀ as₀ bl₀ me₀ c₀ (MQ bl₀ (Po G (PoM m n h (if ix (nI j1) 10 then 0 else 1) (nI (qAbout y (z (nI j1)))) y k D S sv N T)) as₀ s₀ 0 0 (rg G)) G 4 0 0 n h1 30 [(0, .ref m), (1, .int (nI j1)), (2, .int (nI (rtk y i9))), (3, .int (nI i9))] [] := by
        intro fuel
        induction fuel with
        | zero => intro i9 hi9 hf; omega
        | succ fuel ih30 =>
          intro i9 hi9 hf
          refine V_iload_n 31 C dX10_about_30 rfl rfl ?_
          refine V_aload_n 32 C dX10_about_31 rfl rfl ?_
          refine V_get (k := 3) 35 C dX10_about_32 rfl fcX10 tw939 (by decide) rfl hm1 rfl ?_
          refine V_iconst 36 C dX10_about_35 rfl ic2 ?_
          refine V_iald (j := 2) 37 C dX10_about_36 rfl hx1 rfl (by omega) (by omega) ?_
          refine V_icmp_geN 68 40 C dX10_about_37 (by decide) rfl (by omega) (by omega) (fun cq37 => ?_) (fun cq37 => ?_)
          · have ei : i9 = y 2 := by omega
            refine V_iload_n 69 C dX10_about_68 rfl rfl ?_
            refine V_case 6 (fun cq69_6 => ?_) (fun n69_6 => ?_)
            · refine V_tsI 100 C dX10_about_69 cq69_6 (by decide) (by decide) (by decide) rfl (by decide) ?_
              refine V_aload_n 101 C dX10_about_100 rfl rfl ?_
              refine V_get (k := 3) 104 C dX10_about_101 rfl fcX10 tw939 (by decide) rfl hm1 rfl ?_
              refine V_callS 107 C dX10_about_104 rfl mX10_allErrors tw1161 (c_X10_allErrors l G _ _ (m + 2) y hx1 hIy) rfl rfl (by decide) ⟨by omega, by omega⟩ (Nat.le_of_ble_eq_true rfl) ?_
              rintro _ _ _ ⟨rfl, rfl, rfl⟩
              refine V_ireturn C dX10_about_107 rfl rfl (by omega) (by omega) ?_
              exact (PoM_0 hk0 rfl (by rw [zn (by omega), cq69_6]; rfl) hS1 hX1)
            · skip
              refine V_case 7 (fun cq69_7 => ?_) (fun n69_7 => ?_)
              · refine V_tsI 108 C dX10_about_69 cq69_7 (by decide) (by decide) (by decide) rfl (by decide) ?_
                refine V_aload_n 109 C dX10_about_108 rfl rfl ?_
                refine V_get (k := 3) 112 C dX10_about_109 rfl fcX10 tw939 (by decide) rfl hm1 rfl ?_
                refine V_callS 115 C dX10_about_112 rfl mX10_blanks tw1167 (c_X10_blanks l G _ _ (m + 2) y hx1 hIy) rfl rfl (by decide) ⟨by omega, by omega⟩ (Nat.le_of_ble_eq_true rfl) ?_
                rintro _ _ _ ⟨rfl, rfl, rfl⟩
                refine V_ireturn C dX10_about_115 rfl rfl (by omega) (by omega) ?_
                exact (PoM_0 hk0 rfl (by rw [zn (by omega), cq69_7]; rfl) hS1 hX1)
              · skip
                refine V_case 8 (fun cq69_8 => ?_) (fun n69_8 => ?_)
                · refine V_tsI 116 C dX10_about_69 cq69_8 (by decide) (by decide) (by decide) rfl (by decide) ?_
                  refine V_aload_n 117 C dX10_about_116 rfl rfl ?_
                  refine V_get (k := 3) 120 C dX10_about_117 rfl fcX10 tw939 (by decide) rfl hm1 rfl ?_
                  refine V_bipush 122 C dX10_about_120 rfl bip6 ?_
                  refine V_iald (j := 6) 123 C dX10_about_122 rfl hx1 rfl (by omega) (by omega) ?_
                  refine V_ireturn C dX10_about_123 rfl rfl (by omega) (by omega) ?_
                  exact (PoM_0 hk0 rfl (by rw [zn (by omega), cq69_8]; rfl) hS1 hX1)
                · skip
                  refine V_case 9 (fun cq69_9 => ?_) (fun n69_9 => ?_)
                  · refine V_tsI 124 C dX10_about_69 cq69_9 (by decide) (by decide) (by decide) rfl (by decide) ?_
                    refine V_iload_n 125 C dX10_about_124 rfl rfl ?_
                    refine V_ireturn C dX10_about_125 rfl rfl (by omega) (by omega) ?_
                    exact (PoM_0 hk0 rfl (by rw [zn (by omega), cq69_9, ei]; rfl) hS1 hX1)
                  · skip
                    refine V_tsD 126 [6, 7, 8, 9] C dX10_about_69 (lo' := 6) rfl rfl (by omega) ⟨n69_6, n69_7, n69_8, n69_9, trivial⟩ (by decide) (by decide) ?_
                    refine V_aload_n 127 C dX10_about_126 rfl rfl ?_
                    refine V_get (k := 3) 130 C dX10_about_127 rfl fcX10 tw939 (by decide) rfl hm1 rfl ?_
                    refine V_iload_n 131 C dX10_about_130 rfl rfl ?_
                    refine V_iald (j := j1) 132 C dX10_about_131 rfl hx1 rfl (by omega) (by omega) ?_
                    refine V_ireturn C dX10_about_132 rfl rfl (by omega) (by omega) ?_
                    exact (PoM_0 hk0 rfl (by rw [zn (by omega)]; unfold qAbout; rw [if_neg n69_6, if_neg n69_7, if_neg n69_8, if_neg n69_9]) hS1 hX1)
          · refine V_iload_n 41 C dX10_about_40 rfl rfl ?_
            refine V_aload_n 42 C dX10_about_41 rfl rfl ?_
            refine V_get (k := 3) 45 C dX10_about_42 rfl fcX10 tw939 (by decide) rfl hm1 rfl ?_
            refine V_iload_n 46 C dX10_about_45 rfl rfl ?_
            refine V_callS 49 C dX10_about_46 rfl mX10_townOf tw1073 (c_X10_townOf l G _ _ (m + 2) y hx1 hIy i9 (by omega)) rfl rfl (by decide) ⟨by omega, by omega⟩ (Nat.le_of_ble_eq_true rfl) ?_
            rintro _ _ _ ⟨rfl, rfl, rfl⟩
            obtain ⟨u0, u1⟩ := iU i9 (by omega)
            have htb := tof_b hIy (show i9 < y 2 by omega)
            unfold NO at htb
            refine V_iconst 50 C dX10_about_49 rfl icm1 ?_
            refine V_icmp_eqN 59 53 C dX10_about_50 (by decide) rfl (by omega) (by omega) (fun cq50 => ?_) (fun cq50 => ?_)
            · have hz : rtk y i9 = rtk y (i9 + 1) := by
                simp only [rtk]
                rw [bp_f (fun e => by have e2 : tof y i9 = y (37 + 3 * i9) := if_pos e; omega)]
                omega
              refine V_iconst 60 C dX10_about_59 rfl ic0 ?_
              refine V_ior 61 C dX10_about_60 rfl  ?_
              first | rw [orbit (by omega) (rtk_lt y i9), hz] | rw [or0 (by have := rtk_lt y i9; have : 2 ^ i9 ≤ 2 ^ 12 := Nat.pow_le_pow_right (by decide) (by omega); omega), hz]
              refine V_istore_n 62 C dX10_about_61 rfl (by decide) (L' := [(0, _), (1, _), (2, _), (3, _)]) rfl ?_
              refine V_iinc 65 C dX10_about_62 rfl (by decide) rfl (ii1 _) (L' := [(0, _), (1, _), (2, _), (3, _)]) rfl ?_
              refine V_goto 30 C dX10_about_65 (by decide) ?_
              refine V_L [0, 1, 2, 3] rfl ?_
              exact ih30 (i9 + 1) (by omega) (by omega)
            · have hz : rtk y i9 + 2 ^ i9 = rtk y (i9 + 1) := by
                simp only [rtk]
                rw [bp_t (show y (37 + 3 * i9 + 1) = 0 from Decidable.not_not.mp (fun e => cq50 (if_neg e)))]
                omega
              have hlt := rtk_lt y i9
              have hp2 : 2 ^ i9 ≤ 2 ^ 12 := Nat.pow_le_pow_right (by decide) (by omega)
              refine V_iconst 54 C dX10_about_53 rfl ic1 ?_
              refine V_iload_n 55 C dX10_about_54 rfl rfl ?_
              refine V_ishl 56 C dX10_about_55 rfl  ?_
              refine V_goto 60 C dX10_about_56 (by decide) ?_
              refine V_ior 61 C dX10_about_60 rfl  ?_
              first | rw [orbit (by omega) (rtk_lt y i9), hz] | rw [or0 (by have := rtk_lt y i9; have : 2 ^ i9 ≤ 2 ^ 12 := Nat.pow_le_pow_right (by decide) (by omega); omega), hz]
              refine V_istore_n 62 C dX10_about_61 rfl (by decide) (L' := [(0, _), (1, _), (2, _), (3, _)]) rfl ?_
              refine V_iinc 65 C dX10_about_62 rfl (by decide) rfl (ii1 _) (L' := [(0, _), (1, _), (2, _), (3, _)]) rfl ?_
              refine V_goto 30 C dX10_about_65 (by decide) ?_
              refine V_L [0, 1, 2, 3] rfl ?_
              exact ih30 (i9 + 1) (by omega) (by omega)
      refine V_L [0, 1, 2, 3] rfl ?_
      exact J30 (y 2 + 1) 0 (by omega) (by omega)
    · have hqn := (hq.resolve_right (fun e => by omega)).2
      refine V_iconst 25 C dX10_about_24 rfl ic0 ?_
      refine V_ireturn C dX10_about_25 rfl rfl (by omega) (by omega) ?_
      exact (PoM_k w9 hqn (by omega) rfl hS1 hX1)
  refine V_if_eqB 17 13 C dX10_about_10 (by decide) rfl  (fun cq10 => ?_) (fun cq10 => ?_)
  · have hno : ¬ ix pq1 10 := fun e => cq10 ⟨by have := e.1; omega, by have := e.2; omega⟩
    refine V_iconst 18 C dX10_about_17 rfl ic1 ?_
    refine V_L [0, 1] rfl ?_
    exact J18 1 (by omega) (Or.inl ⟨by decide, if_neg hno⟩)
  · have hw : ix pq1 10 := ⟨by omega, by omega⟩
    refine V_iconst 14 C dX10_about_13 rfl ic0 ?_
    refine V_goto 18 C dX10_about_14 (by decide) ?_
    refine V_L [0, 1] rfl ?_
    exact J18 0 (by omega) (Or.inr ⟨rfl, if_pos hw, hw⟩)

theorem dX10_roadOf_0 : decode cX10_roadOf 0 = .ok (.aload_n 0, 1) := by decide +kernel
theorem dX10_roadOf_1 : decode cX10_roadOf 1 = .ok (.aload_n 0, 1) := by decide +kernel
theorem dX10_roadOf_2 : decode cX10_roadOf 2 = .ok (.getfield 13, 3) := by decide +kernel
theorem dX10_roadOf_5 : decode cX10_roadOf 5 = .ok (.iload_n 1, 1) := by decide +kernel
theorem dX10_roadOf_6 : decode cX10_roadOf 6 = .ok (.invokestatic 178, 3) := by decide +kernel
theorem dX10_roadOf_9 : decode cX10_roadOf 9 = .ok (.ifCond .ne 7, 3) := by decide +kernel
theorem dX10_roadOf_12 : decode cX10_roadOf 12 = .ok (.iconst 1, 1) := by decide +kernel
theorem dX10_roadOf_13 : decode cX10_roadOf 13 = .ok (.goto 20, 3) := by decide +kernel
theorem dX10_roadOf_16 : decode cX10_roadOf 16 = .ok (.iload_n 2, 1) := by decide +kernel
theorem dX10_roadOf_17 : decode cX10_roadOf 17 = .ok (.i2l, 1) := by decide +kernel
theorem dX10_roadOf_18 : decode cX10_roadOf 18 = .ok (.lconst 0, 1) := by decide +kernel
theorem dX10_roadOf_19 : decode cX10_roadOf 19 = .ok (.ldc2_w 239, 3) := by decide +kernel
theorem dX10_roadOf_22 : decode cX10_roadOf 22 = .ok (.invokestatic 40, 3) := by decide +kernel
theorem dX10_roadOf_25 : decode cX10_roadOf 25 = .ok (.ifCond .eq 7, 3) := by decide +kernel
theorem dX10_roadOf_28 : decode cX10_roadOf 28 = .ok (.iconst 0, 1) := by decide +kernel
theorem dX10_roadOf_29 : decode cX10_roadOf 29 = .ok (.goto 4, 3) := by decide +kernel
theorem dX10_roadOf_32 : decode cX10_roadOf 32 = .ok (.iconst 2, 1) := by decide +kernel
theorem dX10_roadOf_33 : decode cX10_roadOf 33 = .ok (.invokevirtual 124, 3) := by decide +kernel
theorem dX10_roadOf_36 : decode cX10_roadOf 36 = .ok (.ifCond .eq 5, 3) := by decide +kernel
theorem dX10_roadOf_39 : decode cX10_roadOf 39 = .ok (.iconst 0, 1) := by decide +kernel
theorem dX10_roadOf_40 : decode cX10_roadOf 40 = .ok (.ireturn, 1) := by decide +kernel
theorem dX10_roadOf_41 : decode cX10_roadOf 41 = .ok (.aload_n 0, 1) := by decide +kernel
theorem dX10_roadOf_42 : decode cX10_roadOf 42 = .ok (.getfield 13, 3) := by decide +kernel
theorem dX10_roadOf_45 : decode cX10_roadOf 45 = .ok (.iload_n 1, 1) := by decide +kernel
theorem dX10_roadOf_46 : decode cX10_roadOf 46 = .ok (.iload_n 2, 1) := by decide +kernel
theorem dX10_roadOf_47 : decode cX10_roadOf 47 = .ok (.invokestatic 75, 3) := by decide +kernel
theorem dX10_roadOf_50 : decode cX10_roadOf 50 = .ok (.ireturn, 1) := by decide +kernel
set_option maxRecDepth 100000 in
set_option maxHeartbeats 4000000 in
theorem c_X10_roadOf (l : Launch) (G : GT) (n : Nat) (h : AH) (m : Nat) (rf : Int32) (y : Nat → Nat) (k : Nat) (D S : Nat → Nat → Nat) (sv : Nat → Bool) (N : Nat) (T : Nat → Nat) (hS : SysM m rf y k D S sv N T h) (hI : SI y k D S sv N T) (pq1 : Int32) (pq2 : Int32) : Ct l yX10_roadOf cX10_roadOf 3 (some .int) 7 0 0 G n h [.ref m, .int pq1, .int pq2] (PoM m n h (if ix pq1 (y 1) then (if ix pq2 3 then 0 else 2) else 1) (nI (y (7 + 3 * z pq1 + z pq2))) y k D S sv N T) := by
  have NE := NO_eq
  obtain ⟨⟨sp, ou, g1, hmx⟩, hx, ⟨yt, hxt⟩, ⟨gd, hgd, hdia⟩, ⟨gk, hgk, hkp⟩, ⟨gi, hgi, hik⟩, ⟨gf, hgf⟩⟩ := id hS
  obtain ⟨hNn, hm, hg1, hch⟩ := id hmx
  obtain ⟨hIy, hk14, hID, hIS, hN, hT⟩ := id hI
  obtain ⟨⟨i0, i1, i2, i3, i4⟩, iR, iU, iM, iS⟩ := id hIy
  refine Ct_of mX10_roadOf.1 (Nat.le_of_ble_eq_true rfl) ?_
  intro p₀ e₀ s₀ m₀ as₀ bl₀ me₀ c₀ C hin
  refine V_Le (L' := [(0, .ref m), (1, .int pq1), (2, .int pq2)]) rfl ?_
  refine V_aload_n 1 C dX10_roadOf_0 rfl rfl ?_
  refine V_aload_n 2 C dX10_roadOf_1 rfl rfl ?_
  have J33 : ∀ (w9 : Nat) (hw9 : w9 ≤ 3) (hq : (¬ w9 = 0 ∧ (if ix pq1 (y 1) then (if ix pq2 3 then 0 else 2) else 1) = w9) ∨ (w9 = 0 ∧ (if ix pq1 (y 1) then (if ix pq2 3 then 0 else 2) else 1) = 0 ∧ ix pq1 (y 1) ∧ ix pq2 3)), V p₀ l e₀ (rmD 7 0 0) s₀ m₀ as₀ bl₀ me₀ c₀ (MQ bl₀ (Po G (PoM m n h (if ix pq1 (y 1) then (if ix pq2 3 then 0 else 2) else 1) (nI (y (7 + 3 * z pq1 + z pq2))) y k D S sv N T)) as₀ s₀ 0 0 (rg G)) G 3 0 0 n h 33 [(0, .ref m), (1, .int pq1), (2, .int pq2)] [.int (nI w9), .ref m] := by
    intro w9 hw9 hq
    refine V_callV 36 C dX10_roadOf_33 rfl mX10_refused tw985 fcX10 hm (c_X10_refused l G _ _ m rf (nI N) (nI k) sp ou hm w9 hw9) rfl rfl (by decide) ⟨by omega, by omega⟩ (Nat.le_of_ble_eq_true rfl) ?_
    rintro _ _ h1 ⟨rfl, rfl, eh1⟩
    have hm1 : h1 m = some (obM m (nI w9) (nI N) (nI k) sp ou) := by rw [eh1]; exact up_s _ _ _
    have hF1 : ∀ a, ¬ a = m → h1 a = h a := fun a ha => by rw [eh1]; exact up_n _ ha
    have hS1 : SysM m (nI w9) y k D S sv N T h1 := hS.ob hm1 hF1
    have hX1 : FM m h h1 := fun a ha => hF1 a (by omega)
    have hx1 : Row (m + 2) y h1 := (hF1 _ (by omega)).trans hx
    refine V_if_eqB 41 39 C dX10_roadOf_36 (by decide) rfl  (fun cq36 => ?_) (fun cq36 => ?_)
    · obtain ⟨rfl, hk0, hFF⟩ := hq.resolve_left (fun e => by omega)
      obtain ⟨j1, hj1, rfl⟩ := ix_of hFF.1 (by omega)
      obtain ⟨j2, hj2, rfl⟩ := ix_of hFF.2 (by omega)
      refine V_aload_n 42 C dX10_roadOf_41 rfl rfl ?_
      refine V_get (k := 3) 45 C dX10_roadOf_42 rfl fcX10 tw939 (by decide) rfl hm1 rfl ?_
      refine V_iload_n 46 C dX10_roadOf_45 rfl rfl ?_
      refine V_iload_n 47 C dX10_roadOf_46 rfl rfl ?_
      refine V_callS 50 C dX10_roadOf_47 rfl mX10_ofRoad tw1107 (c_X10_ofRoad l G _ _ (m + 2) y hx1 j1 j2 (7 + 3 * j1 + j2) rfl (by omega) (by omega) (by omega)) rfl rfl (by decide) ⟨by omega, by omega⟩ (Nat.le_of_ble_eq_true rfl) ?_
      rintro _ _ _ ⟨rfl, rfl, rfl⟩
      refine V_ireturn C dX10_roadOf_50 rfl rfl (by omega) (by omega) ?_
      exact (PoM_0 hk0 rfl (by rw [zn (by omega), zn (by omega)]) hS1 hX1)
    · have hqn := (hq.resolve_right (fun e => by omega)).2
      refine V_iconst 40 C dX10_roadOf_39 rfl ic0 ?_
      refine V_ireturn C dX10_roadOf_40 rfl rfl (by omega) (by omega) ?_
      exact (PoM_k w9 hqn (by omega) rfl hS1 hX1)
  refine V_get (k := 3) 5 C dX10_roadOf_2 rfl fcX10 tw939 (by decide) rfl hm rfl ?_
  refine V_iload_n 6 C dX10_roadOf_5 rfl rfl ?_
  refine V_callS 9 C dX10_roadOf_6 rfl mX10_isRoad tw1101 (c_X10_isRoad l G _ _ (m + 2) y hx hIy pq1) rfl rfl (by decide) ⟨by omega, by omega⟩ (Nat.le_of_ble_eq_true rfl) ?_
  rintro _ _ _ ⟨rfl, rfl, rfl⟩
  refine V_if_neB 16 12 C dX10_roadOf_9 (by decide) rfl  (fun c9 => ?_) (fun c9 => ?_)
  · refine V_iload_n 17 C dX10_roadOf_16 rfl rfl ?_
    refine V_i2l 18 C dX10_roadOf_17 rfl  ?_
    refine V_lconst 19 C dX10_roadOf_18 rfl rfl ?_
    refine V_ldc2 22 C dX10_roadOf_19 rfl tw1174 ?_
    refine V_callS 25 C dX10_roadOf_22 rfl mX10_in tw982 (c_X10_in l G _ _ _ _ _) rfl rfl (by decide) ⟨by omega, by omega⟩ (Nat.le_of_ble_eq_true rfl) ?_
    rintro _ _ _ ⟨rfl, rfl, rfl⟩
    rw [inI (v := pq2) (lo := 0) (hi := 2) (by decide +kernel) (by decide +kernel)]
    refine V_if_eqB 32 28 C dX10_roadOf_25 (by decide) rfl  (fun cq25 => ?_) (fun cq25 => ?_)
    · have hno : ¬ ix pq2 3 := fun e => cq25 ⟨by have := e.1; omega, by have := e.2; omega⟩
      refine V_iconst 33 C dX10_roadOf_32 rfl ic2 ?_
      refine V_L [0, 1, 2] rfl ?_
      exact J33 2 (by omega) (Or.inl ⟨by decide, by rw [if_pos c9, if_neg hno]⟩)
    · have hw : ix pq2 3 := ⟨by omega, by omega⟩
      refine V_iconst 29 C dX10_roadOf_28 rfl ic0 ?_
      refine V_goto 33 C dX10_roadOf_29 (by decide) ?_
      refine V_L [0, 1, 2] rfl ?_
      exact J33 0 (by omega) (Or.inr ⟨rfl, by rw [if_pos c9, if_pos hw], ⟨c9, hw⟩⟩)
  · refine V_iconst 13 C dX10_roadOf_12 rfl ic1 ?_
    refine V_goto 33 C dX10_roadOf_13 (by decide) ?_
    refine V_L [0, 1, 2] rfl ?_
    exact J33 1 (by omega) (Or.inl ⟨by decide, if_neg c9⟩)

theorem dX10_runnerOf_0 : decode cX10_runnerOf 0 = .ok (.aload_n 0, 1) := by decide +kernel
theorem dX10_runnerOf_1 : decode cX10_runnerOf 1 = .ok (.aload_n 0, 1) := by decide +kernel
theorem dX10_runnerOf_2 : decode cX10_runnerOf 2 = .ok (.getfield 13, 3) := by decide +kernel
theorem dX10_runnerOf_5 : decode cX10_runnerOf 5 = .ok (.iload_n 1, 1) := by decide +kernel
theorem dX10_runnerOf_6 : decode cX10_runnerOf 6 = .ok (.invokestatic 166, 3) := by decide +kernel
theorem dX10_runnerOf_9 : decode cX10_runnerOf 9 = .ok (.ifCond .ne 7, 3) := by decide +kernel
theorem dX10_runnerOf_12 : decode cX10_runnerOf 12 = .ok (.iconst 1, 1) := by decide +kernel
theorem dX10_runnerOf_13 : decode cX10_runnerOf 13 = .ok (.goto 20, 3) := by decide +kernel
theorem dX10_runnerOf_16 : decode cX10_runnerOf 16 = .ok (.iload_n 2, 1) := by decide +kernel
theorem dX10_runnerOf_17 : decode cX10_runnerOf 17 = .ok (.i2l, 1) := by decide +kernel
theorem dX10_runnerOf_18 : decode cX10_runnerOf 18 = .ok (.lconst 0, 1) := by decide +kernel
theorem dX10_runnerOf_19 : decode cX10_runnerOf 19 = .ok (.ldc2_w 241, 3) := by decide +kernel
theorem dX10_runnerOf_22 : decode cX10_runnerOf 22 = .ok (.invokestatic 40, 3) := by decide +kernel
theorem dX10_runnerOf_25 : decode cX10_runnerOf 25 = .ok (.ifCond .eq 7, 3) := by decide +kernel
theorem dX10_runnerOf_28 : decode cX10_runnerOf 28 = .ok (.iconst 0, 1) := by decide +kernel
theorem dX10_runnerOf_29 : decode cX10_runnerOf 29 = .ok (.goto 4, 3) := by decide +kernel
theorem dX10_runnerOf_32 : decode cX10_runnerOf 32 = .ok (.iconst 2, 1) := by decide +kernel
theorem dX10_runnerOf_33 : decode cX10_runnerOf 33 = .ok (.invokevirtual 124, 3) := by decide +kernel
theorem dX10_runnerOf_36 : decode cX10_runnerOf 36 = .ok (.ifCond .eq 5, 3) := by decide +kernel
theorem dX10_runnerOf_39 : decode cX10_runnerOf 39 = .ok (.iconst 0, 1) := by decide +kernel
theorem dX10_runnerOf_40 : decode cX10_runnerOf 40 = .ok (.ireturn, 1) := by decide +kernel
theorem dX10_runnerOf_41 : decode cX10_runnerOf 41 = .ok (.iconst 0, 1) := by decide +kernel
theorem dX10_runnerOf_42 : decode cX10_runnerOf 42 = .ok (.istore_n 3, 1) := by decide +kernel
theorem dX10_runnerOf_43 : decode cX10_runnerOf 43 = .ok (.iconst 0, 1) := by decide +kernel
theorem dX10_runnerOf_44 : decode cX10_runnerOf 44 = .ok (.istore 4, 2) := by decide +kernel
theorem dX10_runnerOf_46 : decode cX10_runnerOf 46 = .ok (.iload 4, 2) := by decide +kernel
theorem dX10_runnerOf_48 : decode cX10_runnerOf 48 = .ok (.aload_n 0, 1) := by decide +kernel
theorem dX10_runnerOf_49 : decode cX10_runnerOf 49 = .ok (.getfield 13, 3) := by decide +kernel
theorem dX10_runnerOf_52 : decode cX10_runnerOf 52 = .ok (.iconst 4, 1) := by decide +kernel
theorem dX10_runnerOf_53 : decode cX10_runnerOf 53 = .ok (.iaload, 1) := by decide +kernel
theorem dX10_runnerOf_54 : decode cX10_runnerOf 54 = .ok (.if_icmp .ge 34, 3) := by decide +kernel
theorem dX10_runnerOf_57 : decode cX10_runnerOf 57 = .ok (.iload_n 3, 1) := by decide +kernel
theorem dX10_runnerOf_58 : decode cX10_runnerOf 58 = .ok (.aload_n 0, 1) := by decide +kernel
theorem dX10_runnerOf_59 : decode cX10_runnerOf 59 = .ok (.getfield 13, 3) := by decide +kernel
theorem dX10_runnerOf_62 : decode cX10_runnerOf 62 = .ok (.iload 4, 2) := by decide +kernel
theorem dX10_runnerOf_64 : decode cX10_runnerOf 64 = .ok (.iconst 4, 1) := by decide +kernel
theorem dX10_runnerOf_65 : decode cX10_runnerOf 65 = .ok (.invokestatic 48, 3) := by decide +kernel
theorem dX10_runnerOf_68 : decode cX10_runnerOf 68 = .ok (.iload_n 1, 1) := by decide +kernel
theorem dX10_runnerOf_69 : decode cX10_runnerOf 69 = .ok (.if_icmp .ne 10, 3) := by decide +kernel
theorem dX10_runnerOf_72 : decode cX10_runnerOf 72 = .ok (.iconst 1, 1) := by decide +kernel
theorem dX10_runnerOf_73 : decode cX10_runnerOf 73 = .ok (.iload 4, 2) := by decide +kernel
theorem dX10_runnerOf_75 : decode cX10_runnerOf 75 = .ok (.ishl, 1) := by decide +kernel
theorem dX10_runnerOf_76 : decode cX10_runnerOf 76 = .ok (.goto 4, 3) := by decide +kernel
theorem dX10_runnerOf_79 : decode cX10_runnerOf 79 = .ok (.iconst 0, 1) := by decide +kernel
theorem dX10_runnerOf_80 : decode cX10_runnerOf 80 = .ok (.ior, 1) := by decide +kernel
theorem dX10_runnerOf_81 : decode cX10_runnerOf 81 = .ok (.istore_n 3, 1) := by decide +kernel
theorem dX10_runnerOf_82 : decode cX10_runnerOf 82 = .ok (.iinc 4 1, 3) := by decide +kernel
theorem dX10_runnerOf_85 : decode cX10_runnerOf 85 = .ok (.goto (-39), 3) := by decide +kernel
theorem dX10_runnerOf_88 : decode cX10_runnerOf 88 = .ok (.iload_n 2, 1) := by decide +kernel
theorem dX10_runnerOf_89 : decode cX10_runnerOf 89 = .ok (.iconst 2, 1) := by decide +kernel
theorem dX10_runnerOf_90 : decode cX10_runnerOf 90 = .ok (.if_icmp .ge 15, 3) := by decide +kernel
theorem dX10_runnerOf_93 : decode cX10_runnerOf 93 = .ok (.aload_n 0, 1) := by decide +kernel
theorem dX10_runnerOf_94 : decode cX10_runnerOf 94 = .ok (.getfield 13, 3) := by decide +kernel
theorem dX10_runnerOf_97 : decode cX10_runnerOf 97 = .ok (.iload_n 1, 1) := by decide +kernel
theorem dX10_runnerOf_98 : decode cX10_runnerOf 98 = .ok (.iload_n 2, 1) := by decide +kernel
theorem dX10_runnerOf_99 : decode cX10_runnerOf 99 = .ok (.invokestatic 44, 3) := by decide +kernel
theorem dX10_runnerOf_102 : decode cX10_runnerOf 102 = .ok (.goto 21, 3) := by decide +kernel
theorem dX10_runnerOf_105 : decode cX10_runnerOf 105 = .ok (.iload_n 2, 1) := by decide +kernel
theorem dX10_runnerOf_106 : decode cX10_runnerOf 106 = .ok (.iconst 2, 1) := by decide +kernel
theorem dX10_runnerOf_107 : decode cX10_runnerOf 107 = .ok (.if_icmp .ne 7, 3) := by decide +kernel
theorem dX10_runnerOf_110 : decode cX10_runnerOf 110 = .ok (.iload_n 3, 1) := by decide +kernel
theorem dX10_runnerOf_111 : decode cX10_runnerOf 111 = .ok (.goto 12, 3) := by decide +kernel
theorem dX10_runnerOf_114 : decode cX10_runnerOf 114 = .ok (.aload_n 0, 1) := by decide +kernel
theorem dX10_runnerOf_115 : decode cX10_runnerOf 115 = .ok (.getfield 13, 3) := by decide +kernel
theorem dX10_runnerOf_118 : decode cX10_runnerOf 118 = .ok (.iload_n 1, 1) := by decide +kernel
theorem dX10_runnerOf_119 : decode cX10_runnerOf 119 = .ok (.iconst 2, 1) := by decide +kernel
theorem dX10_runnerOf_120 : decode cX10_runnerOf 120 = .ok (.invokestatic 44, 3) := by decide +kernel
theorem dX10_runnerOf_123 : decode cX10_runnerOf 123 = .ok (.ireturn, 1) := by decide +kernel
set_option maxRecDepth 100000 in
set_option maxHeartbeats 4000000 in
theorem c_X10_runnerOf (l : Launch) (G : GT) (n : Nat) (h : AH) (m : Nat) (rf : Int32) (y : Nat → Nat) (k : Nat) (D S : Nat → Nat → Nat) (sv : Nat → Bool) (N : Nat) (T : Nat → Nat) (hS : SysM m rf y k D S sv N T h) (hI : SI y k D S sv N T) (pq1 : Int32) (pq2 : Int32) : Ct l yX10_runnerOf cX10_runnerOf 5 (some .int) 7 0 0 G n h [.ref m, .int pq1, .int pq2] (PoM m n h (if ix pq1 (y 2) then (if ix pq2 4 then 0 else 2) else 1) (nI (qRunner y (z pq1) (z pq2))) y k D S sv N T) := by
  have NE := NO_eq
  obtain ⟨⟨sp, ou, g1, hmx⟩, hx, ⟨yt, hxt⟩, ⟨gd, hgd, hdia⟩, ⟨gk, hgk, hkp⟩, ⟨gi, hgi, hik⟩, ⟨gf, hgf⟩⟩ := id hS
  obtain ⟨hNn, hm, hg1, hch⟩ := id hmx
  obtain ⟨hIy, hk14, hID, hIS, hN, hT⟩ := id hI
  obtain ⟨⟨i0, i1, i2, i3, i4⟩, iR, iU, iM, iS⟩ := id hIy
  refine Ct_of mX10_runnerOf.1 (Nat.le_of_ble_eq_true rfl) ?_
  intro p₀ e₀ s₀ m₀ as₀ bl₀ me₀ c₀ C hin
  refine V_Le (L' := [(0, .ref m), (1, .int pq1), (2, .int pq2)]) rfl ?_
  refine V_aload_n 1 C dX10_runnerOf_0 rfl rfl ?_
  refine V_aload_n 2 C dX10_runnerOf_1 rfl rfl ?_
  have J33 : ∀ (w9 : Nat) (hw9 : w9 ≤ 3) (hq : (¬ w9 = 0 ∧ (if ix pq1 (y 2) then (if ix pq2 4 then 0 else 2) else 1) = w9) ∨ (w9 = 0 ∧ (if ix pq1 (y 2) then (if ix pq2 4 then 0 else 2) else 1) = 0 ∧ ix pq1 (y 2) ∧ ix pq2 4)), V p₀ l e₀ (rmD 7 0 0) s₀ m₀ as₀ bl₀ me₀ c₀ (MQ bl₀ (Po G (PoM m n h (if ix pq1 (y 2) then (if ix pq2 4 then 0 else 2) else 1) (nI (qRunner y (z pq1) (z pq2))) y k D S sv N T)) as₀ s₀ 0 0 (rg G)) G 5 0 0 n h 33 [(0, .ref m), (1, .int pq1), (2, .int pq2)] [.int (nI w9), .ref m] := by
    intro w9 hw9 hq
    refine V_callV 36 C dX10_runnerOf_33 rfl mX10_refused tw985 fcX10 hm (c_X10_refused l G _ _ m rf (nI N) (nI k) sp ou hm w9 hw9) rfl rfl (by decide) ⟨by omega, by omega⟩ (Nat.le_of_ble_eq_true rfl) ?_
    rintro _ _ h1 ⟨rfl, rfl, eh1⟩
    have hm1 : h1 m = some (obM m (nI w9) (nI N) (nI k) sp ou) := by rw [eh1]; exact up_s _ _ _
    have hF1 : ∀ a, ¬ a = m → h1 a = h a := fun a ha => by rw [eh1]; exact up_n _ ha
    have hS1 : SysM m (nI w9) y k D S sv N T h1 := hS.ob hm1 hF1
    have hX1 : FM m h h1 := fun a ha => hF1 a (by omega)
    have hx1 : Row (m + 2) y h1 := (hF1 _ (by omega)).trans hx
    refine V_if_eqB 41 39 C dX10_runnerOf_36 (by decide) rfl  (fun cq36 => ?_) (fun cq36 => ?_)
    · obtain ⟨rfl, hk0, hFF⟩ := hq.resolve_left (fun e => by omega)
      obtain ⟨j1, hj1, rfl⟩ := ix_of hFF.1 (by omega)
      obtain ⟨j2, hj2, rfl⟩ := ix_of hFF.2 (by omega)
      refine V_iconst 42 C dX10_runnerOf_41 rfl ic0 ?_
      refine V_istore_n 43 C dX10_runnerOf_42 rfl (by decide) (L' := [(0, _), (1, _), (2, _), (3, _)]) rfl ?_
      refine V_iconst 44 C dX10_runnerOf_43 rfl ic0 ?_
      refine V_istore 46 C dX10_runnerOf_44 rfl (by decide) (L' := [(0, _), (1, _), (2, _), (3, _), (4, _)]) rfl ?_
      have J46 : ∀ (fuel : Nat) (i9 : Nat) (hi9 : i9 ≤ y 4), y 4 - i9 < fuel → V p₀ l e₀ (rmD 7 0 0) s₀ m₀ as₀ bl₀ me₀ c₀ (MQ bl₀ (Po G (PoM m n h (if ix (nI j1) (y 2) then (if ix (nI j2) 4 then 0 else 2) else 1) (nI (qRunner y (z (nI j1)) (z (nI j2)))) y k D S sv N T)) as₀ s₀ 0 0 (rg G)) G 5 0 0 n h1 46 [(0, .ref m), (1, .int (nI j1)), (2, .int (nI j2)), (3, .int (nI (cbk y j1 i9))), (4, .int (nI i9))] [] := by
        intro fuel
        induction fuel with
        | zero => intro i9 hi9 hf; omega
        | succ fuel ih46 =>
          intro i9 hi9 hf
          refine V_iload 48 C dX10_runnerOf_46 rfl rfl ?_
          refine V_aload_n 49 C dX10_runnerOf_48 rfl rfl ?_
          refine V_get (k := 3) 52 C dX10_runnerOf_49 rfl fcX10 tw939 (by decide) rfl hm1 rfl ?_
          refine V_iconst 53 C dX10_runnerOf_52 rfl ic4 ?_
          refine V_iald (j := 4) 54 C dX10_runnerOf_53 rfl hx1 rfl (by omega) (by omega) ?_
          refine V_icmp_geN 88 57 C dX10_runnerOf_54 (by decide) rfl (by omega) (by omega) (fun cq54 => ?_) (fun cq54 => ?_)
          · have ei : i9 = y 4 := by omega
            refine V_iload_n 89 C dX10_runnerOf_88 rfl rfl ?_
            refine V_iconst 90 C dX10_runnerOf_89 rfl ic2 ?_
            refine V_icmp_geN 105 93 C dX10_runnerOf_90 (by decide) rfl (by omega) (by omega) (fun cq90 => ?_) (fun cq90 => ?_)
            · refine V_iload_n 106 C dX10_runnerOf_105 rfl rfl ?_
              refine V_iconst 107 C dX10_runnerOf_106 rfl ic2 ?_
              refine V_icmp_neN 114 110 C dX10_runnerOf_107 (by decide) rfl (by omega) (by omega) (fun cq107 => ?_) (fun cq107 => ?_)
              · have hv : qRunner y j1 j2 = y (37 + 3 * j1 + 2) := by unfold qRunner; rw [if_neg cq107, if_pos (by omega)]
                refine V_aload_n 115 C dX10_runnerOf_114 rfl rfl ?_
                refine V_get (k := 3) 118 C dX10_runnerOf_115 rfl fcX10 tw939 (by decide) rfl hm1 rfl ?_
                refine V_iload_n 119 C dX10_runnerOf_118 rfl rfl ?_
                refine V_iconst 120 C dX10_runnerOf_119 rfl ic2 ?_
                refine V_callS 123 C dX10_runnerOf_120 rfl mX10_ofRunner tw1076 (c_X10_ofRunner l G _ _ (m + 2) y hx1 j1 2 (37 + 3 * j1 + 2) rfl (by omega) (by omega) (by omega)) rfl rfl (by decide) ⟨by omega, by omega⟩ (Nat.le_of_ble_eq_true rfl) ?_
                rintro _ _ _ ⟨rfl, rfl, rfl⟩
                refine V_ireturn C dX10_runnerOf_123 rfl rfl (by omega) (by omega) ?_
                exact (PoM_0 hk0 rfl (by rw [zn (by omega), zn (by omega), hv]) hS1 hX1)
              · have hv : qRunner y j1 j2 = cbk y j1 i9 := by unfold qRunner; rw [if_pos cq107, ei]
                refine V_iload_n 111 C dX10_runnerOf_110 rfl rfl ?_
                refine V_goto 123 C dX10_runnerOf_111 (by decide) ?_
                refine V_ireturn C dX10_runnerOf_123 rfl rfl (by omega) (by omega) ?_
                exact (PoM_0 hk0 rfl (by rw [zn (by omega), zn (by omega), hv]) hS1 hX1)
            · have hv : qRunner y j1 j2 = y (37 + 3 * j1 + j2) := by unfold qRunner; rw [if_neg (by omega), if_neg (by omega)]
              refine V_aload_n 94 C dX10_runnerOf_93 rfl rfl ?_
              refine V_get (k := 3) 97 C dX10_runnerOf_94 rfl fcX10 tw939 (by decide) rfl hm1 rfl ?_
              refine V_iload_n 98 C dX10_runnerOf_97 rfl rfl ?_
              refine V_iload_n 99 C dX10_runnerOf_98 rfl rfl ?_
              refine V_callS 102 C dX10_runnerOf_99 rfl mX10_ofRunner tw1076 (c_X10_ofRunner l G _ _ (m + 2) y hx1 j1 j2 (37 + 3 * j1 + j2) rfl (by omega) (by omega) (by omega)) rfl rfl (by decide) ⟨by omega, by omega⟩ (Nat.le_of_ble_eq_true rfl) ?_
              rintro _ _ _ ⟨rfl, rfl, rfl⟩
              refine V_goto 123 C dX10_runnerOf_102 (by decide) ?_
              refine V_ireturn C dX10_runnerOf_123 rfl rfl (by omega) (by omega) ?_
              exact (PoM_0 hk0 rfl (by rw [zn (by omega), zn (by omega), hv]) hS1 hX1)
          · refine V_iload_n 58 C dX10_runnerOf_57 rfl rfl ?_
            refine V_aload_n 59 C dX10_runnerOf_58 rfl rfl ?_
            refine V_get (k := 3) 62 C dX10_runnerOf_59 rfl fcX10 tw939 (by decide) rfl hm1 rfl ?_
            refine V_iload 64 C dX10_runnerOf_62 rfl rfl ?_
            refine V_iconst 65 C dX10_runnerOf_64 rfl ic4 ?_
            refine V_callS 68 C dX10_runnerOf_65 rfl mX10_ofSheet tw1082 (c_X10_ofSheet l G _ _ (m + 2) y hx1 i9 4 (58 + 6 * i9 + 4) rfl (by omega) (by omega) (by omega)) rfl rfl (by decide) ⟨by omega, by omega⟩ (Nat.le_of_ble_eq_true rfl) ?_
            rintro _ _ _ ⟨rfl, rfl, rfl⟩
            obtain ⟨s0, s1, s2, s3, s4, s5⟩ := iS i9 (by omega)
            unfold NO at s4
            refine V_iload_n 69 C dX10_runnerOf_68 rfl rfl ?_
            refine V_icmp_neN 79 72 C dX10_runnerOf_69 (by decide) rfl (by omega) (by omega) (fun cq69 => ?_) (fun cq69 => ?_)
            · have hz : cbk y j1 i9 = cbk y j1 (i9 + 1) := by
                simp only [cbk]
                rw [bp_f cq69]
                omega
              refine V_iconst 80 C dX10_runnerOf_79 rfl ic0 ?_
              refine V_ior 81 C dX10_runnerOf_80 rfl  ?_
              first | rw [orbit (by omega) (cbk_lt y j1 i9), hz] | rw [or0 (by have := cbk_lt y j1 i9; have : 2 ^ i9 ≤ 2 ^ 12 := Nat.pow_le_pow_right (by decide) (by omega); omega), hz]
              refine V_istore_n 82 C dX10_runnerOf_81 rfl (by decide) (L' := [(0, _), (1, _), (2, _), (3, _), (4, _)]) rfl ?_
              refine V_iinc 85 C dX10_runnerOf_82 rfl (by decide) rfl (ii1 _) (L' := [(0, _), (1, _), (2, _), (3, _), (4, _)]) rfl ?_
              refine V_goto 46 C dX10_runnerOf_85 (by decide) ?_
              refine V_L [0, 1, 2, 3, 4] rfl ?_
              exact ih46 (i9 + 1) (by omega) (by omega)
            · have hz : cbk y j1 i9 + 2 ^ i9 = cbk y j1 (i9 + 1) := by
                simp only [cbk]
                rw [bp_t cq69]
                omega
              refine V_iconst 73 C dX10_runnerOf_72 rfl ic1 ?_
              refine V_iload 75 C dX10_runnerOf_73 rfl rfl ?_
              refine V_ishl 76 C dX10_runnerOf_75 rfl  ?_
              refine V_goto 80 C dX10_runnerOf_76 (by decide) ?_
              refine V_ior 81 C dX10_runnerOf_80 rfl  ?_
              first | rw [orbit (by omega) (cbk_lt y j1 i9), hz] | rw [or0 (by have := cbk_lt y j1 i9; have : 2 ^ i9 ≤ 2 ^ 12 := Nat.pow_le_pow_right (by decide) (by omega); omega), hz]
              refine V_istore_n 82 C dX10_runnerOf_81 rfl (by decide) (L' := [(0, _), (1, _), (2, _), (3, _), (4, _)]) rfl ?_
              refine V_iinc 85 C dX10_runnerOf_82 rfl (by decide) rfl (ii1 _) (L' := [(0, _), (1, _), (2, _), (3, _), (4, _)]) rfl ?_
              refine V_goto 46 C dX10_runnerOf_85 (by decide) ?_
              refine V_L [0, 1, 2, 3, 4] rfl ?_
              exact ih46 (i9 + 1) (by omega) (by omega)
      refine V_L [0, 1, 2, 3, 4] rfl ?_
      exact J46 (y 4 + 1) 0 (by omega) (by omega)
    · have hqn := (hq.resolve_right (fun e => by omega)).2
      refine V_iconst 40 C dX10_runnerOf_39 rfl ic0 ?_
      refine V_ireturn C dX10_runnerOf_40 rfl rfl (by omega) (by omega) ?_
      exact (PoM_k w9 hqn (by omega) rfl hS1 hX1)
  refine V_get (k := 3) 5 C dX10_runnerOf_2 rfl fcX10 tw939 (by decide) rfl hm rfl ?_
  refine V_iload_n 6 C dX10_runnerOf_5 rfl rfl ?_
  refine V_callS 9 C dX10_runnerOf_6 rfl mX10_isRunner tw1064 (c_X10_isRunner l G _ _ (m + 2) y hx hIy pq1) rfl rfl (by decide) ⟨by omega, by omega⟩ (Nat.le_of_ble_eq_true rfl) ?_
  rintro _ _ _ ⟨rfl, rfl, rfl⟩
  refine V_if_neB 16 12 C dX10_runnerOf_9 (by decide) rfl  (fun c9 => ?_) (fun c9 => ?_)
  · refine V_iload_n 17 C dX10_runnerOf_16 rfl rfl ?_
    refine V_i2l 18 C dX10_runnerOf_17 rfl  ?_
    refine V_lconst 19 C dX10_runnerOf_18 rfl rfl ?_
    refine V_ldc2 22 C dX10_runnerOf_19 rfl tw1179 ?_
    refine V_callS 25 C dX10_runnerOf_22 rfl mX10_in tw982 (c_X10_in l G _ _ _ _ _) rfl rfl (by decide) ⟨by omega, by omega⟩ (Nat.le_of_ble_eq_true rfl) ?_
    rintro _ _ _ ⟨rfl, rfl, rfl⟩
    rw [inI (v := pq2) (lo := 0) (hi := 3) (by decide +kernel) (by decide +kernel)]
    refine V_if_eqB 32 28 C dX10_runnerOf_25 (by decide) rfl  (fun cq25 => ?_) (fun cq25 => ?_)
    · have hno : ¬ ix pq2 4 := fun e => cq25 ⟨by have := e.1; omega, by have := e.2; omega⟩
      refine V_iconst 33 C dX10_runnerOf_32 rfl ic2 ?_
      refine V_L [0, 1, 2] rfl ?_
      exact J33 2 (by omega) (Or.inl ⟨by decide, by rw [if_pos c9, if_neg hno]⟩)
    · have hw : ix pq2 4 := ⟨by omega, by omega⟩
      refine V_iconst 29 C dX10_runnerOf_28 rfl ic0 ?_
      refine V_goto 33 C dX10_runnerOf_29 (by decide) ?_
      refine V_L [0, 1, 2] rfl ?_
      exact J33 0 (by omega) (Or.inr ⟨rfl, by rw [if_pos c9, if_pos hw], ⟨c9, hw⟩⟩)
  · refine V_iconst 13 C dX10_runnerOf_12 rfl ic1 ?_
    refine V_goto 33 C dX10_runnerOf_13 (by decide) ?_
    refine V_L [0, 1, 2] rfl ?_
    exact J33 1 (by omega) (Or.inl ⟨by decide, if_neg c9⟩)

theorem dX10_sheetOf_0 : decode cX10_sheetOf 0 = .ok (.aload_n 0, 1) := by decide +kernel
theorem dX10_sheetOf_1 : decode cX10_sheetOf 1 = .ok (.aload_n 0, 1) := by decide +kernel
theorem dX10_sheetOf_2 : decode cX10_sheetOf 2 = .ok (.getfield 13, 3) := by decide +kernel
theorem dX10_sheetOf_5 : decode cX10_sheetOf 5 = .ok (.iload_n 1, 1) := by decide +kernel
theorem dX10_sheetOf_6 : decode cX10_sheetOf 6 = .ok (.invokestatic 169, 3) := by decide +kernel
theorem dX10_sheetOf_9 : decode cX10_sheetOf 9 = .ok (.ifCond .ne 7, 3) := by decide +kernel
theorem dX10_sheetOf_12 : decode cX10_sheetOf 12 = .ok (.iconst 1, 1) := by decide +kernel
theorem dX10_sheetOf_13 : decode cX10_sheetOf 13 = .ok (.goto 20, 3) := by decide +kernel
theorem dX10_sheetOf_16 : decode cX10_sheetOf 16 = .ok (.iload_n 2, 1) := by decide +kernel
theorem dX10_sheetOf_17 : decode cX10_sheetOf 17 = .ok (.i2l, 1) := by decide +kernel
theorem dX10_sheetOf_18 : decode cX10_sheetOf 18 = .ok (.lconst 0, 1) := by decide +kernel
theorem dX10_sheetOf_19 : decode cX10_sheetOf 19 = .ok (.ldc2_w 243, 3) := by decide +kernel
theorem dX10_sheetOf_22 : decode cX10_sheetOf 22 = .ok (.invokestatic 40, 3) := by decide +kernel
theorem dX10_sheetOf_25 : decode cX10_sheetOf 25 = .ok (.ifCond .eq 7, 3) := by decide +kernel
theorem dX10_sheetOf_28 : decode cX10_sheetOf 28 = .ok (.iconst 0, 1) := by decide +kernel
theorem dX10_sheetOf_29 : decode cX10_sheetOf 29 = .ok (.goto 4, 3) := by decide +kernel
theorem dX10_sheetOf_32 : decode cX10_sheetOf 32 = .ok (.iconst 2, 1) := by decide +kernel
theorem dX10_sheetOf_33 : decode cX10_sheetOf 33 = .ok (.invokevirtual 124, 3) := by decide +kernel
theorem dX10_sheetOf_36 : decode cX10_sheetOf 36 = .ok (.ifCond .eq 5, 3) := by decide +kernel
theorem dX10_sheetOf_39 : decode cX10_sheetOf 39 = .ok (.iconst 0, 1) := by decide +kernel
theorem dX10_sheetOf_40 : decode cX10_sheetOf 40 = .ok (.ireturn, 1) := by decide +kernel
theorem dX10_sheetOf_41 : decode cX10_sheetOf 41 = .ok (.iload_n 2, 1) := by decide +kernel
theorem dX10_sheetOf_42 : decode cX10_sheetOf 42 = .ok (.tableswitch 111 0 6 #[42, 52, 62, 72, 82, 91, 101], 42) := by decide +kernel
theorem dX10_sheetOf_84 : decode cX10_sheetOf 84 = .ok (.aload_n 0, 1) := by decide +kernel
theorem dX10_sheetOf_85 : decode cX10_sheetOf 85 = .ok (.getfield 13, 3) := by decide +kernel
theorem dX10_sheetOf_88 : decode cX10_sheetOf 88 = .ok (.iload_n 1, 1) := by decide +kernel
theorem dX10_sheetOf_89 : decode cX10_sheetOf 89 = .ok (.iconst 0, 1) := by decide +kernel
theorem dX10_sheetOf_90 : decode cX10_sheetOf 90 = .ok (.invokestatic 48, 3) := by decide +kernel
theorem dX10_sheetOf_93 : decode cX10_sheetOf 93 = .ok (.ireturn, 1) := by decide +kernel
theorem dX10_sheetOf_94 : decode cX10_sheetOf 94 = .ok (.aload_n 0, 1) := by decide +kernel
theorem dX10_sheetOf_95 : decode cX10_sheetOf 95 = .ok (.getfield 13, 3) := by decide +kernel
theorem dX10_sheetOf_98 : decode cX10_sheetOf 98 = .ok (.iload_n 1, 1) := by decide +kernel
theorem dX10_sheetOf_99 : decode cX10_sheetOf 99 = .ok (.iconst 2, 1) := by decide +kernel
theorem dX10_sheetOf_100 : decode cX10_sheetOf 100 = .ok (.invokestatic 48, 3) := by decide +kernel
theorem dX10_sheetOf_103 : decode cX10_sheetOf 103 = .ok (.ireturn, 1) := by decide +kernel
theorem dX10_sheetOf_104 : decode cX10_sheetOf 104 = .ok (.aload_n 0, 1) := by decide +kernel
theorem dX10_sheetOf_105 : decode cX10_sheetOf 105 = .ok (.getfield 13, 3) := by decide +kernel
theorem dX10_sheetOf_108 : decode cX10_sheetOf 108 = .ok (.iload_n 1, 1) := by decide +kernel
theorem dX10_sheetOf_109 : decode cX10_sheetOf 109 = .ok (.iconst 3, 1) := by decide +kernel
theorem dX10_sheetOf_110 : decode cX10_sheetOf 110 = .ok (.invokestatic 48, 3) := by decide +kernel
theorem dX10_sheetOf_113 : decode cX10_sheetOf 113 = .ok (.ireturn, 1) := by decide +kernel
theorem dX10_sheetOf_114 : decode cX10_sheetOf 114 = .ok (.aload_n 0, 1) := by decide +kernel
theorem dX10_sheetOf_115 : decode cX10_sheetOf 115 = .ok (.getfield 13, 3) := by decide +kernel
theorem dX10_sheetOf_118 : decode cX10_sheetOf 118 = .ok (.iload_n 1, 1) := by decide +kernel
theorem dX10_sheetOf_119 : decode cX10_sheetOf 119 = .ok (.iconst 4, 1) := by decide +kernel
theorem dX10_sheetOf_120 : decode cX10_sheetOf 120 = .ok (.invokestatic 48, 3) := by decide +kernel
theorem dX10_sheetOf_123 : decode cX10_sheetOf 123 = .ok (.ireturn, 1) := by decide +kernel
theorem dX10_sheetOf_124 : decode cX10_sheetOf 124 = .ok (.aload_n 0, 1) := by decide +kernel
theorem dX10_sheetOf_125 : decode cX10_sheetOf 125 = .ok (.getfield 13, 3) := by decide +kernel
theorem dX10_sheetOf_128 : decode cX10_sheetOf 128 = .ok (.iload_n 1, 1) := by decide +kernel
theorem dX10_sheetOf_129 : decode cX10_sheetOf 129 = .ok (.invokestatic 82, 3) := by decide +kernel
theorem dX10_sheetOf_132 : decode cX10_sheetOf 132 = .ok (.ireturn, 1) := by decide +kernel
theorem dX10_sheetOf_133 : decode cX10_sheetOf 133 = .ok (.aload_n 0, 1) := by decide +kernel
theorem dX10_sheetOf_134 : decode cX10_sheetOf 134 = .ok (.getfield 13, 3) := by decide +kernel
theorem dX10_sheetOf_137 : decode cX10_sheetOf 137 = .ok (.iload_n 1, 1) := by decide +kernel
theorem dX10_sheetOf_138 : decode cX10_sheetOf 138 = .ok (.iconst 0, 1) := by decide +kernel
theorem dX10_sheetOf_139 : decode cX10_sheetOf 139 = .ok (.invokestatic 72, 3) := by decide +kernel
theorem dX10_sheetOf_142 : decode cX10_sheetOf 142 = .ok (.ireturn, 1) := by decide +kernel
theorem dX10_sheetOf_143 : decode cX10_sheetOf 143 = .ok (.aload_n 0, 1) := by decide +kernel
theorem dX10_sheetOf_144 : decode cX10_sheetOf 144 = .ok (.getfield 13, 3) := by decide +kernel
theorem dX10_sheetOf_147 : decode cX10_sheetOf 147 = .ok (.iload_n 1, 1) := by decide +kernel
theorem dX10_sheetOf_148 : decode cX10_sheetOf 148 = .ok (.iconst 1, 1) := by decide +kernel
theorem dX10_sheetOf_149 : decode cX10_sheetOf 149 = .ok (.invokestatic 48, 3) := by decide +kernel
theorem dX10_sheetOf_152 : decode cX10_sheetOf 152 = .ok (.ireturn, 1) := by decide +kernel
theorem dX10_sheetOf_153 : decode cX10_sheetOf 153 = .ok (.aload_n 0, 1) := by decide +kernel
theorem dX10_sheetOf_154 : decode cX10_sheetOf 154 = .ok (.getfield 13, 3) := by decide +kernel
theorem dX10_sheetOf_157 : decode cX10_sheetOf 157 = .ok (.iload_n 1, 1) := by decide +kernel
theorem dX10_sheetOf_158 : decode cX10_sheetOf 158 = .ok (.invokestatic 89, 3) := by decide +kernel
theorem dX10_sheetOf_161 : decode cX10_sheetOf 161 = .ok (.ireturn, 1) := by decide +kernel
set_option maxRecDepth 100000 in
set_option maxHeartbeats 4000000 in
theorem c_X10_sheetOf (l : Launch) (G : GT) (n : Nat) (h : AH) (m : Nat) (rf : Int32) (y : Nat → Nat) (k : Nat) (D S : Nat → Nat → Nat) (sv : Nat → Bool) (N : Nat) (T : Nat → Nat) (hS : SysM m rf y k D S sv N T h) (hI : SI y k D S sv N T) (pq1 : Int32) (pq2 : Int32) : Ct l yX10_sheetOf cX10_sheetOf 3 (some .int) 7 0 0 G n h [.ref m, .int pq1, .int pq2] (PoM m n h (if ix pq1 (y 4) then (if ix pq2 8 then 0 else 2) else 1) (nI (qSheet y (z pq1) (z pq2))) y k D S sv N T) := by
  have NE := NO_eq
  obtain ⟨⟨sp, ou, g1, hmx⟩, hx, ⟨yt, hxt⟩, ⟨gd, hgd, hdia⟩, ⟨gk, hgk, hkp⟩, ⟨gi, hgi, hik⟩, ⟨gf, hgf⟩⟩ := id hS
  obtain ⟨hNn, hm, hg1, hch⟩ := id hmx
  obtain ⟨hIy, hk14, hID, hIS, hN, hT⟩ := id hI
  obtain ⟨⟨i0, i1, i2, i3, i4⟩, iR, iU, iM, iS⟩ := id hIy
  refine Ct_of mX10_sheetOf.1 (Nat.le_of_ble_eq_true rfl) ?_
  intro p₀ e₀ s₀ m₀ as₀ bl₀ me₀ c₀ C hin
  refine V_Le (L' := [(0, .ref m), (1, .int pq1), (2, .int pq2)]) rfl ?_
  refine V_aload_n 1 C dX10_sheetOf_0 rfl rfl ?_
  refine V_aload_n 2 C dX10_sheetOf_1 rfl rfl ?_
  have J33 : ∀ (w9 : Nat) (hw9 : w9 ≤ 3) (hq : (¬ w9 = 0 ∧ (if ix pq1 (y 4) then (if ix pq2 8 then 0 else 2) else 1) = w9) ∨ (w9 = 0 ∧ (if ix pq1 (y 4) then (if ix pq2 8 then 0 else 2) else 1) = 0 ∧ ix pq1 (y 4) ∧ ix pq2 8)), V p₀ l e₀ (rmD 7 0 0) s₀ m₀ as₀ bl₀ me₀ c₀ (MQ bl₀ (Po G (PoM m n h (if ix pq1 (y 4) then (if ix pq2 8 then 0 else 2) else 1) (nI (qSheet y (z pq1) (z pq2))) y k D S sv N T)) as₀ s₀ 0 0 (rg G)) G 3 0 0 n h 33 [(0, .ref m), (1, .int pq1), (2, .int pq2)] [.int (nI w9), .ref m] := by
    intro w9 hw9 hq
    refine V_callV 36 C dX10_sheetOf_33 rfl mX10_refused tw985 fcX10 hm (c_X10_refused l G _ _ m rf (nI N) (nI k) sp ou hm w9 hw9) rfl rfl (by decide) ⟨by omega, by omega⟩ (Nat.le_of_ble_eq_true rfl) ?_
    rintro _ _ h1 ⟨rfl, rfl, eh1⟩
    have hm1 : h1 m = some (obM m (nI w9) (nI N) (nI k) sp ou) := by rw [eh1]; exact up_s _ _ _
    have hF1 : ∀ a, ¬ a = m → h1 a = h a := fun a ha => by rw [eh1]; exact up_n _ ha
    have hS1 : SysM m (nI w9) y k D S sv N T h1 := hS.ob hm1 hF1
    have hX1 : FM m h h1 := fun a ha => hF1 a (by omega)
    have hx1 : Row (m + 2) y h1 := (hF1 _ (by omega)).trans hx
    refine V_if_eqB 41 39 C dX10_sheetOf_36 (by decide) rfl  (fun cq36 => ?_) (fun cq36 => ?_)
    · obtain ⟨rfl, hk0, hFF⟩ := hq.resolve_left (fun e => by omega)
      obtain ⟨j1, hj1, rfl⟩ := ix_of hFF.1 (by omega)
      obtain ⟨j2, hj2, rfl⟩ := ix_of hFF.2 (by omega)
      refine V_iload_n 42 C dX10_sheetOf_41 rfl rfl ?_
      refine V_case 0 (fun cq42_0 => ?_) (fun n42_0 => ?_)
      · refine V_tsI 84 C dX10_sheetOf_42 cq42_0 (by decide) (by decide) (by decide) rfl (by decide) ?_
        refine V_aload_n 85 C dX10_sheetOf_84 rfl rfl ?_
        refine V_get (k := 3) 88 C dX10_sheetOf_85 rfl fcX10 tw939 (by decide) rfl hm1 rfl ?_
        refine V_iload_n 89 C dX10_sheetOf_88 rfl rfl ?_
        refine V_iconst 90 C dX10_sheetOf_89 rfl ic0 ?_
        refine V_callS 93 C dX10_sheetOf_90 rfl mX10_ofSheet tw1082 (c_X10_ofSheet l G _ _ (m + 2) y hx1 j1 0 (58 + 6 * j1) rfl (by omega) (by omega) (by omega)) rfl rfl (by decide) ⟨by omega, by omega⟩ (Nat.le_of_ble_eq_true rfl) ?_
        rintro _ _ _ ⟨rfl, rfl, rfl⟩
        refine V_ireturn C dX10_sheetOf_93 rfl rfl (by omega) (by omega) ?_
        exact (PoM_0 hk0 rfl (by rw [zn (by omega), zn (by omega), cq42_0]; rfl) hS1 hX1)
      · skip
        refine V_case 1 (fun cq42_1 => ?_) (fun n42_1 => ?_)
        · refine V_tsI 94 C dX10_sheetOf_42 cq42_1 (by decide) (by decide) (by decide) rfl (by decide) ?_
          refine V_aload_n 95 C dX10_sheetOf_94 rfl rfl ?_
          refine V_get (k := 3) 98 C dX10_sheetOf_95 rfl fcX10 tw939 (by decide) rfl hm1 rfl ?_
          refine V_iload_n 99 C dX10_sheetOf_98 rfl rfl ?_
          refine V_iconst 100 C dX10_sheetOf_99 rfl ic2 ?_
          refine V_callS 103 C dX10_sheetOf_100 rfl mX10_ofSheet tw1082 (c_X10_ofSheet l G _ _ (m + 2) y hx1 j1 2 (58 + 6 * j1 + 2) rfl (by omega) (by omega) (by omega)) rfl rfl (by decide) ⟨by omega, by omega⟩ (Nat.le_of_ble_eq_true rfl) ?_
          rintro _ _ _ ⟨rfl, rfl, rfl⟩
          refine V_ireturn C dX10_sheetOf_103 rfl rfl (by omega) (by omega) ?_
          exact (PoM_0 hk0 rfl (by rw [zn (by omega), zn (by omega), cq42_1]; rfl) hS1 hX1)
        · skip
          refine V_case 2 (fun cq42_2 => ?_) (fun n42_2 => ?_)
          · refine V_tsI 104 C dX10_sheetOf_42 cq42_2 (by decide) (by decide) (by decide) rfl (by decide) ?_
            refine V_aload_n 105 C dX10_sheetOf_104 rfl rfl ?_
            refine V_get (k := 3) 108 C dX10_sheetOf_105 rfl fcX10 tw939 (by decide) rfl hm1 rfl ?_
            refine V_iload_n 109 C dX10_sheetOf_108 rfl rfl ?_
            refine V_iconst 110 C dX10_sheetOf_109 rfl ic3 ?_
            refine V_callS 113 C dX10_sheetOf_110 rfl mX10_ofSheet tw1082 (c_X10_ofSheet l G _ _ (m + 2) y hx1 j1 3 (58 + 6 * j1 + 3) rfl (by omega) (by omega) (by omega)) rfl rfl (by decide) ⟨by omega, by omega⟩ (Nat.le_of_ble_eq_true rfl) ?_
            rintro _ _ _ ⟨rfl, rfl, rfl⟩
            refine V_ireturn C dX10_sheetOf_113 rfl rfl (by omega) (by omega) ?_
            exact (PoM_0 hk0 rfl (by rw [zn (by omega), zn (by omega), cq42_2]; rfl) hS1 hX1)
          · skip
            refine V_case 3 (fun cq42_3 => ?_) (fun n42_3 => ?_)
            · refine V_tsI 114 C dX10_sheetOf_42 cq42_3 (by decide) (by decide) (by decide) rfl (by decide) ?_
              refine V_aload_n 115 C dX10_sheetOf_114 rfl rfl ?_
              refine V_get (k := 3) 118 C dX10_sheetOf_115 rfl fcX10 tw939 (by decide) rfl hm1 rfl ?_
              refine V_iload_n 119 C dX10_sheetOf_118 rfl rfl ?_
              refine V_iconst 120 C dX10_sheetOf_119 rfl ic4 ?_
              refine V_callS 123 C dX10_sheetOf_120 rfl mX10_ofSheet tw1082 (c_X10_ofSheet l G _ _ (m + 2) y hx1 j1 4 (58 + 6 * j1 + 4) rfl (by omega) (by omega) (by omega)) rfl rfl (by decide) ⟨by omega, by omega⟩ (Nat.le_of_ble_eq_true rfl) ?_
              rintro _ _ _ ⟨rfl, rfl, rfl⟩
              refine V_ireturn C dX10_sheetOf_123 rfl rfl (by omega) (by omega) ?_
              exact (PoM_0 hk0 rfl (by rw [zn (by omega), zn (by omega), cq42_3]; rfl) hS1 hX1)
            · skip
              refine V_case 4 (fun cq42_4 => ?_) (fun n42_4 => ?_)
              · refine V_tsI 124 C dX10_sheetOf_42 cq42_4 (by decide) (by decide) (by decide) rfl (by decide) ?_
                refine V_aload_n 125 C dX10_sheetOf_124 rfl rfl ?_
                refine V_get (k := 3) 128 C dX10_sheetOf_125 rfl fcX10 tw939 (by decide) rfl hm1 rfl ?_
                refine V_iload_n 129 C dX10_sheetOf_128 rfl rfl ?_
                refine V_callS 132 C dX10_sheetOf_129 rfl mX10_placeOf tw1079 (c_X10_placeOf l G _ _ (m + 2) y hx1 hIy j1 hj1) rfl rfl (by decide) ⟨by omega, by omega⟩ (Nat.le_of_ble_eq_true rfl) ?_
                rintro _ _ _ ⟨rfl, rfl, rfl⟩
                refine V_ireturn C dX10_sheetOf_132 rfl rfl (by omega) (by omega) ?_
                exact (PoM_0 hk0 rfl (by rw [zn (by omega), zn (by omega), cq42_4]; rfl) hS1 hX1)
              · skip
                refine V_case 5 (fun cq42_5 => ?_) (fun n42_5 => ?_)
                · refine V_tsI 133 C dX10_sheetOf_42 cq42_5 (by decide) (by decide) (by decide) rfl (by decide) ?_
                  refine V_aload_n 134 C dX10_sheetOf_133 rfl rfl ?_
                  refine V_get (k := 3) 137 C dX10_sheetOf_134 rfl fcX10 tw939 (by decide) rfl hm1 rfl ?_
                  refine V_iload_n 138 C dX10_sheetOf_137 rfl rfl ?_
                  refine V_iconst 139 C dX10_sheetOf_138 rfl ic0 ?_
                  refine V_callS 142 C dX10_sheetOf_139 rfl mX10_errorsLater tw1164 (c_X10_errorsLater l G _ _ (m + 2) y hx1 hIy j1 0 hj1 (by omega)) rfl rfl (by decide) ⟨by omega, by omega⟩ (Nat.le_of_ble_eq_true rfl) ?_
                  rintro _ _ _ ⟨rfl, rfl, rfl⟩
                  refine V_ireturn C dX10_sheetOf_142 rfl rfl (by omega) (by omega) ?_
                  exact (PoM_0 hk0 rfl (by rw [zn (by omega), zn (by omega), cq42_5]; rfl) hS1 hX1)
                · skip
                  refine V_case 6 (fun cq42_6 => ?_) (fun n42_6 => ?_)
                  · refine V_tsI 143 C dX10_sheetOf_42 cq42_6 (by decide) (by decide) (by decide) rfl (by decide) ?_
                    refine V_aload_n 144 C dX10_sheetOf_143 rfl rfl ?_
                    refine V_get (k := 3) 147 C dX10_sheetOf_144 rfl fcX10 tw939 (by decide) rfl hm1 rfl ?_
                    refine V_iload_n 148 C dX10_sheetOf_147 rfl rfl ?_
                    refine V_iconst 149 C dX10_sheetOf_148 rfl ic1 ?_
                    refine V_callS 152 C dX10_sheetOf_149 rfl mX10_ofSheet tw1082 (c_X10_ofSheet l G _ _ (m + 2) y hx1 j1 1 (58 + 6 * j1 + 1) rfl (by omega) (by omega) (by omega)) rfl rfl (by decide) ⟨by omega, by omega⟩ (Nat.le_of_ble_eq_true rfl) ?_
                    rintro _ _ _ ⟨rfl, rfl, rfl⟩
                    refine V_ireturn C dX10_sheetOf_152 rfl rfl (by omega) (by omega) ?_
                    exact (PoM_0 hk0 rfl (by rw [zn (by omega), zn (by omega), cq42_6]; rfl) hS1 hX1)
                  · skip
                    refine V_tsD 153 [0, 1, 2, 3, 4, 5, 6] C dX10_sheetOf_42 (lo' := 0) rfl rfl (by omega) ⟨n42_0, n42_1, n42_2, n42_3, n42_4, n42_5, n42_6, trivial⟩ (by decide) (by decide) ?_
                    have e7 : j2 = 7 := by omega
                    refine V_aload_n 154 C dX10_sheetOf_153 rfl rfl ?_
                    refine V_get (k := 3) 157 C dX10_sheetOf_154 rfl fcX10 tw939 (by decide) rfl hm1 rfl ?_
                    refine V_iload_n 158 C dX10_sheetOf_157 rfl rfl ?_
                    refine V_callS 161 C dX10_sheetOf_158 rfl mX10_readOf tw1126 (c_X10_readOf l G _ _ (m + 2) y hx1 hIy j1 hj1) rfl rfl (by decide) ⟨by omega, by omega⟩ (Nat.le_of_ble_eq_true rfl) ?_
                    rintro _ _ _ ⟨rfl, rfl, rfl⟩
                    refine V_ireturn C dX10_sheetOf_161 rfl rfl (by omega) (by omega) ?_
                    exact (PoM_0 hk0 rfl (by rw [zn (by omega), zn (by omega), e7]; rfl) hS1 hX1)
    · have hqn := (hq.resolve_right (fun e => by omega)).2
      refine V_iconst 40 C dX10_sheetOf_39 rfl ic0 ?_
      refine V_ireturn C dX10_sheetOf_40 rfl rfl (by omega) (by omega) ?_
      exact (PoM_k w9 hqn (by omega) rfl hS1 hX1)
  refine V_get (k := 3) 5 C dX10_sheetOf_2 rfl fcX10 tw939 (by decide) rfl hm rfl ?_
  refine V_iload_n 6 C dX10_sheetOf_5 rfl rfl ?_
  refine V_callS 9 C dX10_sheetOf_6 rfl mX10_isSheet tw1067 (c_X10_isSheet l G _ _ (m + 2) y hx hIy pq1) rfl rfl (by decide) ⟨by omega, by omega⟩ (Nat.le_of_ble_eq_true rfl) ?_
  rintro _ _ _ ⟨rfl, rfl, rfl⟩
  refine V_if_neB 16 12 C dX10_sheetOf_9 (by decide) rfl  (fun c9 => ?_) (fun c9 => ?_)
  · refine V_iload_n 17 C dX10_sheetOf_16 rfl rfl ?_
    refine V_i2l 18 C dX10_sheetOf_17 rfl  ?_
    refine V_lconst 19 C dX10_sheetOf_18 rfl rfl ?_
    refine V_ldc2 22 C dX10_sheetOf_19 rfl tw1184 ?_
    refine V_callS 25 C dX10_sheetOf_22 rfl mX10_in tw982 (c_X10_in l G _ _ _ _ _) rfl rfl (by decide) ⟨by omega, by omega⟩ (Nat.le_of_ble_eq_true rfl) ?_
    rintro _ _ _ ⟨rfl, rfl, rfl⟩
    rw [inI (v := pq2) (lo := 0) (hi := 7) (by decide +kernel) (by decide +kernel)]
    refine V_if_eqB 32 28 C dX10_sheetOf_25 (by decide) rfl  (fun cq25 => ?_) (fun cq25 => ?_)
    · have hno : ¬ ix pq2 8 := fun e => cq25 ⟨by have := e.1; omega, by have := e.2; omega⟩
      refine V_iconst 33 C dX10_sheetOf_32 rfl ic2 ?_
      refine V_L [0, 1, 2] rfl ?_
      exact J33 2 (by omega) (Or.inl ⟨by decide, by rw [if_pos c9, if_neg hno]⟩)
    · have hw : ix pq2 8 := ⟨by omega, by omega⟩
      refine V_iconst 29 C dX10_sheetOf_28 rfl ic0 ?_
      refine V_goto 33 C dX10_sheetOf_29 (by decide) ?_
      refine V_L [0, 1, 2] rfl ?_
      exact J33 0 (by omega) (Or.inr ⟨rfl, by rw [if_pos c9, if_pos hw], ⟨c9, hw⟩⟩)
  · refine V_iconst 13 C dX10_sheetOf_12 rfl ic1 ?_
    refine V_goto 33 C dX10_sheetOf_13 (by decide) ?_
    refine V_L [0, 1, 2] rfl ?_
    exact J33 1 (by omega) (Or.inl ⟨by decide, if_neg c9⟩)

theorem dX10_errorsIn_0 : decode cX10_errorsIn 0 = .ok (.aload_n 0, 1) := by decide +kernel
theorem dX10_errorsIn_1 : decode cX10_errorsIn 1 = .ok (.aload_n 0, 1) := by decide +kernel
theorem dX10_errorsIn_2 : decode cX10_errorsIn 2 = .ok (.getfield 13, 3) := by decide +kernel
theorem dX10_errorsIn_5 : decode cX10_errorsIn 5 = .ok (.iload_n 1, 1) := by decide +kernel
theorem dX10_errorsIn_6 : decode cX10_errorsIn 6 = .ok (.invokestatic 169, 3) := by decide +kernel
theorem dX10_errorsIn_9 : decode cX10_errorsIn 9 = .ok (.ifCond .ne 7, 3) := by decide +kernel
theorem dX10_errorsIn_12 : decode cX10_errorsIn 12 = .ok (.iconst 1, 1) := by decide +kernel
theorem dX10_errorsIn_13 : decode cX10_errorsIn 13 = .ok (.goto 20, 3) := by decide +kernel
theorem dX10_errorsIn_16 : decode cX10_errorsIn 16 = .ok (.iload_n 2, 1) := by decide +kernel
theorem dX10_errorsIn_17 : decode cX10_errorsIn 17 = .ok (.i2l, 1) := by decide +kernel
theorem dX10_errorsIn_18 : decode cX10_errorsIn 18 = .ok (.lconst 0, 1) := by decide +kernel
theorem dX10_errorsIn_19 : decode cX10_errorsIn 19 = .ok (.ldc2_w 265, 3) := by decide +kernel
theorem dX10_errorsIn_22 : decode cX10_errorsIn 22 = .ok (.invokestatic 40, 3) := by decide +kernel
theorem dX10_errorsIn_25 : decode cX10_errorsIn 25 = .ok (.ifCond .eq 7, 3) := by decide +kernel
theorem dX10_errorsIn_28 : decode cX10_errorsIn 28 = .ok (.iconst 0, 1) := by decide +kernel
theorem dX10_errorsIn_29 : decode cX10_errorsIn 29 = .ok (.goto 4, 3) := by decide +kernel
theorem dX10_errorsIn_32 : decode cX10_errorsIn 32 = .ok (.iconst 2, 1) := by decide +kernel
theorem dX10_errorsIn_33 : decode cX10_errorsIn 33 = .ok (.invokevirtual 124, 3) := by decide +kernel
theorem dX10_errorsIn_36 : decode cX10_errorsIn 36 = .ok (.ifCond .eq 5, 3) := by decide +kernel
theorem dX10_errorsIn_39 : decode cX10_errorsIn 39 = .ok (.iconst 0, 1) := by decide +kernel
theorem dX10_errorsIn_40 : decode cX10_errorsIn 40 = .ok (.ireturn, 1) := by decide +kernel
theorem dX10_errorsIn_41 : decode cX10_errorsIn 41 = .ok (.aload_n 0, 1) := by decide +kernel
theorem dX10_errorsIn_42 : decode cX10_errorsIn 42 = .ok (.getfield 13, 3) := by decide +kernel
theorem dX10_errorsIn_45 : decode cX10_errorsIn 45 = .ok (.iload_n 1, 1) := by decide +kernel
theorem dX10_errorsIn_46 : decode cX10_errorsIn 46 = .ok (.iload_n 2, 1) := by decide +kernel
theorem dX10_errorsIn_47 : decode cX10_errorsIn 47 = .ok (.invokestatic 72, 3) := by decide +kernel
theorem dX10_errorsIn_50 : decode cX10_errorsIn 50 = .ok (.ireturn, 1) := by decide +kernel
set_option maxRecDepth 100000 in
set_option maxHeartbeats 4000000 in
theorem c_X10_errorsIn (l : Launch) (G : GT) (n : Nat) (h : AH) (m : Nat) (rf : Int32) (y : Nat → Nat) (k : Nat) (D S : Nat → Nat → Nat) (sv : Nat → Bool) (N : Nat) (T : Nat → Nat) (hS : SysM m rf y k D S sv N T h) (hI : SI y k D S sv N T) (pq1 : Int32) (pq2 : Int32) : Ct l yX10_errorsIn cX10_errorsIn 3 (some .int) 7 0 0 G n h [.ref m, .int pq1, .int pq2] (PoM m n h (if ix pq1 (y 4) then (if ix pq2 201 then 0 else 2) else 1) (nI (ers y (z pq1) (z pq2))) y k D S sv N T) := by
  have NE := NO_eq
  obtain ⟨⟨sp, ou, g1, hmx⟩, hx, ⟨yt, hxt⟩, ⟨gd, hgd, hdia⟩, ⟨gk, hgk, hkp⟩, ⟨gi, hgi, hik⟩, ⟨gf, hgf⟩⟩ := id hS
  obtain ⟨hNn, hm, hg1, hch⟩ := id hmx
  obtain ⟨hIy, hk14, hID, hIS, hN, hT⟩ := id hI
  obtain ⟨⟨i0, i1, i2, i3, i4⟩, iR, iU, iM, iS⟩ := id hIy
  refine Ct_of mX10_errorsIn.1 (Nat.le_of_ble_eq_true rfl) ?_
  intro p₀ e₀ s₀ m₀ as₀ bl₀ me₀ c₀ C hin
  refine V_Le (L' := [(0, .ref m), (1, .int pq1), (2, .int pq2)]) rfl ?_
  refine V_aload_n 1 C dX10_errorsIn_0 rfl rfl ?_
  refine V_aload_n 2 C dX10_errorsIn_1 rfl rfl ?_
  have J33 : ∀ (w9 : Nat) (hw9 : w9 ≤ 3) (hq : (¬ w9 = 0 ∧ (if ix pq1 (y 4) then (if ix pq2 201 then 0 else 2) else 1) = w9) ∨ (w9 = 0 ∧ (if ix pq1 (y 4) then (if ix pq2 201 then 0 else 2) else 1) = 0 ∧ ix pq1 (y 4) ∧ ix pq2 201)), V p₀ l e₀ (rmD 7 0 0) s₀ m₀ as₀ bl₀ me₀ c₀ (MQ bl₀ (Po G (PoM m n h (if ix pq1 (y 4) then (if ix pq2 201 then 0 else 2) else 1) (nI (ers y (z pq1) (z pq2))) y k D S sv N T)) as₀ s₀ 0 0 (rg G)) G 3 0 0 n h 33 [(0, .ref m), (1, .int pq1), (2, .int pq2)] [.int (nI w9), .ref m] := by
    intro w9 hw9 hq
    refine V_callV 36 C dX10_errorsIn_33 rfl mX10_refused tw985 fcX10 hm (c_X10_refused l G _ _ m rf (nI N) (nI k) sp ou hm w9 hw9) rfl rfl (by decide) ⟨by omega, by omega⟩ (Nat.le_of_ble_eq_true rfl) ?_
    rintro _ _ h1 ⟨rfl, rfl, eh1⟩
    have hm1 : h1 m = some (obM m (nI w9) (nI N) (nI k) sp ou) := by rw [eh1]; exact up_s _ _ _
    have hF1 : ∀ a, ¬ a = m → h1 a = h a := fun a ha => by rw [eh1]; exact up_n _ ha
    have hS1 : SysM m (nI w9) y k D S sv N T h1 := hS.ob hm1 hF1
    have hX1 : FM m h h1 := fun a ha => hF1 a (by omega)
    have hx1 : Row (m + 2) y h1 := (hF1 _ (by omega)).trans hx
    refine V_if_eqB 41 39 C dX10_errorsIn_36 (by decide) rfl  (fun cq36 => ?_) (fun cq36 => ?_)
    · obtain ⟨rfl, hk0, hFF⟩ := hq.resolve_left (fun e => by omega)
      obtain ⟨j1, hj1, rfl⟩ := ix_of hFF.1 (by omega)
      obtain ⟨j2, hj2, rfl⟩ := ix_of hFF.2 (by omega)
      refine V_aload_n 42 C dX10_errorsIn_41 rfl rfl ?_
      refine V_get (k := 3) 45 C dX10_errorsIn_42 rfl fcX10 tw939 (by decide) rfl hm1 rfl ?_
      refine V_iload_n 46 C dX10_errorsIn_45 rfl rfl ?_
      refine V_iload_n 47 C dX10_errorsIn_46 rfl rfl ?_
      refine V_callS 50 C dX10_errorsIn_47 rfl mX10_errorsLater tw1164 (c_X10_errorsLater l G _ _ (m + 2) y hx1 hIy j1 j2 hj1 (by omega)) rfl rfl (by decide) ⟨by omega, by omega⟩ (Nat.le_of_ble_eq_true rfl) ?_
      rintro _ _ _ ⟨rfl, rfl, rfl⟩
      refine V_ireturn C dX10_errorsIn_50 rfl rfl (by omega) (by omega) ?_
      exact (PoM_0 hk0 rfl (by rw [zn (by omega), zn (by omega)]) hS1 hX1)
    · have hqn := (hq.resolve_right (fun e => by omega)).2
      refine V_iconst 40 C dX10_errorsIn_39 rfl ic0 ?_
      refine V_ireturn C dX10_errorsIn_40 rfl rfl (by omega) (by omega) ?_
      exact (PoM_k w9 hqn (by omega) rfl hS1 hX1)
  refine V_get (k := 3) 5 C dX10_errorsIn_2 rfl fcX10 tw939 (by decide) rfl hm rfl ?_
  refine V_iload_n 6 C dX10_errorsIn_5 rfl rfl ?_
  refine V_callS 9 C dX10_errorsIn_6 rfl mX10_isSheet tw1067 (c_X10_isSheet l G _ _ (m + 2) y hx hIy pq1) rfl rfl (by decide) ⟨by omega, by omega⟩ (Nat.le_of_ble_eq_true rfl) ?_
  rintro _ _ _ ⟨rfl, rfl, rfl⟩
  refine V_if_neB 16 12 C dX10_errorsIn_9 (by decide) rfl  (fun c9 => ?_) (fun c9 => ?_)
  · refine V_iload_n 17 C dX10_errorsIn_16 rfl rfl ?_
    refine V_i2l 18 C dX10_errorsIn_17 rfl  ?_
    refine V_lconst 19 C dX10_errorsIn_18 rfl rfl ?_
    refine V_ldc2 22 C dX10_errorsIn_19 rfl tw1263 ?_
    refine V_callS 25 C dX10_errorsIn_22 rfl mX10_in tw982 (c_X10_in l G _ _ _ _ _) rfl rfl (by decide) ⟨by omega, by omega⟩ (Nat.le_of_ble_eq_true rfl) ?_
    rintro _ _ _ ⟨rfl, rfl, rfl⟩
    rw [inI (v := pq2) (lo := 0) (hi := 200) (by decide +kernel) (by decide +kernel)]
    refine V_if_eqB 32 28 C dX10_errorsIn_25 (by decide) rfl  (fun cq25 => ?_) (fun cq25 => ?_)
    · have hno : ¬ ix pq2 201 := fun e => cq25 ⟨by have := e.1; omega, by have := e.2; omega⟩
      refine V_iconst 33 C dX10_errorsIn_32 rfl ic2 ?_
      refine V_L [0, 1, 2] rfl ?_
      exact J33 2 (by omega) (Or.inl ⟨by decide, by rw [if_pos c9, if_neg hno]⟩)
    · have hw : ix pq2 201 := ⟨by omega, by omega⟩
      refine V_iconst 29 C dX10_errorsIn_28 rfl ic0 ?_
      refine V_goto 33 C dX10_errorsIn_29 (by decide) ?_
      refine V_L [0, 1, 2] rfl ?_
      exact J33 0 (by omega) (Or.inr ⟨rfl, by rw [if_pos c9, if_pos hw], ⟨c9, hw⟩⟩)
  · refine V_iconst 13 C dX10_errorsIn_12 rfl ic1 ?_
    refine V_goto 33 C dX10_errorsIn_13 (by decide) ?_
    refine V_L [0, 1, 2] rfl ?_
    exact J33 1 (by omega) (Or.inl ⟨by decide, if_neg c9⟩)

theorem dX10_message_0 : decode cX10_message 0 = .ok (.aload_n 0, 1) := by decide +kernel
theorem dX10_message_1 : decode cX10_message 1 = .ok (.aload_n 0, 1) := by decide +kernel
theorem dX10_message_2 : decode cX10_message 2 = .ok (.getfield 13, 3) := by decide +kernel
theorem dX10_message_5 : decode cX10_message 5 = .ok (.iload_n 1, 1) := by decide +kernel
theorem dX10_message_6 : decode cX10_message 6 = .ok (.invokestatic 245, 3) := by decide +kernel
theorem dX10_message_9 : decode cX10_message 9 = .ok (.ifCond .eq 7, 3) := by decide +kernel
theorem dX10_message_12 : decode cX10_message 12 = .ok (.iconst 0, 1) := by decide +kernel
theorem dX10_message_13 : decode cX10_message 13 = .ok (.goto 4, 3) := by decide +kernel
theorem dX10_message_16 : decode cX10_message 16 = .ok (.iconst 1, 1) := by decide +kernel
theorem dX10_message_17 : decode cX10_message 17 = .ok (.invokevirtual 124, 3) := by decide +kernel
theorem dX10_message_20 : decode cX10_message 20 = .ok (.ifCond .eq 5, 3) := by decide +kernel
theorem dX10_message_23 : decode cX10_message 23 = .ok (.iconst 0, 1) := by decide +kernel
theorem dX10_message_24 : decode cX10_message 24 = .ok (.ireturn, 1) := by decide +kernel
theorem dX10_message_25 : decode cX10_message 25 = .ok (.aload_n 0, 1) := by decide +kernel
theorem dX10_message_26 : decode cX10_message 26 = .ok (.getfield 13, 3) := by decide +kernel
theorem dX10_message_29 : decode cX10_message 29 = .ok (.bipush 52, 2) := by decide +kernel
theorem dX10_message_31 : decode cX10_message 31 = .ok (.iload_n 1, 1) := by decide +kernel
theorem dX10_message_32 : decode cX10_message 32 = .ok (.iadd, 1) := by decide +kernel
theorem dX10_message_33 : decode cX10_message 33 = .ok (.iaload, 1) := by decide +kernel
theorem dX10_message_34 : decode cX10_message 34 = .ok (.ireturn, 1) := by decide +kernel
set_option maxRecDepth 100000 in
set_option maxHeartbeats 4000000 in
theorem c_X10_message (l : Launch) (G : GT) (n : Nat) (h : AH) (m : Nat) (rf : Int32) (y : Nat → Nat) (k : Nat) (D S : Nat → Nat → Nat) (sv : Nat → Bool) (N : Nat) (T : Nat → Nat) (hS : SysM m rf y k D S sv N T h) (hI : SI y k D S sv N T) (pq1 : Int32) : Ct l yX10_message cX10_message 2 (some .int) 7 0 0 G n h [.ref m, .int pq1] (PoM m n h (if ix pq1 (y 3) then 0 else 1) (nI (y (52 + z pq1))) y k D S sv N T) := by
  have NE := NO_eq
  obtain ⟨⟨sp, ou, g1, hmx⟩, hx, ⟨yt, hxt⟩, ⟨gd, hgd, hdia⟩, ⟨gk, hgk, hkp⟩, ⟨gi, hgi, hik⟩, ⟨gf, hgf⟩⟩ := id hS
  obtain ⟨hNn, hm, hg1, hch⟩ := id hmx
  obtain ⟨hIy, hk14, hID, hIS, hN, hT⟩ := id hI
  obtain ⟨⟨i0, i1, i2, i3, i4⟩, iR, iU, iM, iS⟩ := id hIy
  refine Ct_of mX10_message.1 (Nat.le_of_ble_eq_true rfl) ?_
  intro p₀ e₀ s₀ m₀ as₀ bl₀ me₀ c₀ C hin
  refine V_Le (L' := [(0, .ref m), (1, .int pq1)]) rfl ?_
  refine V_aload_n 1 C dX10_message_0 rfl rfl ?_
  refine V_aload_n 2 C dX10_message_1 rfl rfl ?_
  have J17 : ∀ (w9 : Nat) (hw9 : w9 ≤ 3) (hq : (¬ w9 = 0 ∧ (if ix pq1 (y 3) then 0 else 1) = w9) ∨ (w9 = 0 ∧ (if ix pq1 (y 3) then 0 else 1) = 0 ∧ ix pq1 (y 3))), V p₀ l e₀ (rmD 7 0 0) s₀ m₀ as₀ bl₀ me₀ c₀ (MQ bl₀ (Po G (PoM m n h (if ix pq1 (y 3) then 0 else 1) (nI (y (52 + z pq1))) y k D S sv N T)) as₀ s₀ 0 0 (rg G)) G 2 0 0 n h 17 [(0, .ref m), (1, .int pq1)] [.int (nI w9), .ref m] := by
    intro w9 hw9 hq
    refine V_callV 20 C dX10_message_17 rfl mX10_refused tw985 fcX10 hm (c_X10_refused l G _ _ m rf (nI N) (nI k) sp ou hm w9 hw9) rfl rfl (by decide) ⟨by omega, by omega⟩ (Nat.le_of_ble_eq_true rfl) ?_
    rintro _ _ h1 ⟨rfl, rfl, eh1⟩
    have hm1 : h1 m = some (obM m (nI w9) (nI N) (nI k) sp ou) := by rw [eh1]; exact up_s _ _ _
    have hF1 : ∀ a, ¬ a = m → h1 a = h a := fun a ha => by rw [eh1]; exact up_n _ ha
    have hS1 : SysM m (nI w9) y k D S sv N T h1 := hS.ob hm1 hF1
    have hX1 : FM m h h1 := fun a ha => hF1 a (by omega)
    have hx1 : Row (m + 2) y h1 := (hF1 _ (by omega)).trans hx
    refine V_if_eqB 25 23 C dX10_message_20 (by decide) rfl  (fun cq20 => ?_) (fun cq20 => ?_)
    · obtain ⟨rfl, hk0, hFF⟩ := hq.resolve_left (fun e => by omega)
      obtain ⟨j1, hj1, rfl⟩ := ix_of hFF (by omega)
      refine V_aload_n 26 C dX10_message_25 rfl rfl ?_
      refine V_get (k := 3) 29 C dX10_message_26 rfl fcX10 tw939 (by decide) rfl hm1 rfl ?_
      refine V_bipush 31 C dX10_message_29 rfl bip52 ?_
      refine V_iload_n 32 C dX10_message_31 rfl rfl ?_
      refine V_iaddN 33 C dX10_message_32 rfl  ?_
      refine V_iald (j := 52 + j1) 34 C dX10_message_33 rfl hx1 rfl (by omega) (by omega) ?_
      refine V_ireturn C dX10_message_34 rfl rfl (by omega) (by omega) ?_
      exact (PoM_0 hk0 rfl (by rw [zn (by omega)]) hS1 hX1)
    · have hqn := (hq.resolve_right (fun e => by omega)).2
      refine V_iconst 24 C dX10_message_23 rfl ic0 ?_
      refine V_ireturn C dX10_message_24 rfl rfl (by omega) (by omega) ?_
      exact (PoM_k w9 hqn (by omega) rfl hS1 hX1)
  refine V_get (k := 3) 5 C dX10_message_2 rfl fcX10 tw939 (by decide) rfl hm rfl ?_
  refine V_iload_n 6 C dX10_message_5 rfl rfl ?_
  refine V_callS 9 C dX10_message_6 rfl mX10_isMessage tw1189 (c_X10_isMessage l G _ _ (m + 2) y hx hIy pq1) rfl rfl (by decide) ⟨by omega, by omega⟩ (Nat.le_of_ble_eq_true rfl) ?_
  rintro _ _ _ ⟨rfl, rfl, rfl⟩
  refine V_if_eqB 16 12 C dX10_message_9 (by decide) rfl  (fun c9 => ?_) (fun c9 => ?_)
  · refine V_iconst 17 C dX10_message_16 rfl ic1 ?_
    refine V_L [0, 1] rfl ?_
    exact J17 1 (by omega) (Or.inl ⟨by decide, if_neg c9⟩)
  · refine V_iconst 13 C dX10_message_12 rfl ic0 ?_
    refine V_goto 17 C dX10_message_13 (by decide) ?_
    refine V_L [0, 1] rfl ?_
    exact J17 0 (by omega) (Or.inr ⟨rfl, if_pos c9, c9⟩)

theorem dX10_why_0 : decode cX10_why 0 = .ok (.aload_n 0, 1) := by decide +kernel
theorem dX10_why_1 : decode cX10_why 1 = .ok (.aload_n 0, 1) := by decide +kernel
theorem dX10_why_2 : decode cX10_why 2 = .ok (.getfield 13, 3) := by decide +kernel
theorem dX10_why_5 : decode cX10_why 5 = .ok (.iload_n 1, 1) := by decide +kernel
theorem dX10_why_6 : decode cX10_why 6 = .ok (.invokestatic 169, 3) := by decide +kernel
theorem dX10_why_9 : decode cX10_why 9 = .ok (.ifCond .eq 7, 3) := by decide +kernel
theorem dX10_why_12 : decode cX10_why 12 = .ok (.iconst 0, 1) := by decide +kernel
theorem dX10_why_13 : decode cX10_why 13 = .ok (.goto 4, 3) := by decide +kernel
theorem dX10_why_16 : decode cX10_why 16 = .ok (.iconst 1, 1) := by decide +kernel
theorem dX10_why_17 : decode cX10_why 17 = .ok (.invokevirtual 124, 3) := by decide +kernel
theorem dX10_why_20 : decode cX10_why 20 = .ok (.ifCond .eq 5, 3) := by decide +kernel
theorem dX10_why_23 : decode cX10_why 23 = .ok (.iconst 0, 1) := by decide +kernel
theorem dX10_why_24 : decode cX10_why 24 = .ok (.ireturn, 1) := by decide +kernel
theorem dX10_why_25 : decode cX10_why 25 = .ok (.aload_n 0, 1) := by decide +kernel
theorem dX10_why_26 : decode cX10_why 26 = .ok (.getfield 13, 3) := by decide +kernel
theorem dX10_why_29 : decode cX10_why 29 = .ok (.iload_n 1, 1) := by decide +kernel
theorem dX10_why_30 : decode cX10_why 30 = .ok (.invokestatic 105, 3) := by decide +kernel
theorem dX10_why_33 : decode cX10_why 33 = .ok (.ireturn, 1) := by decide +kernel
set_option maxRecDepth 100000 in
set_option maxHeartbeats 4000000 in
theorem c_X10_why (l : Launch) (G : GT) (n : Nat) (h : AH) (m : Nat) (rf : Int32) (y : Nat → Nat) (k : Nat) (D S : Nat → Nat → Nat) (sv : Nat → Bool) (N : Nat) (T : Nat → Nat) (hS : SysM m rf y k D S sv N T h) (hI : SI y k D S sv N T) (pq1 : Int32) : Ct l yX10_why cX10_why 2 (some .int) 7 0 0 G n h [.ref m, .int pq1] (PoM m n h (if ix pq1 (y 4) then 0 else 1) (nI (crs y (z pq1))) y k D S sv N T) := by
  have NE := NO_eq
  obtain ⟨⟨sp, ou, g1, hmx⟩, hx, ⟨yt, hxt⟩, ⟨gd, hgd, hdia⟩, ⟨gk, hgk, hkp⟩, ⟨gi, hgi, hik⟩, ⟨gf, hgf⟩⟩ := id hS
  obtain ⟨hNn, hm, hg1, hch⟩ := id hmx
  obtain ⟨hIy, hk14, hID, hIS, hN, hT⟩ := id hI
  obtain ⟨⟨i0, i1, i2, i3, i4⟩, iR, iU, iM, iS⟩ := id hIy
  refine Ct_of mX10_why.1 (Nat.le_of_ble_eq_true rfl) ?_
  intro p₀ e₀ s₀ m₀ as₀ bl₀ me₀ c₀ C hin
  refine V_Le (L' := [(0, .ref m), (1, .int pq1)]) rfl ?_
  refine V_aload_n 1 C dX10_why_0 rfl rfl ?_
  refine V_aload_n 2 C dX10_why_1 rfl rfl ?_
  have J17 : ∀ (w9 : Nat) (hw9 : w9 ≤ 3) (hq : (¬ w9 = 0 ∧ (if ix pq1 (y 4) then 0 else 1) = w9) ∨ (w9 = 0 ∧ (if ix pq1 (y 4) then 0 else 1) = 0 ∧ ix pq1 (y 4))), V p₀ l e₀ (rmD 7 0 0) s₀ m₀ as₀ bl₀ me₀ c₀ (MQ bl₀ (Po G (PoM m n h (if ix pq1 (y 4) then 0 else 1) (nI (crs y (z pq1))) y k D S sv N T)) as₀ s₀ 0 0 (rg G)) G 2 0 0 n h 17 [(0, .ref m), (1, .int pq1)] [.int (nI w9), .ref m] := by
    intro w9 hw9 hq
    refine V_callV 20 C dX10_why_17 rfl mX10_refused tw985 fcX10 hm (c_X10_refused l G _ _ m rf (nI N) (nI k) sp ou hm w9 hw9) rfl rfl (by decide) ⟨by omega, by omega⟩ (Nat.le_of_ble_eq_true rfl) ?_
    rintro _ _ h1 ⟨rfl, rfl, eh1⟩
    have hm1 : h1 m = some (obM m (nI w9) (nI N) (nI k) sp ou) := by rw [eh1]; exact up_s _ _ _
    have hF1 : ∀ a, ¬ a = m → h1 a = h a := fun a ha => by rw [eh1]; exact up_n _ ha
    have hS1 : SysM m (nI w9) y k D S sv N T h1 := hS.ob hm1 hF1
    have hX1 : FM m h h1 := fun a ha => hF1 a (by omega)
    have hx1 : Row (m + 2) y h1 := (hF1 _ (by omega)).trans hx
    refine V_if_eqB 25 23 C dX10_why_20 (by decide) rfl  (fun cq20 => ?_) (fun cq20 => ?_)
    · obtain ⟨rfl, hk0, hFF⟩ := hq.resolve_left (fun e => by omega)
      obtain ⟨j1, hj1, rfl⟩ := ix_of hFF (by omega)
      refine V_aload_n 26 C dX10_why_25 rfl rfl ?_
      refine V_get (k := 3) 29 C dX10_why_26 rfl fcX10 tw939 (by decide) rfl hm1 rfl ?_
      refine V_iload_n 30 C dX10_why_29 rfl rfl ?_
      refine V_callS 33 C dX10_why_30 rfl mX10_copyReason tw1117 (c_X10_copyReason l G _ _ (m + 2) y hx1 hIy j1 hj1) rfl rfl (by decide) ⟨by omega, by omega⟩ (Nat.le_of_ble_eq_true rfl) ?_
      rintro _ _ _ ⟨rfl, rfl, rfl⟩
      refine V_ireturn C dX10_why_33 rfl rfl (by omega) (by omega) ?_
      exact (PoM_0 hk0 rfl (by rw [zn (by omega)]) hS1 hX1)
    · have hqn := (hq.resolve_right (fun e => by omega)).2
      refine V_iconst 24 C dX10_why_23 rfl ic0 ?_
      refine V_ireturn C dX10_why_24 rfl rfl (by omega) (by omega) ?_
      exact (PoM_k w9 hqn (by omega) rfl hS1 hX1)
  refine V_get (k := 3) 5 C dX10_why_2 rfl fcX10 tw939 (by decide) rfl hm rfl ?_
  refine V_iload_n 6 C dX10_why_5 rfl rfl ?_
  refine V_callS 9 C dX10_why_6 rfl mX10_isSheet tw1067 (c_X10_isSheet l G _ _ (m + 2) y hx hIy pq1) rfl rfl (by decide) ⟨by omega, by omega⟩ (Nat.le_of_ble_eq_true rfl) ?_
  rintro _ _ _ ⟨rfl, rfl, rfl⟩
  refine V_if_eqB 16 12 C dX10_why_9 (by decide) rfl  (fun c9 => ?_) (fun c9 => ?_)
  · refine V_iconst 17 C dX10_why_16 rfl ic1 ?_
    refine V_L [0, 1] rfl ?_
    exact J17 1 (by omega) (Or.inl ⟨by decide, if_neg c9⟩)
  · refine V_iconst 13 C dX10_why_12 rfl ic0 ?_
    refine V_goto 17 C dX10_why_13 (by decide) ?_
    refine V_L [0, 1] rfl ?_
    exact J17 0 (by omega) (Or.inr ⟨rfl, if_pos c9, c9⟩)

theorem dX10_rightFor_0 : decode cX10_rightFor 0 = .ok (.aload_n 0, 1) := by decide +kernel
theorem dX10_rightFor_1 : decode cX10_rightFor 1 = .ok (.aload_n 0, 1) := by decide +kernel
theorem dX10_rightFor_2 : decode cX10_rightFor 2 = .ok (.getfield 13, 3) := by decide +kernel
theorem dX10_rightFor_5 : decode cX10_rightFor 5 = .ok (.iload_n 1, 1) := by decide +kernel
theorem dX10_rightFor_6 : decode cX10_rightFor 6 = .ok (.invokestatic 169, 3) := by decide +kernel
theorem dX10_rightFor_9 : decode cX10_rightFor 9 = .ok (.ifCond .eq 7, 3) := by decide +kernel
theorem dX10_rightFor_12 : decode cX10_rightFor 12 = .ok (.iconst 0, 1) := by decide +kernel
theorem dX10_rightFor_13 : decode cX10_rightFor 13 = .ok (.goto 4, 3) := by decide +kernel
theorem dX10_rightFor_16 : decode cX10_rightFor 16 = .ok (.iconst 1, 1) := by decide +kernel
theorem dX10_rightFor_17 : decode cX10_rightFor 17 = .ok (.invokevirtual 124, 3) := by decide +kernel
theorem dX10_rightFor_20 : decode cX10_rightFor 20 = .ok (.ifCond .eq 5, 3) := by decide +kernel
theorem dX10_rightFor_23 : decode cX10_rightFor 23 = .ok (.iconst 0, 1) := by decide +kernel
theorem dX10_rightFor_24 : decode cX10_rightFor 24 = .ok (.ireturn, 1) := by decide +kernel
theorem dX10_rightFor_25 : decode cX10_rightFor 25 = .ok (.aload_n 0, 1) := by decide +kernel
theorem dX10_rightFor_26 : decode cX10_rightFor 26 = .ok (.getfield 13, 3) := by decide +kernel
theorem dX10_rightFor_29 : decode cX10_rightFor 29 = .ok (.iload_n 1, 1) := by decide +kernel
theorem dX10_rightFor_30 : decode cX10_rightFor 30 = .ok (.iconst 0, 1) := by decide +kernel
theorem dX10_rightFor_31 : decode cX10_rightFor 31 = .ok (.invokestatic 72, 3) := by decide +kernel
theorem dX10_rightFor_34 : decode cX10_rightFor 34 = .ok (.istore_n 2, 1) := by decide +kernel
theorem dX10_rightFor_35 : decode cX10_rightFor 35 = .ok (.iconst 1, 1) := by decide +kernel
theorem dX10_rightFor_36 : decode cX10_rightFor 36 = .ok (.istore_n 3, 1) := by decide +kernel
theorem dX10_rightFor_37 : decode cX10_rightFor 37 = .ok (.iload_n 3, 1) := by decide +kernel
theorem dX10_rightFor_38 : decode cX10_rightFor 38 = .ok (.sipush 200, 3) := by decide +kernel
theorem dX10_rightFor_41 : decode cX10_rightFor 41 = .ok (.if_icmp .gt 24, 3) := by decide +kernel
theorem dX10_rightFor_44 : decode cX10_rightFor 44 = .ok (.aload_n 0, 1) := by decide +kernel
theorem dX10_rightFor_45 : decode cX10_rightFor 45 = .ok (.getfield 13, 3) := by decide +kernel
theorem dX10_rightFor_48 : decode cX10_rightFor 48 = .ok (.iload_n 1, 1) := by decide +kernel
theorem dX10_rightFor_49 : decode cX10_rightFor 49 = .ok (.iload_n 3, 1) := by decide +kernel
theorem dX10_rightFor_50 : decode cX10_rightFor 50 = .ok (.invokestatic 72, 3) := by decide +kernel
theorem dX10_rightFor_53 : decode cX10_rightFor 53 = .ok (.iload_n 2, 1) := by decide +kernel
theorem dX10_rightFor_54 : decode cX10_rightFor 54 = .ok (.if_icmp .le 5, 3) := by decide +kernel
theorem dX10_rightFor_57 : decode cX10_rightFor 57 = .ok (.iload_n 3, 1) := by decide +kernel
theorem dX10_rightFor_58 : decode cX10_rightFor 58 = .ok (.ireturn, 1) := by decide +kernel
theorem dX10_rightFor_59 : decode cX10_rightFor 59 = .ok (.iinc 3 1, 3) := by decide +kernel
theorem dX10_rightFor_62 : decode cX10_rightFor 62 = .ok (.goto (-25), 3) := by decide +kernel
theorem dX10_rightFor_65 : decode cX10_rightFor 65 = .ok (.iconst (-1), 1) := by decide +kernel
theorem dX10_rightFor_66 : decode cX10_rightFor 66 = .ok (.ireturn, 1) := by decide +kernel
set_option maxRecDepth 100000 in
set_option maxHeartbeats 4000000 in
theorem c_X10_rightFor (l : Launch) (G : GT) (n : Nat) (h : AH) (m : Nat) (rf : Int32) (y : Nat → Nat) (k : Nat) (D S : Nat → Nat → Nat) (sv : Nat → Bool) (N : Nat) (T : Nat → Nat) (hS : SysM m rf y k D S sv N T h) (hI : SI y k D S sv N T) (pq1 : Int32) : Ct l yX10_rightFor cX10_rightFor 4 (some .int) 7 0 0 G n h [.ref m, .int pq1] (PoM m n h (if ix pq1 (y 4) then 0 else 1) (nI (rgt y (z pq1) 200 1)) y k D S sv N T) := by
  have NE := NO_eq
  obtain ⟨⟨sp, ou, g1, hmx⟩, hx, ⟨yt, hxt⟩, ⟨gd, hgd, hdia⟩, ⟨gk, hgk, hkp⟩, ⟨gi, hgi, hik⟩, ⟨gf, hgf⟩⟩ := id hS
  obtain ⟨hNn, hm, hg1, hch⟩ := id hmx
  obtain ⟨hIy, hk14, hID, hIS, hN, hT⟩ := id hI
  obtain ⟨⟨i0, i1, i2, i3, i4⟩, iR, iU, iM, iS⟩ := id hIy
  refine Ct_of mX10_rightFor.1 (Nat.le_of_ble_eq_true rfl) ?_
  intro p₀ e₀ s₀ m₀ as₀ bl₀ me₀ c₀ C hin
  refine V_Le (L' := [(0, .ref m), (1, .int pq1)]) rfl ?_
  refine V_aload_n 1 C dX10_rightFor_0 rfl rfl ?_
  refine V_aload_n 2 C dX10_rightFor_1 rfl rfl ?_
  have J17 : ∀ (w9 : Nat) (hw9 : w9 ≤ 3) (hq : (¬ w9 = 0 ∧ (if ix pq1 (y 4) then 0 else 1) = w9) ∨ (w9 = 0 ∧ (if ix pq1 (y 4) then 0 else 1) = 0 ∧ ix pq1 (y 4))), V p₀ l e₀ (rmD 7 0 0) s₀ m₀ as₀ bl₀ me₀ c₀ (MQ bl₀ (Po G (PoM m n h (if ix pq1 (y 4) then 0 else 1) (nI (rgt y (z pq1) 200 1)) y k D S sv N T)) as₀ s₀ 0 0 (rg G)) G 4 0 0 n h 17 [(0, .ref m), (1, .int pq1)] [.int (nI w9), .ref m] := by
    intro w9 hw9 hq
    refine V_callV 20 C dX10_rightFor_17 rfl mX10_refused tw985 fcX10 hm (c_X10_refused l G _ _ m rf (nI N) (nI k) sp ou hm w9 hw9) rfl rfl (by decide) ⟨by omega, by omega⟩ (Nat.le_of_ble_eq_true rfl) ?_
    rintro _ _ h1 ⟨rfl, rfl, eh1⟩
    have hm1 : h1 m = some (obM m (nI w9) (nI N) (nI k) sp ou) := by rw [eh1]; exact up_s _ _ _
    have hF1 : ∀ a, ¬ a = m → h1 a = h a := fun a ha => by rw [eh1]; exact up_n _ ha
    have hS1 : SysM m (nI w9) y k D S sv N T h1 := hS.ob hm1 hF1
    have hX1 : FM m h h1 := fun a ha => hF1 a (by omega)
    have hx1 : Row (m + 2) y h1 := (hF1 _ (by omega)).trans hx
    refine V_if_eqB 25 23 C dX10_rightFor_20 (by decide) rfl  (fun cq20 => ?_) (fun cq20 => ?_)
    · obtain ⟨rfl, hk0, hFF⟩ := hq.resolve_left (fun e => by omega)
      obtain ⟨j1, hj1, rfl⟩ := ix_of hFF (by omega)
      refine V_aload_n 26 C dX10_rightFor_25 rfl rfl ?_
      refine V_get (k := 3) 29 C dX10_rightFor_26 rfl fcX10 tw939 (by decide) rfl hm1 rfl ?_
      refine V_iload_n 30 C dX10_rightFor_29 rfl rfl ?_
      refine V_iconst 31 C dX10_rightFor_30 rfl ic0 ?_
      refine V_callS 34 C dX10_rightFor_31 rfl mX10_errorsLater tw1164 (c_X10_errorsLater l G _ _ (m + 2) y hx1 hIy j1 0 hj1 (by omega)) rfl rfl (by decide) ⟨by omega, by omega⟩ (Nat.le_of_ble_eq_true rfl) ?_
      rintro _ _ _ ⟨rfl, rfl, rfl⟩
      have he0 := ers_le y j1 0
      refine V_istore_n 35 C dX10_rightFor_34 rfl (by decide) (L' := [(0, _), (1, _), (2, _)]) rfl ?_
      refine V_iconst 36 C dX10_rightFor_35 rfl ic1 ?_
      refine V_istore_n 37 C dX10_rightFor_36 rfl (by decide) (L' := [(0, _), (1, _), (2, _), (3, _)]) rfl ?_
      have J37 : ∀ (fuel : Nat) (n9 : Nat) (h19 : 1 ≤ n9) (h29 : n9 ≤ 201) (hr : rgt y j1 (201 - n9) n9 = rgt y j1 200 1), 201 - n9 < fuel → V p₀ l e₀ (rmD 7 0 0) s₀ m₀ as₀ bl₀ me₀ c₀ (MQ bl₀ (Po G (PoM m n h (if ix (nI j1) (y 4) then 0 else 1) (nI (rgt y (z (nI j1)) 200 1)) y k D S sv N T)) as₀ s₀ 0 0 (rg G)) G 4 0 0 n h1 37 [(0, .ref m), (1, .int (nI j1)), (2, .int (nI (ers y j1 0))), (3, .int (nI n9))] [] := by
        intro fuel
        induction fuel with
        | zero => intro n9 h19 h29 hr hf; omega
        | succ fuel ih37 =>
          intro n9 h19 h29 hr hf
          refine V_iload_n 38 C dX10_rightFor_37 rfl rfl ?_
          refine V_sipush 41 C dX10_rightFor_38 rfl sip200 ?_
          refine V_icmp_gtN 65 44 C dX10_rightFor_41 (by decide) rfl (by omega) (by omega) (fun cq41 => ?_) (fun cq41 => ?_)
          · have hz : rgt y j1 200 1 = 4294967295 := by
              rw [← hr, rgt_e (by omega)]
              exact NE
            refine V_iconst 66 C dX10_rightFor_65 rfl icm1 ?_
            refine V_ireturn C dX10_rightFor_66 rfl rfl (by omega) (by omega) ?_
            exact (PoM_0 hk0 rfl (by rw [zn (by omega), hz]) hS1 hX1)
          · refine V_aload_n 45 C dX10_rightFor_44 rfl rfl ?_
            refine V_get (k := 3) 48 C dX10_rightFor_45 rfl fcX10 tw939 (by decide) rfl hm1 rfl ?_
            refine V_iload_n 49 C dX10_rightFor_48 rfl rfl ?_
            refine V_iload_n 50 C dX10_rightFor_49 rfl rfl ?_
            refine V_callS 53 C dX10_rightFor_50 rfl mX10_errorsLater tw1164 (c_X10_errorsLater l G _ _ (m + 2) y hx1 hIy j1 n9 hj1 (by omega)) rfl rfl (by decide) ⟨by omega, by omega⟩ (Nat.le_of_ble_eq_true rfl) ?_
            rintro _ _ _ ⟨rfl, rfl, rfl⟩
            have he1 := ers_le y j1 n9
            refine V_iload_n 54 C dX10_rightFor_53 rfl rfl ?_
            refine V_icmp_leN 59 57 C dX10_rightFor_54 (by decide) rfl (by omega) (by omega) (fun cq54 => ?_) (fun cq54 => ?_)
            · have e4 : rgt y j1 (201 - (n9 + 1)) (n9 + 1) = rgt y j1 200 1 := by
                rw [← hr, rgt_s (f := 201 - n9) (by omega) (by omega)]
                rfl
              refine V_iinc 62 C dX10_rightFor_59 rfl (by decide) rfl (ii1 _) (L' := [(0, _), (1, _), (2, _), (3, _)]) rfl ?_
              refine V_goto 37 C dX10_rightFor_62 (by decide) ?_
              refine V_L [0, 1, 2, 3] rfl ?_
              exact ih37 (n9 + 1) (by omega) (by omega) e4 (by omega)
            · have hz : rgt y j1 200 1 = n9 := by rw [← hr, rgt_t (by omega) (by omega)]
              refine V_iload_n 58 C dX10_rightFor_57 rfl rfl ?_
              refine V_ireturn C dX10_rightFor_58 rfl rfl (by omega) (by omega) ?_
              exact (PoM_0 hk0 rfl (by rw [zn (by omega), hz]) hS1 hX1)
      refine V_L [0, 1, 2, 3] rfl ?_
      exact J37 201 1 (by omega) (by omega) rfl (by omega)
    · have hqn := (hq.resolve_right (fun e => by omega)).2
      refine V_iconst 24 C dX10_rightFor_23 rfl ic0 ?_
      refine V_ireturn C dX10_rightFor_24 rfl rfl (by omega) (by omega) ?_
      exact (PoM_k w9 hqn (by omega) rfl hS1 hX1)
  refine V_get (k := 3) 5 C dX10_rightFor_2 rfl fcX10 tw939 (by decide) rfl hm rfl ?_
  refine V_iload_n 6 C dX10_rightFor_5 rfl rfl ?_
  refine V_callS 9 C dX10_rightFor_6 rfl mX10_isSheet tw1067 (c_X10_isSheet l G _ _ (m + 2) y hx hIy pq1) rfl rfl (by decide) ⟨by omega, by omega⟩ (Nat.le_of_ble_eq_true rfl) ?_
  rintro _ _ _ ⟨rfl, rfl, rfl⟩
  refine V_if_eqB 16 12 C dX10_rightFor_9 (by decide) rfl  (fun c9 => ?_) (fun c9 => ?_)
  · refine V_iconst 17 C dX10_rightFor_16 rfl ic1 ?_
    refine V_L [0, 1] rfl ?_
    exact J17 1 (by omega) (Or.inl ⟨by decide, if_neg c9⟩)
  · refine V_iconst 13 C dX10_rightFor_12 rfl ic0 ?_
    refine V_goto 17 C dX10_rightFor_13 (by decide) ?_
    refine V_L [0, 1] rfl ?_
    exact J17 0 (by omega) (Or.inr ⟨rfl, if_pos c9, c9⟩)

theorem dX10_best_0 : decode cX10_best 0 = .ok (.aload_n 0, 1) := by decide +kernel
theorem dX10_best_1 : decode cX10_best 1 = .ok (.aload_n 0, 1) := by decide +kernel
theorem dX10_best_2 : decode cX10_best 2 = .ok (.getfield 13, 3) := by decide +kernel
theorem dX10_best_5 : decode cX10_best 5 = .ok (.iload_n 1, 1) := by decide +kernel
theorem dX10_best_6 : decode cX10_best 6 = .ok (.invokestatic 245, 3) := by decide +kernel
theorem dX10_best_9 : decode cX10_best 9 = .ok (.ifCond .eq 7, 3) := by decide +kernel
theorem dX10_best_12 : decode cX10_best 12 = .ok (.iconst 0, 1) := by decide +kernel
theorem dX10_best_13 : decode cX10_best 13 = .ok (.goto 4, 3) := by decide +kernel
theorem dX10_best_16 : decode cX10_best 16 = .ok (.iconst 1, 1) := by decide +kernel
theorem dX10_best_17 : decode cX10_best 17 = .ok (.invokevirtual 124, 3) := by decide +kernel
theorem dX10_best_20 : decode cX10_best 20 = .ok (.ifCond .eq 5, 3) := by decide +kernel
theorem dX10_best_23 : decode cX10_best 23 = .ok (.iconst 0, 1) := by decide +kernel
theorem dX10_best_24 : decode cX10_best 24 = .ok (.ireturn, 1) := by decide +kernel
theorem dX10_best_25 : decode cX10_best 25 = .ok (.iconst (-1), 1) := by decide +kernel
theorem dX10_best_26 : decode cX10_best 26 = .ok (.istore_n 2, 1) := by decide +kernel
theorem dX10_best_27 : decode cX10_best 27 = .ok (.iconst 0, 1) := by decide +kernel
theorem dX10_best_28 : decode cX10_best 28 = .ok (.istore_n 3, 1) := by decide +kernel
theorem dX10_best_29 : decode cX10_best 29 = .ok (.iconst 0, 1) := by decide +kernel
theorem dX10_best_30 : decode cX10_best 30 = .ok (.istore 4, 2) := by decide +kernel
theorem dX10_best_32 : decode cX10_best 32 = .ok (.iload 4, 2) := by decide +kernel
theorem dX10_best_34 : decode cX10_best 34 = .ok (.aload_n 0, 1) := by decide +kernel
theorem dX10_best_35 : decode cX10_best 35 = .ok (.getfield 13, 3) := by decide +kernel
theorem dX10_best_38 : decode cX10_best 38 = .ok (.iconst 4, 1) := by decide +kernel
theorem dX10_best_39 : decode cX10_best 39 = .ok (.iaload, 1) := by decide +kernel
theorem dX10_best_40 : decode cX10_best 40 = .ok (.if_icmp .ge 91, 3) := by decide +kernel
theorem dX10_best_43 : decode cX10_best 43 = .ok (.aload_n 0, 1) := by decide +kernel
theorem dX10_best_44 : decode cX10_best 44 = .ok (.getfield 13, 3) := by decide +kernel
theorem dX10_best_47 : decode cX10_best 47 = .ok (.iload 4, 2) := by decide +kernel
theorem dX10_best_49 : decode cX10_best 49 = .ok (.iconst 2, 1) := by decide +kernel
theorem dX10_best_50 : decode cX10_best 50 = .ok (.invokestatic 48, 3) := by decide +kernel
theorem dX10_best_53 : decode cX10_best 53 = .ok (.bipush 100, 2) := by decide +kernel
theorem dX10_best_55 : decode cX10_best 55 = .ok (.aload_n 0, 1) := by decide +kernel
theorem dX10_best_56 : decode cX10_best 56 = .ok (.getfield 13, 3) := by decide +kernel
theorem dX10_best_59 : decode cX10_best 59 = .ok (.iload 4, 2) := by decide +kernel
theorem dX10_best_61 : decode cX10_best 61 = .ok (.iconst 0, 1) := by decide +kernel
theorem dX10_best_62 : decode cX10_best 62 = .ok (.invokestatic 72, 3) := by decide +kernel
theorem dX10_best_65 : decode cX10_best 65 = .ok (.imul, 1) := by decide +kernel
theorem dX10_best_66 : decode cX10_best 66 = .ok (.isub, 1) := by decide +kernel
theorem dX10_best_67 : decode cX10_best 67 = .ok (.istore 5, 2) := by decide +kernel
theorem dX10_best_69 : decode cX10_best 69 = .ok (.aload_n 0, 1) := by decide +kernel
theorem dX10_best_70 : decode cX10_best 70 = .ok (.getfield 13, 3) := by decide +kernel
theorem dX10_best_73 : decode cX10_best 73 = .ok (.iload 4, 2) := by decide +kernel
theorem dX10_best_75 : decode cX10_best 75 = .ok (.iconst 0, 1) := by decide +kernel
theorem dX10_best_76 : decode cX10_best 76 = .ok (.invokestatic 48, 3) := by decide +kernel
theorem dX10_best_79 : decode cX10_best 79 = .ok (.iload_n 1, 1) := by decide +kernel
theorem dX10_best_80 : decode cX10_best 80 = .ok (.if_icmp .ne 18, 3) := by decide +kernel
theorem dX10_best_83 : decode cX10_best 83 = .ok (.iload_n 2, 1) := by decide +kernel
theorem dX10_best_84 : decode cX10_best 84 = .ok (.iconst (-1), 1) := by decide +kernel
theorem dX10_best_85 : decode cX10_best 85 = .ok (.if_icmp .eq 9, 3) := by decide +kernel
theorem dX10_best_88 : decode cX10_best 88 = .ok (.iload 5, 2) := by decide +kernel
theorem dX10_best_90 : decode cX10_best 90 = .ok (.iload_n 3, 1) := by decide +kernel
theorem dX10_best_91 : decode cX10_best 91 = .ok (.if_icmp .le 7, 3) := by decide +kernel
theorem dX10_best_94 : decode cX10_best 94 = .ok (.iconst 1, 1) := by decide +kernel
theorem dX10_best_95 : decode cX10_best 95 = .ok (.goto 4, 3) := by decide +kernel
theorem dX10_best_98 : decode cX10_best 98 = .ok (.iconst 0, 1) := by decide +kernel
theorem dX10_best_99 : decode cX10_best 99 = .ok (.istore 6, 2) := by decide +kernel
theorem dX10_best_101 : decode cX10_best 101 = .ok (.iload 6, 2) := by decide +kernel
theorem dX10_best_103 : decode cX10_best 103 = .ok (.ifCond .eq 8, 3) := by decide +kernel
theorem dX10_best_106 : decode cX10_best 106 = .ok (.iload 4, 2) := by decide +kernel
theorem dX10_best_108 : decode cX10_best 108 = .ok (.goto 4, 3) := by decide +kernel
theorem dX10_best_111 : decode cX10_best 111 = .ok (.iload_n 2, 1) := by decide +kernel
theorem dX10_best_112 : decode cX10_best 112 = .ok (.istore_n 2, 1) := by decide +kernel
theorem dX10_best_113 : decode cX10_best 113 = .ok (.iload 6, 2) := by decide +kernel
theorem dX10_best_115 : decode cX10_best 115 = .ok (.ifCond .eq 8, 3) := by decide +kernel
theorem dX10_best_118 : decode cX10_best 118 = .ok (.iload 5, 2) := by decide +kernel
theorem dX10_best_120 : decode cX10_best 120 = .ok (.goto 4, 3) := by decide +kernel
theorem dX10_best_123 : decode cX10_best 123 = .ok (.iload_n 3, 1) := by decide +kernel
theorem dX10_best_124 : decode cX10_best 124 = .ok (.istore_n 3, 1) := by decide +kernel
theorem dX10_best_125 : decode cX10_best 125 = .ok (.iinc 4 1, 3) := by decide +kernel
theorem dX10_best_128 : decode cX10_best 128 = .ok (.goto (-96), 3) := by decide +kernel
theorem dX10_best_131 : decode cX10_best 131 = .ok (.iload_n 2, 1) := by decide +kernel
theorem dX10_best_132 : decode cX10_best 132 = .ok (.ireturn, 1) := by decide +kernel
set_option maxRecDepth 100000 in
set_option maxHeartbeats 4000000 in
theorem c_X10_best (l : Launch) (G : GT) (n : Nat) (h : AH) (m : Nat) (rf : Int32) (y : Nat → Nat) (k : Nat) (D S : Nat → Nat → Nat) (sv : Nat → Bool) (N : Nat) (T : Nat → Nat) (hS : SysM m rf y k D S sv N T h) (hI : SI y k D S sv N T) (pq1 : Int32) : Ct l yX10_best cX10_best 7 (some .int) 7 0 0 G n h [.ref m, .int pq1] (PoM m n h (if ix pq1 (y 3) then 0 else 1) (nI (bestk y (z pq1) (y 4))) y k D S sv N T) := by
  have NE := NO_eq
  obtain ⟨⟨sp, ou, g1, hmx⟩, hx, ⟨yt, hxt⟩, ⟨gd, hgd, hdia⟩, ⟨gk, hgk, hkp⟩, ⟨gi, hgi, hik⟩, ⟨gf, hgf⟩⟩ := id hS
  obtain ⟨hNn, hm, hg1, hch⟩ := id hmx
  obtain ⟨hIy, hk14, hID, hIS, hN, hT⟩ := id hI
  obtain ⟨⟨i0, i1, i2, i3, i4⟩, iR, iU, iM, iS⟩ := id hIy
  refine Ct_of mX10_best.1 (Nat.le_of_ble_eq_true rfl) ?_
  intro p₀ e₀ s₀ m₀ as₀ bl₀ me₀ c₀ C hin
  refine V_Le (L' := [(0, .ref m), (1, .int pq1)]) rfl ?_
  refine V_aload_n 1 C dX10_best_0 rfl rfl ?_
  refine V_aload_n 2 C dX10_best_1 rfl rfl ?_
  have J17 : ∀ (w9 : Nat) (hw9 : w9 ≤ 3) (hq : (¬ w9 = 0 ∧ (if ix pq1 (y 3) then 0 else 1) = w9) ∨ (w9 = 0 ∧ (if ix pq1 (y 3) then 0 else 1) = 0 ∧ ix pq1 (y 3))), V p₀ l e₀ (rmD 7 0 0) s₀ m₀ as₀ bl₀ me₀ c₀ (MQ bl₀ (Po G (PoM m n h (if ix pq1 (y 3) then 0 else 1) (nI (bestk y (z pq1) (y 4))) y k D S sv N T)) as₀ s₀ 0 0 (rg G)) G 7 0 0 n h 17 [(0, .ref m), (1, .int pq1)] [.int (nI w9), .ref m] := by
    intro w9 hw9 hq
    refine V_callV 20 C dX10_best_17 rfl mX10_refused tw985 fcX10 hm (c_X10_refused l G _ _ m rf (nI N) (nI k) sp ou hm w9 hw9) rfl rfl (by decide) ⟨by omega, by omega⟩ (Nat.le_of_ble_eq_true rfl) ?_
    rintro _ _ h1 ⟨rfl, rfl, eh1⟩
    have hm1 : h1 m = some (obM m (nI w9) (nI N) (nI k) sp ou) := by rw [eh1]; exact up_s _ _ _
    have hF1 : ∀ a, ¬ a = m → h1 a = h a := fun a ha => by rw [eh1]; exact up_n _ ha
    have hS1 : SysM m (nI w9) y k D S sv N T h1 := hS.ob hm1 hF1
    have hX1 : FM m h h1 := fun a ha => hF1 a (by omega)
    have hx1 : Row (m + 2) y h1 := (hF1 _ (by omega)).trans hx
    refine V_if_eqB 25 23 C dX10_best_20 (by decide) rfl  (fun cq20 => ?_) (fun cq20 => ?_)
    · obtain ⟨rfl, hk0, hFF⟩ := hq.resolve_left (fun e => by omega)
      obtain ⟨j1, hj1, rfl⟩ := ix_of hFF (by omega)
      refine V_iconst 26 C dX10_best_25 rfl icm1 ?_
      refine V_istore_n 27 C dX10_best_26 rfl (by decide) (L' := [(0, _), (1, _), (2, _)]) rfl ?_
      refine V_iconst 28 C dX10_best_27 rfl ic0 ?_
      refine V_istore_n 29 C dX10_best_28 rfl (by decide) (L' := [(0, _), (1, _), (2, _), (3, _)]) rfl ?_
      refine V_iconst 30 C dX10_best_29 rfl ic0 ?_
      refine V_istore 32 C dX10_best_30 rfl (by decide) (L' := [(0, _), (1, _), (2, _), (3, _), (4, _)]) rfl ?_
      have J32 : ∀ (fuel : Nat) (i9 : Nat) (mo9 : Int32) (hi9 : i9 ≤ y 4) (hmo : bestk y j1 i9 = 4294967295 ∨ mo9 = nI (y (58 + 6 * bestk y j1 i9 + 2)) - nI (100 * ers y (bestk y j1 i9) 0)), y 4 - i9 < fuel → V p₀ l e₀ (rmD 7 0 0) s₀ m₀ as₀ bl₀ me₀ c₀ (MQ bl₀ (Po G (PoM m n h (if ix (nI j1) (y 3) then 0 else 1) (nI (bestk y (z (nI j1)) (y 4))) y k D S sv N T)) as₀ s₀ 0 0 (rg G)) G 7 0 0 n h1 32 [(0, .ref m), (1, .int (nI j1)), (2, .int (nI (bestk y j1 i9))), (3, .int mo9), (4, .int (nI i9))] [] := by
        intro fuel
        induction fuel with
        | zero => intro i9 mo9 hi9 hmo hf; omega
        | succ fuel ih32 =>
          intro i9 mo9 hi9 hmo hf
          refine V_iload 34 C dX10_best_32 rfl rfl ?_
          refine V_aload_n 35 C dX10_best_34 rfl rfl ?_
          refine V_get (k := 3) 38 C dX10_best_35 rfl fcX10 tw939 (by decide) rfl hm1 rfl ?_
          refine V_iconst 39 C dX10_best_38 rfl ic4 ?_
          refine V_iald (j := 4) 40 C dX10_best_39 rfl hx1 rfl (by omega) (by omega) ?_
          refine V_icmp_geN 131 43 C dX10_best_40 (by decide) rfl (by omega) (by omega) (fun cq40 => ?_) (fun cq40 => ?_)
          · have ei : i9 = y 4 := by omega
            refine V_iload_n 132 C dX10_best_131 rfl rfl ?_
            refine V_ireturn C dX10_best_132 rfl rfl (by omega) (by omega) ?_
            exact (PoM_0 hk0 rfl (by rw [zn (by omega), ei]) hS1 hX1)
          · have hi4 : i9 < y 4 := by omega
            obtain ⟨s0, s1, s2, s3, s4, s5⟩ := iS i9 hi4
            unfold NO at s4
            have he1 := ers_le y i9 0
            have hbb := bestk_b y j1 i9
            unfold NO at hbb
            refine V_aload_n 44 C dX10_best_43 rfl rfl ?_
            refine V_get (k := 3) 47 C dX10_best_44 rfl fcX10 tw939 (by decide) rfl hm1 rfl ?_
            refine V_iload 49 C dX10_best_47 rfl rfl ?_
            refine V_iconst 50 C dX10_best_49 rfl ic2 ?_
            refine V_callS 53 C dX10_best_50 rfl mX10_ofSheet tw1082 (c_X10_ofSheet l G _ _ (m + 2) y hx1 i9 2 (58 + 6 * i9 + 2) rfl (by omega) (by omega) (by omega)) rfl rfl (by decide) ⟨by omega, by omega⟩ (Nat.le_of_ble_eq_true rfl) ?_
            rintro _ _ _ ⟨rfl, rfl, rfl⟩
            refine V_bipush 55 C dX10_best_53 rfl bip100 ?_
            refine V_aload_n 56 C dX10_best_55 rfl rfl ?_
            refine V_get (k := 3) 59 C dX10_best_56 rfl fcX10 tw939 (by decide) rfl hm1 rfl ?_
            refine V_iload 61 C dX10_best_59 rfl rfl ?_
            refine V_iconst 62 C dX10_best_61 rfl ic0 ?_
            refine V_callS 65 C dX10_best_62 rfl mX10_errorsLater tw1164 (c_X10_errorsLater l G _ _ (m + 2) y hx1 hIy i9 0 hi4 (by omega)) rfl rfl (by decide) ⟨by omega, by omega⟩ (Nat.le_of_ble_eq_true rfl) ?_
            rintro _ _ _ ⟨rfl, rfl, rfl⟩
            refine V_imulN 66 C dX10_best_65 rfl  ?_
            refine V_isub 67 C dX10_best_66 rfl  ?_
            refine V_istore 69 C dX10_best_67 rfl (by decide) (L' := [(0, _), (1, _), (2, _), (3, _), (4, _), (5, _)]) rfl ?_
            refine V_aload_n 70 C dX10_best_69 rfl rfl ?_
            refine V_get (k := 3) 73 C dX10_best_70 rfl fcX10 tw939 (by decide) rfl hm1 rfl ?_
            refine V_iload 75 C dX10_best_73 rfl rfl ?_
            refine V_iconst 76 C dX10_best_75 rfl ic0 ?_
            refine V_callS 79 C dX10_best_76 rfl mX10_ofSheet tw1082 (c_X10_ofSheet l G _ _ (m + 2) y hx1 i9 0 (58 + 6 * i9) rfl (by omega) (by omega) (by omega)) rfl rfl (by decide) ⟨by omega, by omega⟩ (Nat.le_of_ble_eq_true rfl) ?_
            rintro _ _ _ ⟨rfl, rfl, rfl⟩
            refine V_iload_n 80 C dX10_best_79 rfl rfl ?_
            have J99 : ∀ (b9 : Nat) (hb9 : (b9 = 1 ∧ Bt y j1 i9) ∨ (b9 = 0 ∧ ¬ Bt y j1 i9)), V p₀ l e₀ (rmD 7 0 0) s₀ m₀ as₀ bl₀ me₀ c₀ (MQ bl₀ (Po G (PoM m n h (if ix (nI j1) (y 3) then 0 else 1) (nI (bestk y (z (nI j1)) (y 4))) y k D S sv N T)) as₀ s₀ 0 0 (rg G)) G 7 0 0 n h1 99 [(0, .ref m), (1, .int (nI j1)), (2, .int (nI (bestk y j1 i9))), (3, .int mo9), (4, .int (nI i9)), (5, .int (nI (y (58 + 6 * i9 + 2)) - nI (100 * ers y i9 0)))] [.int (nI b9)] := by
              intro b9 hb9
              refine V_istore 101 C dX10_best_99 rfl (by decide) (L' := [(0, _), (1, _), (2, _), (3, _), (4, _), (5, _), (6, _)]) rfl ?_
              refine V_iload 103 C dX10_best_101 rfl rfl ?_
              have J112 : ∀ (hB : Bt y j1 i9) (hb1 : b9 = 1), V p₀ l e₀ (rmD 7 0 0) s₀ m₀ as₀ bl₀ me₀ c₀ (MQ bl₀ (Po G (PoM m n h (if ix (nI j1) (y 3) then 0 else 1) (nI (bestk y (z (nI j1)) (y 4))) y k D S sv N T)) as₀ s₀ 0 0 (rg G)) G 7 0 0 n h1 112 [(0, .ref m), (1, .int (nI j1)), (3, .int mo9), (4, .int (nI i9)), (5, .int (nI (y (58 + 6 * i9 + 2)) - nI (100 * ers y i9 0))), (6, .int (nI b9))] [.int (nI i9)] := by
                intro hB hb1
                have hbk := best_t hB
                have hmo2 : bestk y j1 (i9 + 1) = 4294967295 ∨ (nI (y (58 + 6 * i9 + 2)) - nI (100 * ers y i9 0)) = nI (y (58 + 6 * bestk y j1 (i9 + 1) + 2)) - nI (100 * ers y (bestk y j1 (i9 + 1)) 0) := by
                  rw [hbk]
                  exact Or.inr rfl
                refine V_istore_n 113 C dX10_best_112 rfl (by decide) (L' := [(0, _), (1, _), (2, _), (3, _), (4, _), (5, _), (6, _)]) rfl ?_
                refine V_iload 115 C dX10_best_113 rfl rfl ?_
                refine V_if_eqN 123 118 C dX10_best_115 (by decide) rfl (by omega) (fun cq115 => ?_) (fun cq115 => ?_)
                · omega
                · refine V_iload 120 C dX10_best_118 rfl rfl ?_
                  refine V_goto 124 C dX10_best_120 (by decide) ?_
                  refine V_istore_n 125 C dX10_best_124 rfl (by decide) (L' := [(0, _), (1, _), (2, _), (3, _), (4, _), (5, _), (6, _)]) rfl ?_
                  refine V_iinc 128 C dX10_best_125 rfl (by decide) rfl (ii1 _) (L' := [(0, _), (1, _), (2, _), (3, _), (4, _), (5, _), (6, _)]) rfl ?_
                  refine V_goto 32 C dX10_best_128 (by decide) ?_
                  refine V_L [0, 1, 2, 3, 4] rfl ?_
                  have J := ih32 (i9 + 1) _ (by omega) hmo2 (by omega)
                  rw [hbk] at J
                  exact J
              have J112b : ∀ (hnBt : ¬ Bt y j1 i9) (hb1 : b9 = 0), V p₀ l e₀ (rmD 7 0 0) s₀ m₀ as₀ bl₀ me₀ c₀ (MQ bl₀ (Po G (PoM m n h (if ix (nI j1) (y 3) then 0 else 1) (nI (bestk y (z (nI j1)) (y 4))) y k D S sv N T)) as₀ s₀ 0 0 (rg G)) G 7 0 0 n h1 112 [(0, .ref m), (1, .int (nI j1)), (3, .int mo9), (4, .int (nI i9)), (5, .int (nI (y (58 + 6 * i9 + 2)) - nI (100 * ers y i9 0))), (6, .int (nI b9))] [.int (nI (bestk y j1 i9))] := by
                intro hnBt hb1
                have hbk := best_f hnBt
                have hmo2 : bestk y j1 (i9 + 1) = 4294967295 ∨ mo9 = nI (y (58 + 6 * bestk y j1 (i9 + 1) + 2)) - nI (100 * ers y (bestk y j1 (i9 + 1)) 0) := by
                  rw [hbk]
                  exact hmo
                refine V_istore_n 113 C dX10_best_112 rfl (by decide) (L' := [(0, _), (1, _), (2, _), (3, _), (4, _), (5, _), (6, _)]) rfl ?_
                refine V_iload 115 C dX10_best_113 rfl rfl ?_
                refine V_if_eqN 123 118 C dX10_best_115 (by decide) rfl (by omega) (fun cq115 => ?_) (fun cq115 => ?_)
                · refine V_iload_n 124 C dX10_best_123 rfl rfl ?_
                  refine V_istore_n 125 C dX10_best_124 rfl (by decide) (L' := [(0, _), (1, _), (2, _), (3, _), (4, _), (5, _), (6, _)]) rfl ?_
                  refine V_iinc 128 C dX10_best_125 rfl (by decide) rfl (ii1 _) (L' := [(0, _), (1, _), (2, _), (3, _), (4, _), (5, _), (6, _)]) rfl ?_
                  refine V_goto 32 C dX10_best_128 (by decide) ?_
                  refine V_L [0, 1, 2, 3, 4] rfl ?_
                  have J := ih32 (i9 + 1) _ (by omega) hmo2 (by omega)
                  rw [hbk] at J
                  exact J
                · omega
              refine V_if_eqN 111 106 C dX10_best_103 (by decide) rfl (by omega) (fun cq103 => ?_) (fun cq103 => ?_)
              · have hnBt := (hb9.resolve_left (fun e => by omega)).2
                refine V_iload_n 112 C dX10_best_111 rfl rfl ?_
                refine V_L [0, 1, 3, 4, 5, 6] rfl ?_
                exact J112b hnBt (by omega)
              · have hB := (hb9.resolve_right (fun e => by omega)).2
                refine V_iload 108 C dX10_best_106 rfl rfl ?_
                refine V_goto 112 C dX10_best_108 (by decide) ?_
                refine V_L [0, 1, 3, 4, 5, 6] rfl ?_
                exact J112 hB (by omega)
            refine V_icmp_neN 98 83 C dX10_best_80 (by decide) rfl (by omega) (by omega) (fun cq80 => ?_) (fun cq80 => ?_)
            · have hnBt : ¬ Bt y j1 i9 := fun e => cq80 e.1
              refine V_iconst 99 C dX10_best_98 rfl ic0 ?_
              refine V_L [0, 1, 2, 3, 4, 5] rfl ?_
              exact J99 0 (Or.inr ⟨rfl, hnBt⟩)
            · refine V_iload_n 84 C dX10_best_83 rfl rfl ?_
              refine V_iconst 85 C dX10_best_84 rfl icm1 ?_
              refine V_icmp_eqN 94 88 C dX10_best_85 (by decide) rfl (by omega) (by omega) (fun cq85 => ?_) (fun cq85 => ?_)
              · have hB : Bt y j1 i9 := ⟨cq80, Or.inl cq85⟩
                refine V_iconst 95 C dX10_best_94 rfl ic1 ?_
                refine V_goto 99 C dX10_best_95 (by decide) ?_
                refine V_L [0, 1, 2, 3, 4, 5] rfl ?_
                exact J99 1 (Or.inl ⟨rfl, hB⟩)
              · have hbi : bestk y j1 i9 < i9 := hbb.resolve_left cq85
                have hbs := iS (bestk y j1 i9) (by omega)
                have he2 := ers_le y (bestk y j1 i9) 0
                have hmoe := hmo.resolve_left cq85
                refine V_iload 90 C dX10_best_88 rfl rfl ?_
                refine V_iload_n 91 C dX10_best_90 rfl rfl ?_
                refine V_icmp_le 98 94 C dX10_best_91 (by decide) rfl  (fun cq91 => ?_) (fun cq91 => ?_)
                · rw [hmoe] at cq91
                  have hnBt : ¬ Bt y j1 i9 := fun e => ((worth_lt s2 he1 hbs.2.2.1 he2).mp cq91) (e.2.resolve_left cq85)
                  refine V_iconst 99 C dX10_best_98 rfl ic0 ?_
                  refine V_L [0, 1, 2, 3, 4, 5] rfl ?_
                  exact J99 0 (Or.inr ⟨rfl, hnBt⟩)
                · rw [hmoe] at cq91
                  have hB : Bt y j1 i9 := ⟨cq80, Or.inr (Decidable.not_not.mp (fun e => cq91 ((worth_lt s2 he1 hbs.2.2.1 he2).mpr e)))⟩
                  refine V_iconst 95 C dX10_best_94 rfl ic1 ?_
                  refine V_goto 99 C dX10_best_95 (by decide) ?_
                  refine V_L [0, 1, 2, 3, 4, 5] rfl ?_
                  exact J99 1 (Or.inl ⟨rfl, hB⟩)
      refine V_L [0, 1, 2, 3, 4] rfl ?_
      exact J32 (y 4 + 1) 0 (nI 0) (by omega) (Or.inl rfl) (by omega)
    · have hqn := (hq.resolve_right (fun e => by omega)).2
      refine V_iconst 24 C dX10_best_23 rfl ic0 ?_
      refine V_ireturn C dX10_best_24 rfl rfl (by omega) (by omega) ?_
      exact (PoM_k w9 hqn (by omega) rfl hS1 hX1)
  refine V_get (k := 3) 5 C dX10_best_2 rfl fcX10 tw939 (by decide) rfl hm rfl ?_
  refine V_iload_n 6 C dX10_best_5 rfl rfl ?_
  refine V_callS 9 C dX10_best_6 rfl mX10_isMessage tw1189 (c_X10_isMessage l G _ _ (m + 2) y hx hIy pq1) rfl rfl (by decide) ⟨by omega, by omega⟩ (Nat.le_of_ble_eq_true rfl) ?_
  rintro _ _ _ ⟨rfl, rfl, rfl⟩
  refine V_if_eqB 16 12 C dX10_best_9 (by decide) rfl  (fun c9 => ?_) (fun c9 => ?_)
  · refine V_iconst 17 C dX10_best_16 rfl ic1 ?_
    refine V_L [0, 1] rfl ?_
    exact J17 1 (by omega) (Or.inl ⟨by decide, if_neg c9⟩)
  · refine V_iconst 13 C dX10_best_12 rfl ic0 ?_
    refine V_goto 17 C dX10_best_13 (by decide) ?_
    refine V_L [0, 1] rfl ?_
    exact J17 0 (by omega) (Or.inr ⟨rfl, if_pos c9, c9⟩)

