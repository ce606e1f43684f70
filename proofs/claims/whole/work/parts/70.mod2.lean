/-! THE REFERENCE'S FACE: ways -/
theorem dX10_route_0 : decode cX10_route 0 = .ok (.aload_n 0, 1) := by decide +kernel
theorem dX10_route_1 : decode cX10_route 1 = .ok (.aload_n 0, 1) := by decide +kernel
theorem dX10_route_2 : decode cX10_route 2 = .ok (.getfield 13, 3) := by decide +kernel
theorem dX10_route_5 : decode cX10_route 5 = .ok (.iload_n 1, 1) := by decide +kernel
theorem dX10_route_6 : decode cX10_route 6 = .ok (.iload_n 2, 1) := by decide +kernel
theorem dX10_route_7 : decode cX10_route 7 = .ok (.invokestatic 141, 3) := by decide +kernel
theorem dX10_route_10 : decode cX10_route 10 = .ok (.ifCond .ne 7, 3) := by decide +kernel
theorem dX10_route_13 : decode cX10_route 13 = .ok (.iconst 1, 1) := by decide +kernel
theorem dX10_route_14 : decode cX10_route 14 = .ok (.goto 18, 3) := by decide +kernel
theorem dX10_route_17 : decode cX10_route 17 = .ok (.iload_n 3, 1) := by decide +kernel
theorem dX10_route_18 : decode cX10_route 18 = .ok (.i2l, 1) := by decide +kernel
theorem dX10_route_19 : decode cX10_route 19 = .ok (.lconst 0, 1) := by decide +kernel
theorem dX10_route_20 : decode cX10_route 20 = .ok (.lconst 1, 1) := by decide +kernel
theorem dX10_route_21 : decode cX10_route 21 = .ok (.invokestatic 40, 3) := by decide +kernel
theorem dX10_route_24 : decode cX10_route 24 = .ok (.ifCond .eq 7, 3) := by decide +kernel
theorem dX10_route_27 : decode cX10_route 27 = .ok (.iconst 0, 1) := by decide +kernel
theorem dX10_route_28 : decode cX10_route 28 = .ok (.goto 4, 3) := by decide +kernel
theorem dX10_route_31 : decode cX10_route 31 = .ok (.iconst 2, 1) := by decide +kernel
theorem dX10_route_32 : decode cX10_route 32 = .ok (.invokevirtual 124, 3) := by decide +kernel
theorem dX10_route_35 : decode cX10_route 35 = .ok (.ifCond .eq 5, 3) := by decide +kernel
theorem dX10_route_38 : decode cX10_route 38 = .ok (.iconst 0, 1) := by decide +kernel
theorem dX10_route_39 : decode cX10_route 39 = .ok (.ireturn, 1) := by decide +kernel
theorem dX10_route_40 : decode cX10_route 40 = .ok (.aload_n 0, 1) := by decide +kernel
theorem dX10_route_41 : decode cX10_route 41 = .ok (.aload_n 0, 1) := by decide +kernel
theorem dX10_route_42 : decode cX10_route 42 = .ok (.getfield 13, 3) := by decide +kernel
theorem dX10_route_45 : decode cX10_route 45 = .ok (.iload_n 1, 1) := by decide +kernel
theorem dX10_route_46 : decode cX10_route 46 = .ok (.invokevirtual 267, 3) := by decide +kernel
theorem dX10_route_49 : decode cX10_route 49 = .ok (.aload_n 0, 1) := by decide +kernel
theorem dX10_route_50 : decode cX10_route 50 = .ok (.getfield 29, 3) := by decide +kernel
theorem dX10_route_53 : decode cX10_route 53 = .ok (.iload_n 2, 1) := by decide +kernel
theorem dX10_route_54 : decode cX10_route 54 = .ok (.iaload, 1) := by decide +kernel
theorem dX10_route_55 : decode cX10_route 55 = .ok (.ireturn, 1) := by decide +kernel
set_option maxRecDepth 100000 in
set_option maxHeartbeats 4000000 in
theorem c_X10_route (l : Launch) (G : GT) (n : Nat) (h : AH) (m : Nat) (rf : Int32) (y : Nat → Nat) (k : Nat) (D S : Nat → Nat → Nat) (sv : Nat → Bool) (N : Nat) (T : Nat → Nat) (hS : SysM m rf y k D S sv N T h) (hI : SI y k D S sv N T) (pq1 : Int32) (pq2 : Int32) (pq3 : Int32) : Ct l yX10_route cX10_route 4 (some .int) 7 0 0 G n h [.ref m, .int pq1, .int pq2, .int pq3] (PoM m n h (if ix pq1 (y 0) ∧ ix pq2 (y 0) then (if ix pq3 2 then 0 else 2) else 1) (nI (mo (dst y (z pq1) (z pq2)))) y k D S sv N T) := by
  have NE := NO_eq
  obtain ⟨⟨sp, ou, g1, hmx⟩, hx, ⟨yt, hxt⟩, ⟨gd, hgd, hdia⟩, ⟨gk, hgk, hkp⟩, ⟨gi, hgi, hik⟩, ⟨gf, hgf⟩⟩ := id hS
  obtain ⟨hNn, hm, hg1, hch⟩ := id hmx
  obtain ⟨hIy, hk14, hID, hIS, hN, hT⟩ := id hI
  obtain ⟨⟨i0, i1, i2, i3, i4⟩, iR, iU, iM, iS⟩ := id hIy
  refine Ct_of mX10_route.1 (Nat.le_of_ble_eq_true rfl) ?_
  intro p₀ e₀ s₀ m₀ as₀ bl₀ me₀ c₀ C hin
  refine V_Le (L' := [(0, .ref m), (1, .int pq1), (2, .int pq2), (3, .int pq3)]) rfl ?_
  refine V_aload_n 1 C dX10_route_0 rfl rfl ?_
  refine V_aload_n 2 C dX10_route_1 rfl rfl ?_
  have J32 : ∀ (w9 : Nat) (hw9 : w9 ≤ 3) (hq : (¬ w9 = 0 ∧ (if ix pq1 (y 0) ∧ ix pq2 (y 0) then (if ix pq3 2 then 0 else 2) else 1) = w9) ∨ (w9 = 0 ∧ (if ix pq1 (y 0) ∧ ix pq2 (y 0) then (if ix pq3 2 then 0 else 2) else 1) = 0 ∧ (ix pq1 (y 0) ∧ ix pq2 (y 0)) ∧ ix pq3 2)), V p₀ l e₀ (rmD 7 0 0) s₀ m₀ as₀ bl₀ me₀ c₀ (MQ bl₀ (Po G (PoM m n h (if ix pq1 (y 0) ∧ ix pq2 (y 0) then (if ix pq3 2 then 0 else 2) else 1) (nI (mo (dst y (z pq1) (z pq2)))) y k D S sv N T)) as₀ s₀ 0 0 (rg G)) G 4 0 0 n h 32 [(0, .ref m), (1, .int pq1), (2, .int pq2), (3, .int pq3)] [.int (nI w9), .ref m] := by
    intro w9 hw9 hq
    refine V_callV 35 C dX10_route_32 rfl mX10_refused tw985 fcX10 hm (c_X10_refused l G _ _ m rf (nI N) (nI k) sp ou hm w9 hw9) rfl rfl (by decide) ⟨by omega, by omega⟩ (Nat.le_of_ble_eq_true rfl) ?_
    rintro _ _ h1 ⟨rfl, rfl, eh1⟩
    have hm1 : h1 m = some (obM m (nI w9) (nI N) (nI k) sp ou) := by rw [eh1]; exact up_s _ _ _
    have hF1 : ∀ a, ¬ a = m → h1 a = h a := fun a ha => by rw [eh1]; exact up_n _ ha
    have hS1 : SysM m (nI w9) y k D S sv N T h1 := hS.ob hm1 hF1
    have hX1 : FM m h h1 := fun a ha => hF1 a (by omega)
    have hx1 : Row (m + 2) y h1 := (hF1 _ (by omega)).trans hx
    refine V_if_eqB 40 38 C dX10_route_35 (by decide) rfl  (fun cq35 => ?_) (fun cq35 => ?_)
    · obtain ⟨rfl, hk0, hFF⟩ := hq.resolve_left (fun e => by omega)
      obtain ⟨j1, hj1, rfl⟩ := ix_of hFF.1.1 (by omega)
      obtain ⟨j2, hj2, rfl⟩ := ix_of hFF.1.2 (by omega)
      refine V_aload_n 41 C dX10_route_40 rfl rfl ?_
      refine V_aload_n 42 C dX10_route_41 rfl rfl ?_
      refine V_get (k := 3) 45 C dX10_route_42 rfl fcX10 tw939 (by decide) rfl hm1 rfl ?_
      refine V_iload_n 46 C dX10_route_45 rfl rfl ?_
      refine V_callV 49 C dX10_route_46 rfl mX10_findFar tw1272 fcX10 hm1 (c_X10_findFar l G _ _ m (nI 0) (nI N) (nI k) sp ou hm1 gf ((hF1 _ (by omega)).trans hgf) (m + 2) y hx1 hIy (by omega) j1 (by omega)) rfl rfl (by decide) ⟨by omega, by omega⟩ (Nat.le_of_ble_eq_true rfl) ?_
      rintro _ _ _ ⟨rfl, rfl, f2, rfl, hf2⟩
      have hm2 : (up h1 (m + 7) (ra f2)) m = _ := (up_n _ (by omega)).trans hm1
      have hx2 : Row (m + 2) y (up h1 (m + 7) (ra f2)) := (up_n _ (by omega)).trans hx1
      have hS2 : SysM m (nI 0) y k D S sv N T (up h1 (m + 7) (ra f2)) := hS1.far (up_s _ _ _) (fun a ha => up_n _ ha)
      have hX2 : FM m h (up h1 (m + 7) (ra f2)) := fun a ha => (up_n _ (by omega)).trans (hX1 a ha)
      refine V_aload_n 50 C dX10_route_49 rfl rfl ?_
      refine V_get (k := 9) 53 C dX10_route_50 rfl fcX10 tw945 (by decide) rfl hm2 rfl ?_
      refine V_iload_n 54 C dX10_route_53 rfl rfl ?_
      refine V_iald (j := j2) 55 C dX10_route_54 rfl (up_s _ _ _) rfl (by omega) (by omega) ?_
      rw [hf2 j2 (by omega)]
      refine V_ireturn C dX10_route_55 rfl rfl (by omega) (by omega) ?_
      exact (PoM_0 hk0 rfl (by rw [zn (by omega), zn (by omega)]) hS2 hX2)
    · have hqn := (hq.resolve_right (fun e => by omega)).2
      refine V_iconst 39 C dX10_route_38 rfl ic0 ?_
      refine V_ireturn C dX10_route_39 rfl rfl (by omega) (by omega) ?_
      exact (PoM_k w9 hqn (by omega) rfl hS1 hX1)
  refine V_get (k := 3) 5 C dX10_route_2 rfl fcX10 tw939 (by decide) rfl hm rfl ?_
  refine V_iload_n 6 C dX10_route_5 rfl rfl ?_
  refine V_iload_n 7 C dX10_route_6 rfl rfl ?_
  refine V_callS 10 C dX10_route_7 rfl mX10_areEnds tw1025 (c_X10_areEnds l G _ _ (m + 2) y hx hIy pq1 pq2) rfl rfl (by decide) ⟨by omega, by omega⟩ (Nat.le_of_ble_eq_true rfl) ?_
  rintro _ _ _ ⟨rfl, rfl, rfl⟩
  refine V_if_neB 17 13 C dX10_route_10 (by decide) rfl  (fun cq10 => ?_) (fun cq10 => ?_)
  · refine V_iload_n 18 C dX10_route_17 rfl rfl ?_
    refine V_i2l 19 C dX10_route_18 rfl  ?_
    refine V_lconst 20 C dX10_route_19 rfl rfl ?_
    refine V_lconst 21 C dX10_route_20 rfl rfl ?_
    refine V_callS 24 C dX10_route_21 rfl mX10_in tw982 (c_X10_in l G _ _ _ _ _) rfl rfl (by decide) ⟨by omega, by omega⟩ (Nat.le_of_ble_eq_true rfl) ?_
    rintro _ _ _ ⟨rfl, rfl, rfl⟩
    rw [inI (v := pq3) (lo := 0) (hi := 1) (by decide +kernel) (by decide +kernel)]
    refine V_if_eqB 31 27 C dX10_route_24 (by decide) rfl  (fun cq24 => ?_) (fun cq24 => ?_)
    · have hno : ¬ ix pq3 2 := fun e => cq24 ⟨by have := e.1; omega, by have := e.2; omega⟩
      refine V_iconst 32 C dX10_route_31 rfl ic2 ?_
      refine V_L [0, 1, 2, 3] rfl ?_
      exact J32 2 (by omega) (Or.inl ⟨by decide, by rw [if_pos cq10, if_neg hno]⟩)
    · have hw : ix pq3 2 := ⟨by omega, by omega⟩
      refine V_iconst 28 C dX10_route_27 rfl ic0 ?_
      refine V_goto 32 C dX10_route_28 (by decide) ?_
      refine V_L [0, 1, 2, 3] rfl ?_
      exact J32 0 (by omega) (Or.inr ⟨rfl, by rw [if_pos cq10, if_pos hw], ⟨cq10, hw⟩⟩)
  · refine V_iconst 14 C dX10_route_13 rfl ic1 ?_
    refine V_goto 32 C dX10_route_14 (by decide) ?_
    refine V_L [0, 1, 2, 3] rfl ?_
    exact J32 1 (by omega) (Or.inl ⟨by decide, if_neg cq10⟩)

theorem dX10_roadTo_0 : decode cX10_roadTo 0 = .ok (.aload_n 0, 1) := by decide +kernel
theorem dX10_roadTo_1 : decode cX10_roadTo 1 = .ok (.aload_n 0, 1) := by decide +kernel
theorem dX10_roadTo_2 : decode cX10_roadTo 2 = .ok (.getfield 13, 3) := by decide +kernel
theorem dX10_roadTo_5 : decode cX10_roadTo 5 = .ok (.iload_n 1, 1) := by decide +kernel
theorem dX10_roadTo_6 : decode cX10_roadTo 6 = .ok (.iload_n 2, 1) := by decide +kernel
theorem dX10_roadTo_7 : decode cX10_roadTo 7 = .ok (.invokestatic 141, 3) := by decide +kernel
theorem dX10_roadTo_10 : decode cX10_roadTo 10 = .ok (.ifCond .eq 7, 3) := by decide +kernel
theorem dX10_roadTo_13 : decode cX10_roadTo 13 = .ok (.iconst 0, 1) := by decide +kernel
theorem dX10_roadTo_14 : decode cX10_roadTo 14 = .ok (.goto 4, 3) := by decide +kernel
theorem dX10_roadTo_17 : decode cX10_roadTo 17 = .ok (.iconst 1, 1) := by decide +kernel
theorem dX10_roadTo_18 : decode cX10_roadTo 18 = .ok (.invokevirtual 124, 3) := by decide +kernel
theorem dX10_roadTo_21 : decode cX10_roadTo 21 = .ok (.ifCond .eq 5, 3) := by decide +kernel
theorem dX10_roadTo_24 : decode cX10_roadTo 24 = .ok (.iconst 0, 1) := by decide +kernel
theorem dX10_roadTo_25 : decode cX10_roadTo 25 = .ok (.ireturn, 1) := by decide +kernel
theorem dX10_roadTo_26 : decode cX10_roadTo 26 = .ok (.aload_n 0, 1) := by decide +kernel
theorem dX10_roadTo_27 : decode cX10_roadTo 27 = .ok (.aload_n 0, 1) := by decide +kernel
theorem dX10_roadTo_28 : decode cX10_roadTo 28 = .ok (.getfield 13, 3) := by decide +kernel
theorem dX10_roadTo_31 : decode cX10_roadTo 31 = .ok (.iload_n 2, 1) := by decide +kernel
theorem dX10_roadTo_32 : decode cX10_roadTo 32 = .ok (.invokevirtual 267, 3) := by decide +kernel
theorem dX10_roadTo_35 : decode cX10_roadTo 35 = .ok (.iconst 0, 1) := by decide +kernel
theorem dX10_roadTo_36 : decode cX10_roadTo 36 = .ok (.istore_n 3, 1) := by decide +kernel
theorem dX10_roadTo_37 : decode cX10_roadTo 37 = .ok (.iload_n 3, 1) := by decide +kernel
theorem dX10_roadTo_38 : decode cX10_roadTo 38 = .ok (.aload_n 0, 1) := by decide +kernel
theorem dX10_roadTo_39 : decode cX10_roadTo 39 = .ok (.getfield 13, 3) := by decide +kernel
theorem dX10_roadTo_42 : decode cX10_roadTo 42 = .ok (.iconst 1, 1) := by decide +kernel
theorem dX10_roadTo_43 : decode cX10_roadTo 43 = .ok (.iaload, 1) := by decide +kernel
theorem dX10_roadTo_44 : decode cX10_roadTo 44 = .ok (.if_icmp .ge 122, 3) := by decide +kernel
theorem dX10_roadTo_47 : decode cX10_roadTo 47 = .ok (.iload_n 1, 1) := by decide +kernel
theorem dX10_roadTo_48 : decode cX10_roadTo 48 = .ok (.iload_n 2, 1) := by decide +kernel
theorem dX10_roadTo_49 : decode cX10_roadTo 49 = .ok (.if_icmp .eq 117, 3) := by decide +kernel
theorem dX10_roadTo_52 : decode cX10_roadTo 52 = .ok (.aload_n 0, 1) := by decide +kernel
theorem dX10_roadTo_53 : decode cX10_roadTo 53 = .ok (.getfield 29, 3) := by decide +kernel
theorem dX10_roadTo_56 : decode cX10_roadTo 56 = .ok (.iload_n 1, 1) := by decide +kernel
theorem dX10_roadTo_57 : decode cX10_roadTo 57 = .ok (.iaload, 1) := by decide +kernel
theorem dX10_roadTo_58 : decode cX10_roadTo 58 = .ok (.iconst (-1), 1) := by decide +kernel
theorem dX10_roadTo_59 : decode cX10_roadTo 59 = .ok (.if_icmp .eq 107, 3) := by decide +kernel
theorem dX10_roadTo_62 : decode cX10_roadTo 62 = .ok (.aload_n 0, 1) := by decide +kernel
theorem dX10_roadTo_63 : decode cX10_roadTo 63 = .ok (.getfield 13, 3) := by decide +kernel
theorem dX10_roadTo_66 : decode cX10_roadTo 66 = .ok (.iload_n 3, 1) := by decide +kernel
theorem dX10_roadTo_67 : decode cX10_roadTo 67 = .ok (.iconst 0, 1) := by decide +kernel
theorem dX10_roadTo_68 : decode cX10_roadTo 68 = .ok (.invokestatic 75, 3) := by decide +kernel
theorem dX10_roadTo_71 : decode cX10_roadTo 71 = .ok (.iload_n 1, 1) := by decide +kernel
theorem dX10_roadTo_72 : decode cX10_roadTo 72 = .ok (.if_icmp .ne 15, 3) := by decide +kernel
theorem dX10_roadTo_75 : decode cX10_roadTo 75 = .ok (.aload_n 0, 1) := by decide +kernel
theorem dX10_roadTo_76 : decode cX10_roadTo 76 = .ok (.getfield 13, 3) := by decide +kernel
theorem dX10_roadTo_79 : decode cX10_roadTo 79 = .ok (.iload_n 3, 1) := by decide +kernel
theorem dX10_roadTo_80 : decode cX10_roadTo 80 = .ok (.iconst 1, 1) := by decide +kernel
theorem dX10_roadTo_81 : decode cX10_roadTo 81 = .ok (.invokestatic 75, 3) := by decide +kernel
theorem dX10_roadTo_84 : decode cX10_roadTo 84 = .ok (.goto 29, 3) := by decide +kernel
theorem dX10_roadTo_87 : decode cX10_roadTo 87 = .ok (.aload_n 0, 1) := by decide +kernel
theorem dX10_roadTo_88 : decode cX10_roadTo 88 = .ok (.getfield 13, 3) := by decide +kernel
theorem dX10_roadTo_91 : decode cX10_roadTo 91 = .ok (.iload_n 3, 1) := by decide +kernel
theorem dX10_roadTo_92 : decode cX10_roadTo 92 = .ok (.iconst 1, 1) := by decide +kernel
theorem dX10_roadTo_93 : decode cX10_roadTo 93 = .ok (.invokestatic 75, 3) := by decide +kernel
theorem dX10_roadTo_96 : decode cX10_roadTo 96 = .ok (.iload_n 1, 1) := by decide +kernel
theorem dX10_roadTo_97 : decode cX10_roadTo 97 = .ok (.if_icmp .ne 15, 3) := by decide +kernel
theorem dX10_roadTo_100 : decode cX10_roadTo 100 = .ok (.aload_n 0, 1) := by decide +kernel
theorem dX10_roadTo_101 : decode cX10_roadTo 101 = .ok (.getfield 13, 3) := by decide +kernel
theorem dX10_roadTo_104 : decode cX10_roadTo 104 = .ok (.iload_n 3, 1) := by decide +kernel
theorem dX10_roadTo_105 : decode cX10_roadTo 105 = .ok (.iconst 0, 1) := by decide +kernel
theorem dX10_roadTo_106 : decode cX10_roadTo 106 = .ok (.invokestatic 75, 3) := by decide +kernel
theorem dX10_roadTo_109 : decode cX10_roadTo 109 = .ok (.goto 4, 3) := by decide +kernel
theorem dX10_roadTo_112 : decode cX10_roadTo 112 = .ok (.iconst (-1), 1) := by decide +kernel
theorem dX10_roadTo_113 : decode cX10_roadTo 113 = .ok (.istore 4, 2) := by decide +kernel
theorem dX10_roadTo_115 : decode cX10_roadTo 115 = .ok (.iload 4, 2) := by decide +kernel
theorem dX10_roadTo_117 : decode cX10_roadTo 117 = .ok (.iconst (-1), 1) := by decide +kernel
theorem dX10_roadTo_118 : decode cX10_roadTo 118 = .ok (.if_icmp .eq 42, 3) := by decide +kernel
theorem dX10_roadTo_121 : decode cX10_roadTo 121 = .ok (.aload_n 0, 1) := by decide +kernel
theorem dX10_roadTo_122 : decode cX10_roadTo 122 = .ok (.getfield 29, 3) := by decide +kernel
theorem dX10_roadTo_125 : decode cX10_roadTo 125 = .ok (.iload 4, 2) := by decide +kernel
theorem dX10_roadTo_127 : decode cX10_roadTo 127 = .ok (.iaload, 1) := by decide +kernel
theorem dX10_roadTo_128 : decode cX10_roadTo 128 = .ok (.iconst (-1), 1) := by decide +kernel
theorem dX10_roadTo_129 : decode cX10_roadTo 129 = .ok (.if_icmp .eq 31, 3) := by decide +kernel
theorem dX10_roadTo_132 : decode cX10_roadTo 132 = .ok (.aload_n 0, 1) := by decide +kernel
theorem dX10_roadTo_133 : decode cX10_roadTo 133 = .ok (.getfield 29, 3) := by decide +kernel
theorem dX10_roadTo_136 : decode cX10_roadTo 136 = .ok (.iload 4, 2) := by decide +kernel
theorem dX10_roadTo_138 : decode cX10_roadTo 138 = .ok (.iaload, 1) := by decide +kernel
theorem dX10_roadTo_139 : decode cX10_roadTo 139 = .ok (.aload_n 0, 1) := by decide +kernel
theorem dX10_roadTo_140 : decode cX10_roadTo 140 = .ok (.getfield 13, 3) := by decide +kernel
theorem dX10_roadTo_143 : decode cX10_roadTo 143 = .ok (.iload_n 3, 1) := by decide +kernel
theorem dX10_roadTo_144 : decode cX10_roadTo 144 = .ok (.iconst 2, 1) := by decide +kernel
theorem dX10_roadTo_145 : decode cX10_roadTo 145 = .ok (.invokestatic 75, 3) := by decide +kernel
theorem dX10_roadTo_148 : decode cX10_roadTo 148 = .ok (.iadd, 1) := by decide +kernel
theorem dX10_roadTo_149 : decode cX10_roadTo 149 = .ok (.aload_n 0, 1) := by decide +kernel
theorem dX10_roadTo_150 : decode cX10_roadTo 150 = .ok (.getfield 29, 3) := by decide +kernel
theorem dX10_roadTo_153 : decode cX10_roadTo 153 = .ok (.iload_n 1, 1) := by decide +kernel
theorem dX10_roadTo_154 : decode cX10_roadTo 154 = .ok (.iaload, 1) := by decide +kernel
theorem dX10_roadTo_155 : decode cX10_roadTo 155 = .ok (.if_icmp .ne 5, 3) := by decide +kernel
theorem dX10_roadTo_158 : decode cX10_roadTo 158 = .ok (.iload_n 3, 1) := by decide +kernel
theorem dX10_roadTo_159 : decode cX10_roadTo 159 = .ok (.ireturn, 1) := by decide +kernel
theorem dX10_roadTo_160 : decode cX10_roadTo 160 = .ok (.iinc 3 1, 3) := by decide +kernel
theorem dX10_roadTo_163 : decode cX10_roadTo 163 = .ok (.goto (-126), 3) := by decide +kernel
theorem dX10_roadTo_166 : decode cX10_roadTo 166 = .ok (.iconst (-1), 1) := by decide +kernel
theorem dX10_roadTo_167 : decode cX10_roadTo 167 = .ok (.ireturn, 1) := by decide +kernel
set_option maxRecDepth 100000 in
set_option maxHeartbeats 4000000 in
theorem c_X10_roadTo (l : Launch) (G : GT) (n : Nat) (h : AH) (m : Nat) (rf : Int32) (y : Nat → Nat) (k : Nat) (D S : Nat → Nat → Nat) (sv : Nat → Bool) (N : Nat) (T : Nat → Nat) (hS : SysM m rf y k D S sv N T h) (hI : SI y k D S sv N T) (pq1 : Int32) (pq2 : Int32) : Ct l yX10_roadTo cX10_roadTo 5 (some .int) 7 0 0 G n h [.ref m, .int pq1, .int pq2] (PoM m n h (if ix pq1 (y 0) ∧ ix pq2 (y 0) then 0 else 1) (nI (rto y (z pq1) (z pq2))) y k D S sv N T) := by
  have NE := NO_eq
  obtain ⟨⟨sp, ou, g1, hmx⟩, hx, ⟨yt, hxt⟩, ⟨gd, hgd, hdia⟩, ⟨gk, hgk, hkp⟩, ⟨gi, hgi, hik⟩, ⟨gf, hgf⟩⟩ := id hS
  obtain ⟨hNn, hm, hg1, hch⟩ := id hmx
  obtain ⟨hIy, hk14, hID, hIS, hN, hT⟩ := id hI
  obtain ⟨⟨i0, i1, i2, i3, i4⟩, iR, iU, iM, iS⟩ := id hIy
  refine Ct_of mX10_roadTo.1 (Nat.le_of_ble_eq_true rfl) ?_
  intro p₀ e₀ s₀ m₀ as₀ bl₀ me₀ c₀ C hin
  refine V_Le (L' := [(0, .ref m), (1, .int pq1), (2, .int pq2)]) rfl ?_
  refine V_aload_n 1 C dX10_roadTo_0 rfl rfl ?_
  refine V_aload_n 2 C dX10_roadTo_1 rfl rfl ?_
  have J18 : ∀ (w9 : Nat) (hw9 : w9 ≤ 3) (hq : (¬ w9 = 0 ∧ (if ix pq1 (y 0) ∧ ix pq2 (y 0) then 0 else 1) = w9) ∨ (w9 = 0 ∧ (if ix pq1 (y 0) ∧ ix pq2 (y 0) then 0 else 1) = 0 ∧ ix pq1 (y 0) ∧ ix pq2 (y 0))), V p₀ l e₀ (rmD 7 0 0) s₀ m₀ as₀ bl₀ me₀ c₀ (MQ bl₀ (Po G (PoM m n h (if ix pq1 (y 0) ∧ ix pq2 (y 0) then 0 else 1) (nI (rto y (z pq1) (z pq2))) y k D S sv N T)) as₀ s₀ 0 0 (rg G)) G 5 0 0 n h 18 [(0, .ref m), (1, .int pq1), (2, .int pq2)] [.int (nI w9), .ref m] := by
    intro w9 hw9 hq
    refine V_callV 21 C dX10_roadTo_18 rfl mX10_refused tw985 fcX10 hm (c_X10_refused l G _ _ m rf (nI N) (nI k) sp ou hm w9 hw9) rfl rfl (by decide) ⟨by omega, by omega⟩ (Nat.le_of_ble_eq_true rfl) ?_
    rintro _ _ h1 ⟨rfl, rfl, eh1⟩
    have hm1 : h1 m = some (obM m (nI w9) (nI N) (nI k) sp ou) := by rw [eh1]; exact up_s _ _ _
    have hF1 : ∀ a, ¬ a = m → h1 a = h a := fun a ha => by rw [eh1]; exact up_n _ ha
    have hS1 : SysM m (nI w9) y k D S sv N T h1 := hS.ob hm1 hF1
    have hX1 : FM m h h1 := fun a ha => hF1 a (by omega)
    have hx1 : Row (m + 2) y h1 := (hF1 _ (by omega)).trans hx
    refine V_if_eqB 26 24 C dX10_roadTo_21 (by decide) rfl  (fun cq21 => ?_) (fun cq21 => ?_)
    · obtain ⟨rfl, hk0, hFF⟩ := hq.resolve_left (fun e => by omega)
      obtain ⟨j1, hj1, rfl⟩ := ix_of hFF.1 (by omega)
      obtain ⟨j2, hj2, rfl⟩ := ix_of hFF.2 (by omega)
      refine V_aload_n 27 C dX10_roadTo_26 rfl rfl ?_
      refine V_aload_n 28 C dX10_roadTo_27 rfl rfl ?_
      refine V_get (k := 3) 31 C dX10_roadTo_28 rfl fcX10 tw939 (by decide) rfl hm1 rfl ?_
      refine V_iload_n 32 C dX10_roadTo_31 rfl rfl ?_
      refine V_callV 35 C dX10_roadTo_32 rfl mX10_findFar tw1272 fcX10 hm1 (c_X10_findFar l G _ _ m (nI 0) (nI N) (nI k) sp ou hm1 gf ((hF1 _ (by omega)).trans hgf) (m + 2) y hx1 hIy (by omega) j2 (by omega)) rfl rfl (by decide) ⟨by omega, by omega⟩ (Nat.le_of_ble_eq_true rfl) ?_
      rintro _ _ _ ⟨rfl, rfl, f2, rfl, hf2⟩
      have hm2 : (up h1 (m + 7) (ra f2)) m = _ := (up_n _ (by omega)).trans hm1
      have hx2 : Row (m + 2) y (up h1 (m + 7) (ra f2)) := (up_n _ (by omega)).trans hx1
      have hS2 : SysM m (nI 0) y k D S sv N T (up h1 (m + 7) (ra f2)) := hS1.far (up_s _ _ _) (fun a ha => up_n _ ha)
      have hX2 : FM m h (up h1 (m + 7) (ra f2)) := fun a ha => (up_n _ (by omega)).trans (hX1 a ha)
      have hd1 := dst_le y j2 j1
      have hmb := mo_b hd1
      have FE := FAR_eq
      have hd100 := dst_100 hIy (a := j2) (t := j1) (by omega)
      refine V_iconst 36 C dX10_roadTo_35 rfl ic0 ?_
      refine V_istore_n 37 C dX10_roadTo_36 rfl (by decide) (L' := [(0, _), (1, _), (2, _), (3, _)]) rfl ?_
      have J37 : ∀ (fuel : Nat) (i9 : Nat) (hi9 : i9 ≤ y 1) (hr : ¬ (j1 = j2 ∨ dst y j2 j1 = FAR) → lr y j1 (dst y j2) i9 (y 1 - i9) = lr y j1 (dst y j2) 0 (y 1)), y 1 - i9 < fuel → V p₀ l e₀ (rmD 7 0 0) s₀ m₀ as₀ bl₀ me₀ c₀ (MQ bl₀ (Po G (PoM m n h (if ix (nI j1) (y 0) ∧ ix (nI j2) (y 0) then 0 else 1) (nI (rto y (z (nI j1)) (z (nI j2)))) y k D S sv N T)) as₀ s₀ 0 0 (rg G)) G 5 0 0 n (up h1 (m + 7) (ra f2)) 37 [(0, .ref m), (1, .int (nI j1)), (2, .int (nI j2)), (3, .int (nI i9))] [] := by
        intro fuel
        induction fuel with
        | zero => intro i9 hi9 hr hf; omega
        | succ fuel ih37 =>
          intro i9 hi9 hr hf
          refine V_iload_n 38 C dX10_roadTo_37 rfl rfl ?_
          refine V_aload_n 39 C dX10_roadTo_38 rfl rfl ?_
          refine V_get (k := 3) 42 C dX10_roadTo_39 rfl fcX10 tw939 (by decide) rfl hm2 rfl ?_
          refine V_iconst 43 C dX10_roadTo_42 rfl ic1 ?_
          refine V_iald (j := 1) 44 C dX10_roadTo_43 rfl hx2 rfl (by omega) (by omega) ?_
          refine V_icmp_geN 166 47 C dX10_roadTo_44 (by decide) rfl (by omega) (by omega) (fun cq44 => ?_) (fun cq44 => ?_)
          · have hz : rto y j1 j2 = 4294967295 := by
              by_cases hc : j1 = j2 ∨ dst y j2 j1 = FAR
              · exact rto_1 hc
              · rw [rto_2 hc, ← hr hc, show y 1 - i9 = 0 from by omega]
                rfl
            refine V_iconst 167 C dX10_roadTo_166 rfl icm1 ?_
            refine V_ireturn C dX10_roadTo_167 rfl rfl (by omega) (by omega) ?_
            exact (PoM_0 hk0 rfl (by rw [zn (by omega), zn (by omega), hz]) hS2 hX2)
          · refine V_iload_n 48 C dX10_roadTo_47 rfl rfl ?_
            refine V_iload_n 49 C dX10_roadTo_48 rfl rfl ?_
            refine V_icmp_eqN 166 52 C dX10_roadTo_49 (by decide) rfl (by omega) (by omega) (fun cq49 => ?_) (fun cq49 => ?_)
            · have hz : rto y j1 j2 = 4294967295 := rto_1 (Or.inl cq49)
              refine V_iconst 167 C dX10_roadTo_166 rfl icm1 ?_
              refine V_ireturn C dX10_roadTo_167 rfl rfl (by omega) (by omega) ?_
              exact (PoM_0 hk0 rfl (by rw [zn (by omega), zn (by omega), hz]) hS2 hX2)
            · refine V_aload_n 53 C dX10_roadTo_52 rfl rfl ?_
              refine V_get (k := 9) 56 C dX10_roadTo_53 rfl fcX10 tw945 (by decide) rfl hm2 rfl ?_
              refine V_iload_n 57 C dX10_roadTo_56 rfl rfl ?_
              refine V_iald (j := j1) 58 C dX10_roadTo_57 rfl (up_s _ _ _) rfl (by omega) (by omega) ?_
              rw [hf2 j1 (by omega)]
              refine V_iconst 59 C dX10_roadTo_58 rfl icm1 ?_
              refine V_icmp_eqN 166 62 C dX10_roadTo_59 (by decide) rfl (by omega) (by omega) (fun cq59 => ?_) (fun cq59 => ?_)
              · have hz : rto y j1 j2 = 4294967295 := rto_1 (Or.inr ((mo_iff hd1).mp cq59))
                refine V_iconst 167 C dX10_roadTo_166 rfl icm1 ?_
                refine V_ireturn C dX10_roadTo_167 rfl rfl (by omega) (by omega) ?_
                exact (PoM_0 hk0 rfl (by rw [zn (by omega), zn (by omega), hz]) hS2 hX2)
              · have hnF : ¬ dst y j2 j1 = FAR := fun e => cq59 (mo_y e)
                have hcc : ¬ (j1 = j2 ∨ dst y j2 j1 = FAR) := fun e => e.elim cq49 hnF
                have hr2 := hr hcc
                have hi1 : i9 < y 1 := by omega
                obtain ⟨r0, r1, r2, r3, r4⟩ := iR i9 hi1
                refine V_aload_n 63 C dX10_roadTo_62 rfl rfl ?_
                have J113 : ∀ (to9 : Nat) (ht9 : (to9 = 4294967295 ∧ ¬ y (7 + 3 * i9) = j1 ∧ ¬ y (7 + 3 * i9 + 1) = j1) ∨ (to9 < 6 ∧ ((y (7 + 3 * i9) = j1 ∧ to9 = y (7 + 3 * i9 + 1)) ∨ (¬ y (7 + 3 * i9) = j1 ∧ y (7 + 3 * i9 + 1) = j1 ∧ to9 = y (7 + 3 * i9))))), V p₀ l e₀ (rmD 7 0 0) s₀ m₀ as₀ bl₀ me₀ c₀ (MQ bl₀ (Po G (PoM m n h (if ix (nI j1) (y 0) ∧ ix (nI j2) (y 0) then 0 else 1) (nI (rto y (z (nI j1)) (z (nI j2)))) y k D S sv N T)) as₀ s₀ 0 0 (rg G)) G 5 0 0 n (up h1 (m + 7) (ra f2)) 113 [(0, .ref m), (1, .int (nI j1)), (2, .int (nI j2)), (3, .int (nI i9))] [.int (nI to9)] := by
                  intro to9 ht9
                  refine V_istore 115 C dX10_roadTo_113 rfl (by decide) (L' := [(0, _), (1, _), (2, _), (3, _), (4, _)]) rfl ?_
                  refine V_iload 117 C dX10_roadTo_115 rfl rfl ?_
                  refine V_iconst 118 C dX10_roadTo_117 rfl icm1 ?_
                  refine V_icmp_eqN 160 121 C dX10_roadTo_118 (by decide) rfl (by omega) (by omega) (fun cq118 => ?_) (fun cq118 => ?_)
                  · have hnC : ¬ ((y (7 + 3 * i9) = j1 ∧ y (7 + 3 * i9 + 2) + dst y j2 (y (7 + 3 * i9 + 1)) = dst y j2 j1) ∨ (y (7 + 3 * i9 + 1) = j1 ∧ y (7 + 3 * i9 + 2) + dst y j2 (y (7 + 3 * i9)) = dst y j2 j1)) := by
                      rcases ht9 with ⟨-, g1, g2⟩ | ⟨g0, -⟩
                      · exact fun e => e.elim (fun e => g1 e.1) (fun e => g2 e.1)
                      · omega
                    have e4 := (lr_f (y := y) (a := j1) (D := dst y j2) (i := i9) (n := y 1) (by omega) hnC).symm.trans hr2
                    refine V_iinc 163 C dX10_roadTo_160 rfl (by decide) rfl (ii1 _) (L' := [(0, _), (1, _), (2, _), (3, _), (4, _)]) rfl ?_
                    refine V_goto 37 C dX10_roadTo_163 (by decide) ?_
                    refine V_L [0, 1, 2, 3] rfl ?_
                    exact ih37 (i9 + 1) (by omega) (fun _ => e4) (by omega)
                  · have ht6 : to9 < 6 := by omega
                    have ht9b := (ht9.resolve_left (fun e => cq118 e.1)).2
                    have hdt := dst_le y j2 to9
                    have hmt := mo_b hdt
                    have hCC : ((y (7 + 3 * i9) = j1 ∧ y (7 + 3 * i9 + 2) + dst y j2 (y (7 + 3 * i9 + 1)) = dst y j2 j1) ∨ (y (7 + 3 * i9 + 1) = j1 ∧ y (7 + 3 * i9 + 2) + dst y j2 (y (7 + 3 * i9)) = dst y j2 j1)) ↔ y (7 + 3 * i9 + 2) + dst y j2 to9 = dst y j2 j1 := by
                      rcases ht9b with ⟨g1, g2⟩ | ⟨g1, g2, g3⟩
                      · subst g2
                        exact ⟨fun e => e.elim (fun e => e.2) (fun e => absurd (g1.trans e.1.symm) r2), fun e => Or.inl ⟨g1, e⟩⟩
                      · subst g3
                        exact ⟨fun e => e.elim (fun e => absurd e.1 g1) (fun e => e.2), fun e => Or.inr ⟨g2, e⟩⟩
                    have hd100t := dst_100 hIy (a := j2) (t := to9) ht6
                    refine V_aload_n 122 C dX10_roadTo_121 rfl rfl ?_
                    refine V_get (k := 9) 125 C dX10_roadTo_122 rfl fcX10 tw945 (by decide) rfl hm2 rfl ?_
                    refine V_iload 127 C dX10_roadTo_125 rfl rfl ?_
                    refine V_iald (j := to9) 128 C dX10_roadTo_127 rfl (up_s _ _ _) rfl (by omega) (by omega) ?_
                    rw [hf2 to9 ht6]
                    refine V_iconst 129 C dX10_roadTo_128 rfl icm1 ?_
                    refine V_icmp_eqN 160 132 C dX10_roadTo_129 (by decide) rfl (by omega) (by omega) (fun cq129 => ?_) (fun cq129 => ?_)
                    · have hnC : ¬ ((y (7 + 3 * i9) = j1 ∧ y (7 + 3 * i9 + 2) + dst y j2 (y (7 + 3 * i9 + 1)) = dst y j2 j1) ∨ (y (7 + 3 * i9 + 1) = j1 ∧ y (7 + 3 * i9 + 2) + dst y j2 (y (7 + 3 * i9)) = dst y j2 j1)) := fun e => by
                        have e1 := hCC.mp e
                        have e2 := (mo_iff hdt).mp cq129
                        omega
                      have e4 := (lr_f (y := y) (a := j1) (D := dst y j2) (i := i9) (n := y 1) (by omega) hnC).symm.trans hr2
                      refine V_iinc 163 C dX10_roadTo_160 rfl (by decide) rfl (ii1 _) (L' := [(0, _), (1, _), (2, _), (3, _), (4, _)]) rfl ?_
                      refine V_goto 37 C dX10_roadTo_163 (by decide) ?_
                      refine V_L [0, 1, 2, 3] rfl ?_
                      exact ih37 (i9 + 1) (by omega) (fun _ => e4) (by omega)
                    · have hnt : ¬ dst y j2 to9 = FAR := fun e => cq129 (mo_y e)
                      have m1 := mo_n hnt
                      have m2 := mo_n hnF
                      refine V_aload_n 133 C dX10_roadTo_132 rfl rfl ?_
                      refine V_get (k := 9) 136 C dX10_roadTo_133 rfl fcX10 tw945 (by decide) rfl hm2 rfl ?_
                      refine V_iload 138 C dX10_roadTo_136 rfl rfl ?_
                      refine V_iald (j := to9) 139 C dX10_roadTo_138 rfl (up_s _ _ _) rfl (by omega) (by omega) ?_
                      rw [hf2 to9 ht6, m1]
                      refine V_aload_n 140 C dX10_roadTo_139 rfl rfl ?_
                      refine V_get (k := 3) 143 C dX10_roadTo_140 rfl fcX10 tw939 (by decide) rfl hm2 rfl ?_
                      refine V_iload_n 144 C dX10_roadTo_143 rfl rfl ?_
                      refine V_iconst 145 C dX10_roadTo_144 rfl ic2 ?_
                      refine V_callS 148 C dX10_roadTo_145 rfl mX10_ofRoad tw1107 (c_X10_ofRoad l G _ _ (m + 2) y hx2 i9 2 (7 + 3 * i9 + 2) rfl (by omega) (by omega) (by omega)) rfl rfl (by decide) ⟨by omega, by omega⟩ (Nat.le_of_ble_eq_true rfl) ?_
                      rintro _ _ _ ⟨rfl, rfl, rfl⟩
                      refine V_iaddN 149 C dX10_roadTo_148 rfl  ?_
                      refine V_aload_n 150 C dX10_roadTo_149 rfl rfl ?_
                      refine V_get (k := 9) 153 C dX10_roadTo_150 rfl fcX10 tw945 (by decide) rfl hm2 rfl ?_
                      refine V_iload_n 154 C dX10_roadTo_153 rfl rfl ?_
                      refine V_iald (j := j1) 155 C dX10_roadTo_154 rfl (up_s _ _ _) rfl (by omega) (by omega) ?_
                      rw [hf2 j1 (by omega), m2]
                      refine V_icmp_neN 160 158 C dX10_roadTo_155 (by decide) rfl (by omega) (by omega) (fun cq155 => ?_) (fun cq155 => ?_)
                      · have hnC : ¬ ((y (7 + 3 * i9) = j1 ∧ y (7 + 3 * i9 + 2) + dst y j2 (y (7 + 3 * i9 + 1)) = dst y j2 j1) ∨ (y (7 + 3 * i9 + 1) = j1 ∧ y (7 + 3 * i9 + 2) + dst y j2 (y (7 + 3 * i9)) = dst y j2 j1)) := fun e => by
                          have e1 := hCC.mp e
                          omega
                        have e4 := (lr_f (y := y) (a := j1) (D := dst y j2) (i := i9) (n := y 1) (by omega) hnC).symm.trans hr2
                        refine V_iinc 163 C dX10_roadTo_160 rfl (by decide) rfl (ii1 _) (L' := [(0, _), (1, _), (2, _), (3, _), (4, _)]) rfl ?_
                        refine V_goto 37 C dX10_roadTo_163 (by decide) ?_
                        refine V_L [0, 1, 2, 3] rfl ?_
                        exact ih37 (i9 + 1) (by omega) (fun _ => e4) (by omega)
                      · have hC1 := hCC.mpr (by omega)
                        have hz : rto y j1 j2 = i9 := by rw [rto_2 hcc, ← hr2, lr_t hi1 hC1]
                        refine V_iload_n 159 C dX10_roadTo_158 rfl rfl ?_
                        refine V_ireturn C dX10_roadTo_159 rfl rfl (by omega) (by omega) ?_
                        exact (PoM_0 hk0 rfl (by rw [zn (by omega), zn (by omega), hz]) hS2 hX2)
                refine V_get (k := 3) 66 C dX10_roadTo_63 rfl fcX10 tw939 (by decide) rfl hm2 rfl ?_
                refine V_iload_n 67 C dX10_roadTo_66 rfl rfl ?_
                refine V_iconst 68 C dX10_roadTo_67 rfl ic0 ?_
                refine V_callS 71 C dX10_roadTo_68 rfl mX10_ofRoad tw1107 (c_X10_ofRoad l G _ _ (m + 2) y hx2 i9 0 (7 + 3 * i9) rfl (by omega) (by omega) (by omega)) rfl rfl (by decide) ⟨by omega, by omega⟩ (Nat.le_of_ble_eq_true rfl) ?_
                rintro _ _ _ ⟨rfl, rfl, rfl⟩
                refine V_iload_n 72 C dX10_roadTo_71 rfl rfl ?_
                refine V_icmp_neN 87 75 C dX10_roadTo_72 (by decide) rfl (by omega) (by omega) (fun cq72 => ?_) (fun cq72 => ?_)
                · refine V_aload_n 88 C dX10_roadTo_87 rfl rfl ?_
                  refine V_get (k := 3) 91 C dX10_roadTo_88 rfl fcX10 tw939 (by decide) rfl hm2 rfl ?_
                  refine V_iload_n 92 C dX10_roadTo_91 rfl rfl ?_
                  refine V_iconst 93 C dX10_roadTo_92 rfl ic1 ?_
                  refine V_callS 96 C dX10_roadTo_93 rfl mX10_ofRoad tw1107 (c_X10_ofRoad l G _ _ (m + 2) y hx2 i9 1 (7 + 3 * i9 + 1) rfl (by omega) (by omega) (by omega)) rfl rfl (by decide) ⟨by omega, by omega⟩ (Nat.le_of_ble_eq_true rfl) ?_
                  rintro _ _ _ ⟨rfl, rfl, rfl⟩
                  refine V_iload_n 97 C dX10_roadTo_96 rfl rfl ?_
                  refine V_icmp_neN 112 100 C dX10_roadTo_97 (by decide) rfl (by omega) (by omega) (fun cq97 => ?_) (fun cq97 => ?_)
                  · refine V_iconst 113 C dX10_roadTo_112 rfl icm1 ?_
                    refine V_L [0, 1, 2, 3] rfl ?_
                    exact J113 4294967295 (Or.inl ⟨rfl, cq72, cq97⟩)
                  · refine V_aload_n 101 C dX10_roadTo_100 rfl rfl ?_
                    refine V_get (k := 3) 104 C dX10_roadTo_101 rfl fcX10 tw939 (by decide) rfl hm2 rfl ?_
                    refine V_iload_n 105 C dX10_roadTo_104 rfl rfl ?_
                    refine V_iconst 106 C dX10_roadTo_105 rfl ic0 ?_
                    refine V_callS 109 C dX10_roadTo_106 rfl mX10_ofRoad tw1107 (c_X10_ofRoad l G _ _ (m + 2) y hx2 i9 0 (7 + 3 * i9) rfl (by omega) (by omega) (by omega)) rfl rfl (by decide) ⟨by omega, by omega⟩ (Nat.le_of_ble_eq_true rfl) ?_
                    rintro _ _ _ ⟨rfl, rfl, rfl⟩
                    refine V_goto 113 C dX10_roadTo_109 (by decide) ?_
                    refine V_L [0, 1, 2, 3] rfl ?_
                    exact J113 _ (Or.inr ⟨by omega, Or.inr ⟨cq72, cq97, rfl⟩⟩)
                · refine V_aload_n 76 C dX10_roadTo_75 rfl rfl ?_
                  refine V_get (k := 3) 79 C dX10_roadTo_76 rfl fcX10 tw939 (by decide) rfl hm2 rfl ?_
                  refine V_iload_n 80 C dX10_roadTo_79 rfl rfl ?_
                  refine V_iconst 81 C dX10_roadTo_80 rfl ic1 ?_
                  refine V_callS 84 C dX10_roadTo_81 rfl mX10_ofRoad tw1107 (c_X10_ofRoad l G _ _ (m + 2) y hx2 i9 1 (7 + 3 * i9 + 1) rfl (by omega) (by omega) (by omega)) rfl rfl (by decide) ⟨by omega, by omega⟩ (Nat.le_of_ble_eq_true rfl) ?_
                  rintro _ _ _ ⟨rfl, rfl, rfl⟩
                  refine V_goto 113 C dX10_roadTo_84 (by decide) ?_
                  refine V_L [0, 1, 2, 3] rfl ?_
                  exact J113 _ (Or.inr ⟨by omega, Or.inl ⟨cq72, rfl⟩⟩)
      refine V_L [0, 1, 2, 3] rfl ?_
      exact J37 (y 1 + 1) 0 (by omega) (fun _ => rfl) (by omega)
    · have hqn := (hq.resolve_right (fun e => by omega)).2
      refine V_iconst 25 C dX10_roadTo_24 rfl ic0 ?_
      refine V_ireturn C dX10_roadTo_25 rfl rfl (by omega) (by omega) ?_
      exact (PoM_k w9 hqn (by omega) rfl hS1 hX1)
  refine V_get (k := 3) 5 C dX10_roadTo_2 rfl fcX10 tw939 (by decide) rfl hm rfl ?_
  refine V_iload_n 6 C dX10_roadTo_5 rfl rfl ?_
  refine V_iload_n 7 C dX10_roadTo_6 rfl rfl ?_
  refine V_callS 10 C dX10_roadTo_7 rfl mX10_areEnds tw1025 (c_X10_areEnds l G _ _ (m + 2) y hx hIy pq1 pq2) rfl rfl (by decide) ⟨by omega, by omega⟩ (Nat.le_of_ble_eq_true rfl) ?_
  rintro _ _ _ ⟨rfl, rfl, rfl⟩
  refine V_if_eqB 17 13 C dX10_roadTo_10 (by decide) rfl  (fun cq10 => ?_) (fun cq10 => ?_)
  · refine V_iconst 18 C dX10_roadTo_17 rfl ic1 ?_
    refine V_L [0, 1, 2] rfl ?_
    exact J18 1 (by omega) (Or.inl ⟨by decide, if_neg cq10⟩)
  · refine V_iconst 14 C dX10_roadTo_13 rfl ic0 ?_
    refine V_goto 18 C dX10_roadTo_14 (by decide) ?_
    refine V_L [0, 1, 2] rfl ?_
    exact J18 0 (by omega) (Or.inr ⟨rfl, if_pos cq10, cq10⟩)

theorem dX10_ifBrought_0 : decode cX10_ifBrought 0 = .ok (.aload_n 0, 1) := by decide +kernel
theorem dX10_ifBrought_1 : decode cX10_ifBrought 1 = .ok (.aload_n 0, 1) := by decide +kernel
theorem dX10_ifBrought_2 : decode cX10_ifBrought 2 = .ok (.getfield 13, 3) := by decide +kernel
theorem dX10_ifBrought_5 : decode cX10_ifBrought 5 = .ok (.iload_n 1, 1) := by decide +kernel
theorem dX10_ifBrought_6 : decode cX10_ifBrought 6 = .ok (.invokestatic 169, 3) := by decide +kernel
theorem dX10_ifBrought_9 : decode cX10_ifBrought 9 = .ok (.ifCond .eq 18, 3) := by decide +kernel
theorem dX10_ifBrought_12 : decode cX10_ifBrought 12 = .ok (.aload_n 0, 1) := by decide +kernel
theorem dX10_ifBrought_13 : decode cX10_ifBrought 13 = .ok (.getfield 13, 3) := by decide +kernel
theorem dX10_ifBrought_16 : decode cX10_ifBrought 16 = .ok (.iload_n 2, 1) := by decide +kernel
theorem dX10_ifBrought_17 : decode cX10_ifBrought 17 = .ok (.invokestatic 94, 3) := by decide +kernel
theorem dX10_ifBrought_20 : decode cX10_ifBrought 20 = .ok (.ifCond .eq 7, 3) := by decide +kernel
theorem dX10_ifBrought_23 : decode cX10_ifBrought 23 = .ok (.iconst 0, 1) := by decide +kernel
theorem dX10_ifBrought_24 : decode cX10_ifBrought 24 = .ok (.goto 4, 3) := by decide +kernel
theorem dX10_ifBrought_27 : decode cX10_ifBrought 27 = .ok (.iconst 1, 1) := by decide +kernel
theorem dX10_ifBrought_28 : decode cX10_ifBrought 28 = .ok (.invokevirtual 124, 3) := by decide +kernel
theorem dX10_ifBrought_31 : decode cX10_ifBrought 31 = .ok (.ifCond .eq 5, 3) := by decide +kernel
theorem dX10_ifBrought_34 : decode cX10_ifBrought 34 = .ok (.iconst 0, 1) := by decide +kernel
theorem dX10_ifBrought_35 : decode cX10_ifBrought 35 = .ok (.ireturn, 1) := by decide +kernel
theorem dX10_ifBrought_36 : decode cX10_ifBrought 36 = .ok (.aload_n 0, 1) := by decide +kernel
theorem dX10_ifBrought_37 : decode cX10_ifBrought 37 = .ok (.getfield 13, 3) := by decide +kernel
theorem dX10_ifBrought_40 : decode cX10_ifBrought 40 = .ok (.iload_n 1, 1) := by decide +kernel
theorem dX10_ifBrought_41 : decode cX10_ifBrought 41 = .ok (.iconst 4, 1) := by decide +kernel
theorem dX10_ifBrought_42 : decode cX10_ifBrought 42 = .ok (.invokestatic 48, 3) := by decide +kernel
theorem dX10_ifBrought_45 : decode cX10_ifBrought 45 = .ok (.istore_n 3, 1) := by decide +kernel
theorem dX10_ifBrought_46 : decode cX10_ifBrought 46 = .ok (.iload_n 3, 1) := by decide +kernel
theorem dX10_ifBrought_47 : decode cX10_ifBrought 47 = .ok (.iconst (-1), 1) := by decide +kernel
theorem dX10_ifBrought_48 : decode cX10_ifBrought 48 = .ok (.if_icmp .ne 15, 3) := by decide +kernel
theorem dX10_ifBrought_51 : decode cX10_ifBrought 51 = .ok (.aload_n 0, 1) := by decide +kernel
theorem dX10_ifBrought_52 : decode cX10_ifBrought 52 = .ok (.getfield 13, 3) := by decide +kernel
theorem dX10_ifBrought_55 : decode cX10_ifBrought 55 = .ok (.iload_n 1, 1) := by decide +kernel
theorem dX10_ifBrought_56 : decode cX10_ifBrought 56 = .ok (.iconst 5, 1) := by decide +kernel
theorem dX10_ifBrought_57 : decode cX10_ifBrought 57 = .ok (.invokestatic 48, 3) := by decide +kernel
theorem dX10_ifBrought_60 : decode cX10_ifBrought 60 = .ok (.goto 12, 3) := by decide +kernel
theorem dX10_ifBrought_63 : decode cX10_ifBrought 63 = .ok (.aload_n 0, 1) := by decide +kernel
theorem dX10_ifBrought_64 : decode cX10_ifBrought 64 = .ok (.getfield 13, 3) := by decide +kernel
theorem dX10_ifBrought_67 : decode cX10_ifBrought 67 = .ok (.iload_n 3, 1) := by decide +kernel
theorem dX10_ifBrought_68 : decode cX10_ifBrought 68 = .ok (.iconst 0, 1) := by decide +kernel
theorem dX10_ifBrought_69 : decode cX10_ifBrought 69 = .ok (.invokestatic 44, 3) := by decide +kernel
theorem dX10_ifBrought_72 : decode cX10_ifBrought 72 = .ok (.istore 4, 2) := by decide +kernel
theorem dX10_ifBrought_74 : decode cX10_ifBrought 74 = .ok (.iload_n 3, 1) := by decide +kernel
theorem dX10_ifBrought_75 : decode cX10_ifBrought 75 = .ok (.iconst (-1), 1) := by decide +kernel
theorem dX10_ifBrought_76 : decode cX10_ifBrought 76 = .ok (.if_icmp .ne 7, 3) := by decide +kernel
theorem dX10_ifBrought_79 : decode cX10_ifBrought 79 = .ok (.iconst 0, 1) := by decide +kernel
theorem dX10_ifBrought_80 : decode cX10_ifBrought 80 = .ok (.goto 12, 3) := by decide +kernel
theorem dX10_ifBrought_83 : decode cX10_ifBrought 83 = .ok (.aload_n 0, 1) := by decide +kernel
theorem dX10_ifBrought_84 : decode cX10_ifBrought 84 = .ok (.getfield 13, 3) := by decide +kernel
theorem dX10_ifBrought_87 : decode cX10_ifBrought 87 = .ok (.iload_n 3, 1) := by decide +kernel
theorem dX10_ifBrought_88 : decode cX10_ifBrought 88 = .ok (.iconst 1, 1) := by decide +kernel
theorem dX10_ifBrought_89 : decode cX10_ifBrought 89 = .ok (.invokestatic 44, 3) := by decide +kernel
theorem dX10_ifBrought_92 : decode cX10_ifBrought 92 = .ok (.istore 5, 2) := by decide +kernel
theorem dX10_ifBrought_94 : decode cX10_ifBrought 94 = .ok (.aload_n 0, 1) := by decide +kernel
theorem dX10_ifBrought_95 : decode cX10_ifBrought 95 = .ok (.aload_n 0, 1) := by decide +kernel
theorem dX10_ifBrought_96 : decode cX10_ifBrought 96 = .ok (.getfield 13, 3) := by decide +kernel
theorem dX10_ifBrought_99 : decode cX10_ifBrought 99 = .ok (.iload 4, 2) := by decide +kernel
theorem dX10_ifBrought_101 : decode cX10_ifBrought 101 = .ok (.invokevirtual 267, 3) := by decide +kernel
theorem dX10_ifBrought_104 : decode cX10_ifBrought 104 = .ok (.aload_n 0, 1) := by decide +kernel
theorem dX10_ifBrought_105 : decode cX10_ifBrought 105 = .ok (.getfield 29, 3) := by decide +kernel
theorem dX10_ifBrought_108 : decode cX10_ifBrought 108 = .ok (.iload_n 2, 1) := by decide +kernel
theorem dX10_ifBrought_109 : decode cX10_ifBrought 109 = .ok (.iaload, 1) := by decide +kernel
theorem dX10_ifBrought_110 : decode cX10_ifBrought 110 = .ok (.iconst (-1), 1) := by decide +kernel
theorem dX10_ifBrought_111 : decode cX10_ifBrought 111 = .ok (.if_icmp .ne 7, 3) := by decide +kernel
theorem dX10_ifBrought_114 : decode cX10_ifBrought 114 = .ok (.iconst (-1), 1) := by decide +kernel
theorem dX10_ifBrought_115 : decode cX10_ifBrought 115 = .ok (.goto 20, 3) := by decide +kernel
theorem dX10_ifBrought_118 : decode cX10_ifBrought 118 = .ok (.aload_n 0, 1) := by decide +kernel
theorem dX10_ifBrought_119 : decode cX10_ifBrought 119 = .ok (.getfield 13, 3) := by decide +kernel
theorem dX10_ifBrought_122 : decode cX10_ifBrought 122 = .ok (.iload_n 1, 1) := by decide +kernel
theorem dX10_ifBrought_123 : decode cX10_ifBrought 123 = .ok (.iload 5, 2) := by decide +kernel
theorem dX10_ifBrought_125 : decode cX10_ifBrought 125 = .ok (.aload_n 0, 1) := by decide +kernel
theorem dX10_ifBrought_126 : decode cX10_ifBrought 126 = .ok (.getfield 29, 3) := by decide +kernel
theorem dX10_ifBrought_129 : decode cX10_ifBrought 129 = .ok (.iload_n 2, 1) := by decide +kernel
theorem dX10_ifBrought_130 : decode cX10_ifBrought 130 = .ok (.iaload, 1) := by decide +kernel
theorem dX10_ifBrought_131 : decode cX10_ifBrought 131 = .ok (.iadd, 1) := by decide +kernel
theorem dX10_ifBrought_132 : decode cX10_ifBrought 132 = .ok (.invokestatic 72, 3) := by decide +kernel
theorem dX10_ifBrought_135 : decode cX10_ifBrought 135 = .ok (.ireturn, 1) := by decide +kernel
set_option maxRecDepth 100000 in
set_option maxHeartbeats 4000000 in
theorem c_X10_ifBrought (l : Launch) (G : GT) (n : Nat) (h : AH) (m : Nat) (rf : Int32) (y : Nat → Nat) (k : Nat) (D S : Nat → Nat → Nat) (sv : Nat → Bool) (N : Nat) (T : Nat → Nat) (hS : SysM m rf y k D S sv N T h) (hI : SI y k D S sv N T) (pq1 : Int32) (pq2 : Int32) : Ct l yX10_ifBrought cX10_ifBrought 6 (some .int) 7 0 0 G n h [.ref m, .int pq1, .int pq2] (PoM m n h (if ix pq1 (y 4) ∧ ix pq2 (y 0) then 0 else 1) (nI (qIb y (z pq1) (z pq2))) y k D S sv N T) := by
  have NE := NO_eq
  obtain ⟨⟨sp, ou, g1, hmx⟩, hx, ⟨yt, hxt⟩, ⟨gd, hgd, hdia⟩, ⟨gk, hgk, hkp⟩, ⟨gi, hgi, hik⟩, ⟨gf, hgf⟩⟩ := id hS
  obtain ⟨hNn, hm, hg1, hch⟩ := id hmx
  obtain ⟨hIy, hk14, hID, hIS, hN, hT⟩ := id hI
  obtain ⟨⟨i0, i1, i2, i3, i4⟩, iR, iU, iM, iS⟩ := id hIy
  refine Ct_of mX10_ifBrought.1 (Nat.le_of_ble_eq_true rfl) ?_
  intro p₀ e₀ s₀ m₀ as₀ bl₀ me₀ c₀ C hin
  refine V_Le (L' := [(0, .ref m), (1, .int pq1), (2, .int pq2)]) rfl ?_
  refine V_aload_n 1 C dX10_ifBrought_0 rfl rfl ?_
  refine V_aload_n 2 C dX10_ifBrought_1 rfl rfl ?_
  have J28 : ∀ (w9 : Nat) (hw9 : w9 ≤ 3) (hq : (¬ w9 = 0 ∧ (if ix pq1 (y 4) ∧ ix pq2 (y 0) then 0 else 1) = w9) ∨ (w9 = 0 ∧ (if ix pq1 (y 4) ∧ ix pq2 (y 0) then 0 else 1) = 0 ∧ ix pq1 (y 4) ∧ ix pq2 (y 0))), V p₀ l e₀ (rmD 7 0 0) s₀ m₀ as₀ bl₀ me₀ c₀ (MQ bl₀ (Po G (PoM m n h (if ix pq1 (y 4) ∧ ix pq2 (y 0) then 0 else 1) (nI (qIb y (z pq1) (z pq2))) y k D S sv N T)) as₀ s₀ 0 0 (rg G)) G 6 0 0 n h 28 [(0, .ref m), (1, .int pq1), (2, .int pq2)] [.int (nI w9), .ref m] := by
    intro w9 hw9 hq
    refine V_callV 31 C dX10_ifBrought_28 rfl mX10_refused tw985 fcX10 hm (c_X10_refused l G _ _ m rf (nI N) (nI k) sp ou hm w9 hw9) rfl rfl (by decide) ⟨by omega, by omega⟩ (Nat.le_of_ble_eq_true rfl) ?_
    rintro _ _ h1 ⟨rfl, rfl, eh1⟩
    have hm1 : h1 m = some (obM m (nI w9) (nI N) (nI k) sp ou) := by rw [eh1]; exact up_s _ _ _
    have hF1 : ∀ a, ¬ a = m → h1 a = h a := fun a ha => by rw [eh1]; exact up_n _ ha
    have hS1 : SysM m (nI w9) y k D S sv N T h1 := hS.ob hm1 hF1
    have hX1 : FM m h h1 := fun a ha => hF1 a (by omega)
    have hx1 : Row (m + 2) y h1 := (hF1 _ (by omega)).trans hx
    refine V_if_eqB 36 34 C dX10_ifBrought_31 (by decide) rfl  (fun cq31 => ?_) (fun cq31 => ?_)
    · obtain ⟨rfl, hk0, hFF⟩ := hq.resolve_left (fun e => by omega)
      obtain ⟨j1, hj1, rfl⟩ := ix_of hFF.1 (by omega)
      obtain ⟨j2, hj2, rfl⟩ := ix_of hFF.2 (by omega)
      obtain ⟨s0, s1, s2, s3, s4, s5⟩ := iS j1 hj1
      unfold NO at s4
      obtain ⟨hb1, hb2⟩ := ib_b hIy hj1
      refine V_aload_n 37 C dX10_ifBrought_36 rfl rfl ?_
      have J72 : V p₀ l e₀ (rmD 7 0 0) s₀ m₀ as₀ bl₀ me₀ c₀ (MQ bl₀ (Po G (PoM m n h (if ix (nI j1) (y 4) ∧ ix (nI j2) (y 0) then 0 else 1) (nI (qIb y (z (nI j1)) (z (nI j2)))) y k D S sv N T)) as₀ s₀ 0 0 (rg G)) G 6 0 0 n h1 72 [(0, .ref m), (1, .int (nI j1)), (2, .int (nI j2)), (3, .int (nI (y (58 + 6 * j1 + 4))))] [.int (nI (ibS y j1))] := by
        refine V_istore 74 C dX10_ifBrought_72 rfl (by decide) (L' := [(0, _), (1, _), (2, _), (3, _), (4, _)]) rfl ?_
        have J92 : V p₀ l e₀ (rmD 7 0 0) s₀ m₀ as₀ bl₀ me₀ c₀ (MQ bl₀ (Po G (PoM m n h (if ix (nI j1) (y 4) ∧ ix (nI j2) (y 0) then 0 else 1) (nI (qIb y (z (nI j1)) (z (nI j2)))) y k D S sv N T)) as₀ s₀ 0 0 (rg G)) G 6 0 0 n h1 92 [(0, .ref m), (1, .int (nI j1)), (2, .int (nI j2)), (4, .int (nI (ibS y j1)))] [.int (nI (ibL y j1))] := by
          refine V_istore 94 C dX10_ifBrought_92 rfl (by decide) (L' := [(0, _), (1, _), (2, _), (4, _), (5, _)]) rfl ?_
          refine V_aload_n 95 C dX10_ifBrought_94 rfl rfl ?_
          refine V_aload_n 96 C dX10_ifBrought_95 rfl rfl ?_
          refine V_get (k := 3) 99 C dX10_ifBrought_96 rfl fcX10 tw939 (by decide) rfl hm1 rfl ?_
          refine V_iload 101 C dX10_ifBrought_99 rfl rfl ?_
          refine V_callV 104 C dX10_ifBrought_101 rfl mX10_findFar tw1272 fcX10 hm1 (c_X10_findFar l G _ _ m (nI 0) (nI N) (nI k) sp ou hm1 gf ((hF1 _ (by omega)).trans hgf) (m + 2) y hx1 hIy (by omega) (ibS y j1) (by omega)) rfl rfl (by decide) ⟨by omega, by omega⟩ (Nat.le_of_ble_eq_true rfl) ?_
          rintro _ _ _ ⟨rfl, rfl, f2, rfl, hf2⟩
          have hm2 : (up h1 (m + 7) (ra f2)) m = _ := (up_n _ (by omega)).trans hm1
          have hx2 : Row (m + 2) y (up h1 (m + 7) (ra f2)) := (up_n _ (by omega)).trans hx1
          have hS2 : SysM m (nI 0) y k D S sv N T (up h1 (m + 7) (ra f2)) := hS1.far (up_s _ _ _) (fun a ha => up_n _ ha)
          have hX2 : FM m h (up h1 (m + 7) (ra f2)) := fun a ha => (up_n _ (by omega)).trans (hX1 a ha)
          have hd1 := dst_le y (ibS y j1) j2
          have hmb := mo_b hd1
          have FE := FAR_eq
          have hd100 := dst_100 hIy (a := ibS y j1) (t := j2) (by omega)
          refine V_aload_n 105 C dX10_ifBrought_104 rfl rfl ?_
          refine V_get (k := 9) 108 C dX10_ifBrought_105 rfl fcX10 tw945 (by decide) rfl hm2 rfl ?_
          refine V_iload_n 109 C dX10_ifBrought_108 rfl rfl ?_
          refine V_iald (j := j2) 110 C dX10_ifBrought_109 rfl (up_s _ _ _) rfl (by omega) (by omega) ?_
          rw [hf2 j2 (by omega)]
          refine V_iconst 111 C dX10_ifBrought_110 rfl icm1 ?_
          refine V_icmp_neN 118 114 C dX10_ifBrought_111 (by decide) rfl (by omega) (by omega) (fun cq111 => ?_) (fun cq111 => ?_)
          · have hnF : ¬ dst y (ibS y j1) j2 = FAR := fun e => cq111 (mo_y e)
            have hmo := mo_n hnF
            have hq9 : qIb y j1 j2 = ers y j1 (ibL y j1 + mo (dst y (ibS y j1) j2)) := by unfold qIb; rw [if_neg hnF, hmo]
            refine V_aload_n 119 C dX10_ifBrought_118 rfl rfl ?_
            refine V_get (k := 3) 122 C dX10_ifBrought_119 rfl fcX10 tw939 (by decide) rfl hm2 rfl ?_
            refine V_iload_n 123 C dX10_ifBrought_122 rfl rfl ?_
            refine V_iload 125 C dX10_ifBrought_123 rfl rfl ?_
            refine V_aload_n 126 C dX10_ifBrought_125 rfl rfl ?_
            refine V_get (k := 9) 129 C dX10_ifBrought_126 rfl fcX10 tw945 (by decide) rfl hm2 rfl ?_
            refine V_iload_n 130 C dX10_ifBrought_129 rfl rfl ?_
            refine V_iald (j := j2) 131 C dX10_ifBrought_130 rfl (up_s _ _ _) rfl (by omega) (by omega) ?_
            rw [hf2 j2 (by omega)]
            refine V_iaddN 132 C dX10_ifBrought_131 rfl  ?_
            refine V_callS 135 C dX10_ifBrought_132 rfl mX10_errorsLater tw1164 (c_X10_errorsLater l G _ _ (m + 2) y hx2 hIy j1 (ibL y j1 + mo (dst y (ibS y j1) j2)) hj1 (by omega)) rfl rfl (by decide) ⟨by omega, by omega⟩ (Nat.le_of_ble_eq_true rfl) ?_
            rintro _ _ _ ⟨rfl, rfl, rfl⟩
            refine V_ireturn C dX10_ifBrought_135 rfl rfl (by omega) (by omega) ?_
            exact (PoM_0 hk0 rfl (by rw [zn (by omega), zn (by omega), hq9]) hS2 hX2)
          · have hq9 : qIb y j1 j2 = 4294967295 := if_pos ((mo_iff hd1).mp cq111)
            refine V_iconst 115 C dX10_ifBrought_114 rfl icm1 ?_
            refine V_goto 135 C dX10_ifBrought_115 (by decide) ?_
            refine V_ireturn C dX10_ifBrought_135 rfl rfl (by omega) (by omega) ?_
            exact (PoM_0 hk0 rfl (by rw [zn (by omega), zn (by omega), hq9]) hS2 hX2)
        refine V_iload_n 75 C dX10_ifBrought_74 rfl rfl ?_
        refine V_iconst 76 C dX10_ifBrought_75 rfl icm1 ?_
        refine V_icmp_neN 83 79 C dX10_ifBrought_76 (by decide) rfl (by omega) (by omega) (fun cq76 => ?_) (fun cq76 => ?_)
        · have hcu : y (58 + 6 * j1 + 4) < y 2 := by omega
          refine V_aload_n 84 C dX10_ifBrought_83 rfl rfl ?_
          refine V_get (k := 3) 87 C dX10_ifBrought_84 rfl fcX10 tw939 (by decide) rfl hm1 rfl ?_
          refine V_iload_n 88 C dX10_ifBrought_87 rfl rfl ?_
          refine V_iconst 89 C dX10_ifBrought_88 rfl ic1 ?_
          refine V_callS 92 C dX10_ifBrought_89 rfl mX10_ofRunner tw1076 (c_X10_ofRunner l G _ _ (m + 2) y hx1 (y (58 + 6 * j1 + 4)) 1 (37 + 3 * y (58 + 6 * j1 + 4) + 1) rfl (by omega) (by omega) (by omega)) rfl rfl (by decide) ⟨by omega, by omega⟩ (Nat.le_of_ble_eq_true rfl) ?_
          rintro _ _ _ ⟨rfl, rfl, rfl⟩
          refine V_L [0, 1, 2, 4] rfl ?_
          have J := J92
          rw [show ibL y j1 = y (37 + 3 * y (58 + 6 * j1 + 4) + 1) from if_neg cq76] at J
          exact J
        · refine V_iconst 80 C dX10_ifBrought_79 rfl ic0 ?_
          refine V_goto 92 C dX10_ifBrought_80 (by decide) ?_
          refine V_L [0, 1, 2, 4] rfl ?_
          have J := J92
          rw [show ibL y j1 = 0 from if_pos cq76] at J
          exact J
      refine V_get (k := 3) 40 C dX10_ifBrought_37 rfl fcX10 tw939 (by decide) rfl hm1 rfl ?_
      refine V_iload_n 41 C dX10_ifBrought_40 rfl rfl ?_
      refine V_iconst 42 C dX10_ifBrought_41 rfl ic4 ?_
      refine V_callS 45 C dX10_ifBrought_42 rfl mX10_ofSheet tw1082 (c_X10_ofSheet l G _ _ (m + 2) y hx1 j1 4 (58 + 6 * j1 + 4) rfl (by omega) (by omega) (by omega)) rfl rfl (by decide) ⟨by omega, by omega⟩ (Nat.le_of_ble_eq_true rfl) ?_
      rintro _ _ _ ⟨rfl, rfl, rfl⟩
      refine V_istore_n 46 C dX10_ifBrought_45 rfl (by decide) (L' := [(0, _), (1, _), (2, _), (3, _)]) rfl ?_
      refine V_iload_n 47 C dX10_ifBrought_46 rfl rfl ?_
      refine V_iconst 48 C dX10_ifBrought_47 rfl icm1 ?_
      refine V_icmp_neN 63 51 C dX10_ifBrought_48 (by decide) rfl (by omega) (by omega) (fun cq48 => ?_) (fun cq48 => ?_)
      · have hcu : y (58 + 6 * j1 + 4) < y 2 := by omega
        refine V_aload_n 64 C dX10_ifBrought_63 rfl rfl ?_
        refine V_get (k := 3) 67 C dX10_ifBrought_64 rfl fcX10 tw939 (by decide) rfl hm1 rfl ?_
        refine V_iload_n 68 C dX10_ifBrought_67 rfl rfl ?_
        refine V_iconst 69 C dX10_ifBrought_68 rfl ic0 ?_
        refine V_callS 72 C dX10_ifBrought_69 rfl mX10_ofRunner tw1076 (c_X10_ofRunner l G _ _ (m + 2) y hx1 (y (58 + 6 * j1 + 4)) 0 (37 + 3 * y (58 + 6 * j1 + 4)) rfl (by omega) (by omega) (by omega)) rfl rfl (by decide) ⟨by omega, by omega⟩ (Nat.le_of_ble_eq_true rfl) ?_
        rintro _ _ _ ⟨rfl, rfl, rfl⟩
        refine V_L [0, 1, 2, 3] rfl ?_
        have J := J72
        rw [show ibS y j1 = y (37 + 3 * y (58 + 6 * j1 + 4)) from if_neg cq48] at J
        exact J
      · refine V_aload_n 52 C dX10_ifBrought_51 rfl rfl ?_
        refine V_get (k := 3) 55 C dX10_ifBrought_52 rfl fcX10 tw939 (by decide) rfl hm1 rfl ?_
        refine V_iload_n 56 C dX10_ifBrought_55 rfl rfl ?_
        refine V_iconst 57 C dX10_ifBrought_56 rfl ic5 ?_
        refine V_callS 60 C dX10_ifBrought_57 rfl mX10_ofSheet tw1082 (c_X10_ofSheet l G _ _ (m + 2) y hx1 j1 5 (58 + 6 * j1 + 5) rfl (by omega) (by omega) (by omega)) rfl rfl (by decide) ⟨by omega, by omega⟩ (Nat.le_of_ble_eq_true rfl) ?_
        rintro _ _ _ ⟨rfl, rfl, rfl⟩
        refine V_goto 72 C dX10_ifBrought_60 (by decide) ?_
        refine V_L [0, 1, 2, 3] rfl ?_
        have J := J72
        rw [show ibS y j1 = y (58 + 6 * j1 + 5) from if_pos cq48] at J
        exact J
    · have hqn := (hq.resolve_right (fun e => by omega)).2
      refine V_iconst 35 C dX10_ifBrought_34 rfl ic0 ?_
      refine V_ireturn C dX10_ifBrought_35 rfl rfl (by omega) (by omega) ?_
      exact (PoM_k w9 hqn (by omega) rfl hS1 hX1)
  refine V_get (k := 3) 5 C dX10_ifBrought_2 rfl fcX10 tw939 (by decide) rfl hm rfl ?_
  refine V_iload_n 6 C dX10_ifBrought_5 rfl rfl ?_
  refine V_callS 9 C dX10_ifBrought_6 rfl mX10_isSheet tw1067 (c_X10_isSheet l G _ _ (m + 2) y hx hIy pq1) rfl rfl (by decide) ⟨by omega, by omega⟩ (Nat.le_of_ble_eq_true rfl) ?_
  rintro _ _ _ ⟨rfl, rfl, rfl⟩
  refine V_if_eqB 27 12 C dX10_ifBrought_9 (by decide) rfl  (fun c9 => ?_) (fun c9 => ?_)
  · have hno : ¬ (ix pq1 (y 4) ∧ ix pq2 (y 0)) := fun e => c9 e.1
    refine V_iconst 28 C dX10_ifBrought_27 rfl ic1 ?_
    refine V_L [0, 1, 2] rfl ?_
    exact J28 1 (by omega) (Or.inl ⟨by decide, if_neg hno⟩)
  · refine V_aload_n 13 C dX10_ifBrought_12 rfl rfl ?_
    refine V_get (k := 3) 16 C dX10_ifBrought_13 rfl fcX10 tw939 (by decide) rfl hm rfl ?_
    refine V_iload_n 17 C dX10_ifBrought_16 rfl rfl ?_
    refine V_callS 20 C dX10_ifBrought_17 rfl mX10_isTown tw1028 (c_X10_isTown l G _ _ (m + 2) y hx hIy pq2) rfl rfl (by decide) ⟨by omega, by omega⟩ (Nat.le_of_ble_eq_true rfl) ?_
    rintro _ _ _ ⟨rfl, rfl, rfl⟩
    refine V_if_eqB 27 23 C dX10_ifBrought_20 (by decide) rfl  (fun cq20 => ?_) (fun cq20 => ?_)
    · have hno : ¬ (ix pq1 (y 4) ∧ ix pq2 (y 0)) := fun e => cq20 e.2
      refine V_iconst 28 C dX10_ifBrought_27 rfl ic1 ?_
      refine V_L [0, 1, 2] rfl ?_
      exact J28 1 (by omega) (Or.inl ⟨by decide, if_neg hno⟩)
    · refine V_iconst 24 C dX10_ifBrought_23 rfl ic0 ?_
      refine V_goto 28 C dX10_ifBrought_24 (by decide) ?_
      refine V_L [0, 1, 2] rfl ?_
      exact J28 0 (by omega) (Or.inr ⟨rfl, if_pos ⟨c9, cq20⟩, ⟨c9, cq20⟩⟩)

