/-! THE REFERENCE'S FACE: text, load, save, restore -/
theorem mxc_add {N ch : Nat} {T : Nat → Nat} {g : Nat → Int32} (hT : ∀ i, i < N → g i = nI (T i) ∧ T i < 256) (hc : ch < 256) : ∀ i, i < N + 1 → upd g N (nI ch) i = nI (ys T N ch i) ∧ ys T N ch i < 256 := by
  intro i hi
  by_cases e : i = N
  · rw [e, pk_us, ys_s]; exact ⟨rfl, hc⟩
  · rw [pk_un e, ys_n _ e]; exact hT i (by omega)
def kpt (gk : Nat → Int32) (y : Nat → Nat) (j : Nat) : Nat → Int32 := fun t => if 130 * j ≤ t ∧ t < 130 * j + 130 then nI (y (t - 130 * j)) else gk t
theorem kpt_1 (gk : Nat → Int32) (y : Nat → Nat) (j : Nat) : ∀ t, t < 130 → kpt gk y j (130 * j + t) = nI (y (0 + t)) := fun t ht => by
  unfold kpt
  rw [if_pos (by omega), show 130 * j + t - 130 * j = 0 + t from by omega]
theorem kpt_2 (gk : Nat → Int32) (y : Nat → Nat) (j : Nat) : ∀ t, t < 260 → (t < 130 * j ∨ 130 * j + 130 ≤ t) → kpt gk y j t = gk t := fun t _ hc => if_neg (by omega)
theorem kpt_3 {gk : Nat → Int32} {y : Nat → Nat} {j : Nat} {S : Nat → Nat → Nat} {sv : Nat → Bool} (hj : j < 2) (hkp : ∀ i, i < 2 → sv i = true → ∀ t, t < 130 → gk (130 * i + t) = nI (S i t)) : ∀ i, i < 2 → (if i = j then true else sv i) = true → ∀ t, t < 130 → kpt gk y j (130 * i + t) = nI ((if i = j then y else S i) t) := by
  intro i hi hs t ht
  by_cases e : i = j
  · subst e
    rw [kpt_1 _ _ _ t ht, if_pos rfl, Nat.zero_add]
  · rw [if_neg e] at hs
    rw [if_neg e, kpt_2 _ _ _ _ (by omega) (by omega)]
    exact hkp i hi hs t ht
theorem flg_3 {gi : Nat → Int32} {j : Nat} {sv : Nat → Bool} (hik : ∀ i, i < 2 → gi i = nI (sv i).toNat) : ∀ i, i < 2 → upd gi j (nI 1) i = nI (if i = j then true else sv i).toNat := by
  intro i hi
  by_cases e : i = j
  · rw [e, pk_us, if_pos rfl]; rfl
  · rw [pk_un e, if_neg e]; exact hik i hi
theorem flg_0 {gi : Nat → Int32} : ∀ i, i < 2 → upd (upd gi 0 (nI 0)) 1 (nI 0) i = nI ((fun _ : Nat => false) i).toNat := by
  intro i hi
  by_cases e : i = 1
  · rw [e, pk_us]; rfl
  · rw [pk_un e, show i = 0 from by omega, pk_us]; rfl
theorem dX10_append_0 : decode cX10_append 0 = .ok (.aload_n 0, 1) := by decide +kernel
theorem dX10_append_1 : decode cX10_append 1 = .ok (.iload_n 1, 1) := by decide +kernel
theorem dX10_append_2 : decode cX10_append 2 = .ok (.i2l, 1) := by decide +kernel
theorem dX10_append_3 : decode cX10_append 3 = .ok (.lconst 0, 1) := by decide +kernel
theorem dX10_append_4 : decode cX10_append 4 = .ok (.ldc2_w 119, 3) := by decide +kernel
theorem dX10_append_7 : decode cX10_append 7 = .ok (.invokestatic 40, 3) := by decide +kernel
theorem dX10_append_10 : decode cX10_append 10 = .ok (.ifCond .ne 7, 3) := by decide +kernel
theorem dX10_append_13 : decode cX10_append 13 = .ok (.iconst 1, 1) := by decide +kernel
theorem dX10_append_14 : decode cX10_append 14 = .ok (.goto 17, 3) := by decide +kernel
theorem dX10_append_17 : decode cX10_append 17 = .ok (.aload_n 0, 1) := by decide +kernel
theorem dX10_append_18 : decode cX10_append 18 = .ok (.getfield 121, 3) := by decide +kernel
theorem dX10_append_21 : decode cX10_append 21 = .ok (.bipush 120, 2) := by decide +kernel
theorem dX10_append_23 : decode cX10_append 23 = .ok (.if_icmp .ne 7, 3) := by decide +kernel
theorem dX10_append_26 : decode cX10_append 26 = .ok (.iconst 2, 1) := by decide +kernel
theorem dX10_append_27 : decode cX10_append 27 = .ok (.goto 4, 3) := by decide +kernel
theorem dX10_append_30 : decode cX10_append 30 = .ok (.iconst 0, 1) := by decide +kernel
theorem dX10_append_31 : decode cX10_append 31 = .ok (.invokevirtual 124, 3) := by decide +kernel
theorem dX10_append_34 : decode cX10_append 34 = .ok (.ifCond .eq 5, 3) := by decide +kernel
theorem dX10_append_37 : decode cX10_append 37 = .ok (.iconst 0, 1) := by decide +kernel
theorem dX10_append_38 : decode cX10_append 38 = .ok (.ireturn, 1) := by decide +kernel
theorem dX10_append_39 : decode cX10_append 39 = .ok (.aload_n 0, 1) := by decide +kernel
theorem dX10_append_40 : decode cX10_append 40 = .ok (.getfield 7, 3) := by decide +kernel
theorem dX10_append_43 : decode cX10_append 43 = .ok (.aload_n 0, 1) := by decide +kernel
theorem dX10_append_44 : decode cX10_append 44 = .ok (.getfield 121, 3) := by decide +kernel
theorem dX10_append_47 : decode cX10_append 47 = .ok (.iload_n 1, 1) := by decide +kernel
theorem dX10_append_48 : decode cX10_append 48 = .ok (.iastore, 1) := by decide +kernel
theorem dX10_append_49 : decode cX10_append 49 = .ok (.aload_n 0, 1) := by decide +kernel
theorem dX10_append_50 : decode cX10_append 50 = .ok (.dup, 1) := by decide +kernel
theorem dX10_append_51 : decode cX10_append 51 = .ok (.getfield 121, 3) := by decide +kernel
theorem dX10_append_54 : decode cX10_append 54 = .ok (.iconst 1, 1) := by decide +kernel
theorem dX10_append_55 : decode cX10_append 55 = .ok (.iadd, 1) := by decide +kernel
theorem dX10_append_56 : decode cX10_append 56 = .ok (.putfield 121, 3) := by decide +kernel
theorem dX10_append_59 : decode cX10_append 59 = .ok (.aload_n 0, 1) := by decide +kernel
theorem dX10_append_60 : decode cX10_append 60 = .ok (.getfield 121, 3) := by decide +kernel
theorem dX10_append_63 : decode cX10_append 63 = .ok (.ireturn, 1) := by decide +kernel
set_option maxRecDepth 100000 in
set_option maxHeartbeats 4000000 in
theorem c_X10_append (l : Launch) (G : GT) (n : Nat) (h : AH) (m : Nat) (rf : Int32) (y : Nat → Nat) (k : Nat) (D S : Nat → Nat → Nat) (sv : Nat → Bool) (N : Nat) (T : Nat → Nat) (hS : SysM m rf y k D S sv N T h) (hI : SI y k D S sv N T) (pq1 : Int32) : Ct l yX10_append cX10_append 2 (some .int) 8 0 0 G n h [.ref m, .int pq1] (PoM m n h (if ix pq1 256 then (if N < 120 then 0 else 2) else 1) (nI (N + 1)) y k D S sv (aN (if ix pq1 256 then (if N < 120 then 0 else 2) else 1) N) (aTx (if ix pq1 256 then (if N < 120 then 0 else 2) else 1) N T (z pq1))) := by
  have NE := NO_eq
  obtain ⟨⟨sp, ou, g1, hmx⟩, hx, ⟨yt, hxt⟩, ⟨gd, hgd, hdia⟩, ⟨gk, hgk, hkp⟩, ⟨gi, hgi, hik⟩, ⟨gf, hgf⟩⟩ := id hS
  obtain ⟨hNn, hm, hg1, hch⟩ := id hmx
  obtain ⟨hIy, hk14, hID, hIS, hN, hT⟩ := id hI
  obtain ⟨⟨i0, i1, i2, i3, i4⟩, iR, iU, iM, iS⟩ := id hIy
  refine Ct_of mX10_append.1 (Nat.le_of_ble_eq_true rfl) ?_
  intro p₀ e₀ s₀ m₀ as₀ bl₀ me₀ c₀ C hin
  refine V_Le (L' := [(0, .ref m), (1, .int pq1)]) rfl ?_
  refine V_aload_n 1 C dX10_append_0 rfl rfl ?_
  have J31 : ∀ (w9 : Nat) (hw9 : w9 ≤ 3) (hq : (¬ w9 = 0 ∧ (if ix pq1 256 then (if N < 120 then 0 else 2) else 1) = w9) ∨ (w9 = 0 ∧ (if ix pq1 256 then (if N < 120 then 0 else 2) else 1) = 0 ∧ ix pq1 256 ∧ N < 120)), V p₀ l e₀ (rmD 8 0 0) s₀ m₀ as₀ bl₀ me₀ c₀ (MQ bl₀ (Po G (PoM m n h (if ix pq1 256 then (if N < 120 then 0 else 2) else 1) (nI (N + 1)) y k D S sv (aN (if ix pq1 256 then (if N < 120 then 0 else 2) else 1) N) (aTx (if ix pq1 256 then (if N < 120 then 0 else 2) else 1) N T (z pq1)))) as₀ s₀ 0 0 (rg G)) G 2 0 0 n h 31 [(0, .ref m), (1, .int pq1)] [.int (nI w9), .ref m] := by
    intro w9 hw9 hq
    refine V_callV 34 C dX10_append_31 rfl mX10_refused tw985 fcX10 hm (c_X10_refused l G _ _ m rf (nI N) (nI k) sp ou hm w9 hw9) rfl rfl (by decide) ⟨by omega, by omega⟩ (Nat.le_of_ble_eq_true rfl) ?_
    rintro _ _ h1 ⟨rfl, rfl, eh1⟩
    have hm1 : h1 m = some (obM m (nI w9) (nI N) (nI k) sp ou) := by rw [eh1]; exact up_s _ _ _
    have hF1 : ∀ a, ¬ a = m → h1 a = h a := fun a ha => by rw [eh1]; exact up_n _ ha
    have hS1 : SysM m (nI w9) y k D S sv N T h1 := hS.ob hm1 hF1
    have hX1 : FM m h h1 := fun a ha => hF1 a (by omega)
    have hx1 : Row (m + 2) y h1 := (hF1 _ (by omega)).trans hx
    refine V_if_eqB 39 37 C dX10_append_34 (by decide) rfl  (fun cq34 => ?_) (fun cq34 => ?_)
    · obtain ⟨rfl, hk0, hFF⟩ := hq.resolve_left (fun e => by omega)
      obtain ⟨f1, f2⟩ := hFF
      obtain ⟨j1, hj1, rfl⟩ := ix_of f1 (by omega)
      have z1 := zn (show j1 < 2 ^ 31 by omega)
      
      refine V_aload_n 40 C dX10_append_39 rfl rfl ?_
      refine V_get (k := 1) 43 C dX10_append_40 rfl fcX10 tw937 (by decide) rfl hm1 rfl ?_
      refine V_aload_n 44 C dX10_append_43 rfl rfl ?_
      refine V_get (k := 2) 47 C dX10_append_44 rfl fcX10 tw938 (by decide) rfl hm1 rfl ?_
      refine V_iload_n 48 C dX10_append_47 rfl rfl ?_
      refine V_iast (j := N) 49 C dX10_append_48 rfl ((hF1 _ (by omega)).trans hg1) rfl (by omega) (by omega) ?_
      refine V_aload_n 50 C dX10_append_49 rfl rfl ?_
      refine V_dup 51 C dX10_append_50 rfl rfl ?_
      refine V_get (k := 2) 54 C dX10_append_51 rfl fcX10 tw938 (by decide) rfl ((up_n _ (by omega)).trans hm1) rfl ?_
      refine V_iconst 55 C dX10_append_54 rfl ic1 ?_
      refine V_iaddN 56 C dX10_append_55 rfl  ?_
      refine V_put (fs' := [_, _, _, _, _, _, _, _, _, _, _, _]) (k := 2) 59 C dX10_append_56 rfl fcX10 tw938 (by decide) rfl rfl ((up_n _ (by omega)).trans hm1) rfl rfl (Nat.le_of_ble_eq_true rfl) rfl ?_
      refine V_aload_n 60 C dX10_append_59 rfl rfl ?_
      refine V_get (k := 2) 63 C dX10_append_60 rfl fcX10 tw938 (by decide) rfl (up_s _ _ _) rfl ?_
      refine V_ireturn C dX10_append_63 rfl rfl (by omega) (by omega) ?_
      exact (by rw [hk0, z1]; exact PoM_0 rfl rfl rfl (hS1.txt (N' := N + 1) (T' := ys T N j1) ⟨by omega, up_s _ _ _, by rw [up_n _ (by omega)]; exact up_s _ _ _, mxc_add hch hj1⟩ (fun a ha => by rw [up_n _ ha.1, up_n _ ha.2])) (fun a ha => by rw [up_n _ (by omega), up_n _ (by omega)]; exact hX1 a ha))
    · have hqn := (hq.resolve_right (fun e => by omega)).2
      refine V_iconst 38 C dX10_append_37 rfl ic0 ?_
      refine V_ireturn C dX10_append_38 rfl rfl (by omega) (by omega) ?_
      exact (PoM_k w9 hqn (by omega) rfl (by unfold aN aTx; rw [if_neg (fun e => (show ¬ w9 = 0 from by omega) (hqn.symm.trans e)), if_neg (fun e => (show ¬ w9 = 0 from by omega) (hqn.symm.trans e))]; exact hS1) hX1)
  refine V_iload_n 2 C dX10_append_1 rfl rfl ?_
  refine V_i2l 3 C dX10_append_2 rfl  ?_
  refine V_lconst 4 C dX10_append_3 rfl rfl ?_
  refine V_ldc2 7 C dX10_append_4 rfl tw981 ?_
  refine V_callS 10 C dX10_append_7 rfl mX10_in tw982 (c_X10_in l G _ _ _ _ _) rfl rfl (by decide) ⟨by omega, by omega⟩ (Nat.le_of_ble_eq_true rfl) ?_
  rintro _ _ _ ⟨rfl, rfl, rfl⟩
  rw [inI (v := pq1) (lo := 0) (hi := 255) (by decide +kernel) (by decide +kernel)]
  refine V_if_neB 17 13 C dX10_append_10 (by decide) rfl  (fun cq10 => ?_) (fun cq10 => ?_)
  · have hw : ix pq1 256 := ⟨by have := cq10.1; omega, by have := cq10.2; omega⟩
    refine V_aload_n 18 C dX10_append_17 rfl rfl ?_
    refine V_get (k := 2) 21 C dX10_append_18 rfl fcX10 tw938 (by decide) rfl hm rfl ?_
    refine V_bipush 23 C dX10_append_21 rfl bip120 ?_
    refine V_icmp_neN 30 26 C dX10_append_23 (by decide) rfl (by omega) (by omega) (fun cq23 => ?_) (fun cq23 => ?_)
    · refine V_iconst 31 C dX10_append_30 rfl ic0 ?_
      refine V_L [0, 1] rfl ?_
      exact J31 0 (by omega) (Or.inr ⟨rfl, by rw [if_pos hw, if_pos (by omega)], ⟨hw, by omega⟩⟩)
    · refine V_iconst 27 C dX10_append_26 rfl ic2 ?_
      refine V_goto 31 C dX10_append_27 (by decide) ?_
      refine V_L [0, 1] rfl ?_
      exact J31 2 (by omega) (Or.inl ⟨by decide, by rw [if_pos hw, if_neg (by omega)]⟩)
  · have hno : ¬ ix pq1 256 := fun e => cq10 ⟨by have := e.1; omega, by have := e.2; omega⟩
    refine V_iconst 14 C dX10_append_13 rfl ic1 ?_
    refine V_goto 31 C dX10_append_14 (by decide) ?_
    refine V_L [0, 1] rfl ?_
    exact J31 1 (by omega) (Or.inl ⟨by decide, if_neg hno⟩)

theorem dX10_clearText_0 : decode cX10_clearText 0 = .ok (.aload_n 0, 1) := by decide +kernel
theorem dX10_clearText_1 : decode cX10_clearText 1 = .ok (.iconst 0, 1) := by decide +kernel
theorem dX10_clearText_2 : decode cX10_clearText 2 = .ok (.putfield 36, 3) := by decide +kernel
theorem dX10_clearText_5 : decode cX10_clearText 5 = .ok (.aload_n 0, 1) := by decide +kernel
theorem dX10_clearText_6 : decode cX10_clearText 6 = .ok (.getfield 121, 3) := by decide +kernel
theorem dX10_clearText_9 : decode cX10_clearText 9 = .ok (.istore_n 1, 1) := by decide +kernel
theorem dX10_clearText_10 : decode cX10_clearText 10 = .ok (.aload_n 0, 1) := by decide +kernel
theorem dX10_clearText_11 : decode cX10_clearText 11 = .ok (.iconst 0, 1) := by decide +kernel
theorem dX10_clearText_12 : decode cX10_clearText 12 = .ok (.putfield 121, 3) := by decide +kernel
theorem dX10_clearText_15 : decode cX10_clearText 15 = .ok (.iload_n 1, 1) := by decide +kernel
theorem dX10_clearText_16 : decode cX10_clearText 16 = .ok (.ireturn, 1) := by decide +kernel
set_option maxRecDepth 100000 in
set_option maxHeartbeats 4000000 in
theorem c_X10_clearText (l : Launch) (G : GT) (n : Nat) (h : AH) (m : Nat) (rf : Int32) (y : Nat → Nat) (k : Nat) (D S : Nat → Nat → Nat) (sv : Nat → Bool) (N : Nat) (T : Nat → Nat) (hS : SysM m rf y k D S sv N T h) (hI : SI y k D S sv N T) : Ct l yX10_clearText cX10_clearText 2 (some .int) 8 0 0 G n h [.ref m] (PoM m n h (0) (nI N) y k D S sv 0 T) := by
  have NE := NO_eq
  obtain ⟨⟨sp, ou, g1, hmx⟩, hx, ⟨yt, hxt⟩, ⟨gd, hgd, hdia⟩, ⟨gk, hgk, hkp⟩, ⟨gi, hgi, hik⟩, ⟨gf, hgf⟩⟩ := id hS
  obtain ⟨hNn, hm, hg1, hch⟩ := id hmx
  obtain ⟨hIy, hk14, hID, hIS, hN, hT⟩ := id hI
  obtain ⟨⟨i0, i1, i2, i3, i4⟩, iR, iU, iM, iS⟩ := id hIy
  refine Ct_of mX10_clearText.1 (Nat.le_of_ble_eq_true rfl) ?_
  intro p₀ e₀ s₀ m₀ as₀ bl₀ me₀ c₀ C hin
  refine V_Le (L' := [(0, .ref m)]) rfl ?_
  refine V_aload_n 1 C dX10_clearText_0 rfl rfl ?_
  refine V_iconst 2 C dX10_clearText_1 rfl ic0 ?_
  refine V_put (fs' := [_, _, _, _, _, _, _, _, _, _, _, _]) (k := 0) 5 C dX10_clearText_2 rfl fcX10 tw936 (by decide) rfl rfl hm rfl rfl (Nat.le_of_ble_eq_true rfl) rfl ?_
  refine V_aload_n 6 C dX10_clearText_5 rfl rfl ?_
  refine V_get (k := 2) 9 C dX10_clearText_6 rfl fcX10 tw938 (by decide) rfl (up_s _ _ _) rfl ?_
  refine V_istore_n 10 C dX10_clearText_9 rfl (by decide) (L' := [(0, _), (1, _)]) rfl ?_
  refine V_aload_n 11 C dX10_clearText_10 rfl rfl ?_
  refine V_iconst 12 C dX10_clearText_11 rfl ic0 ?_
  refine V_put (fs' := [_, _, _, _, _, _, _, _, _, _, _, _]) (k := 2) 15 C dX10_clearText_12 rfl fcX10 tw938 (by decide) rfl rfl (up_s _ _ _) rfl rfl (Nat.le_of_ble_eq_true rfl) rfl ?_
  refine V_iload_n 16 C dX10_clearText_15 rfl rfl ?_
  refine V_ireturn C dX10_clearText_16 rfl rfl (by omega) (by omega) ?_
  exact (PoM_0 rfl rfl rfl (hS.txt (N' := 0) (T' := T) ⟨by omega, up_s _ _ _, by rw [up_n _ (by omega), up_n _ (by omega)]; exact hg1, fun i hi => absurd hi (Nat.not_lt_zero i)⟩ (fun a ha => by rw [up_n _ ha.1, up_n _ ha.1])) (fun a ha => by rw [up_n _ (by omega), up_n _ (by omega)]))

theorem dX10_errorPosition_0 : decode cX10_errorPosition 0 = .ok (.aload_n 0, 1) := by decide +kernel
theorem dX10_errorPosition_1 : decode cX10_errorPosition 1 = .ok (.iconst 0, 1) := by decide +kernel
theorem dX10_errorPosition_2 : decode cX10_errorPosition 2 = .ok (.putfield 36, 3) := by decide +kernel
theorem dX10_errorPosition_5 : decode cX10_errorPosition 5 = .ok (.aload_n 0, 1) := by decide +kernel
theorem dX10_errorPosition_6 : decode cX10_errorPosition 6 = .ok (.aload_n 0, 1) := by decide +kernel
theorem dX10_errorPosition_7 : decode cX10_errorPosition 7 = .ok (.getfield 16, 3) := by decide +kernel
theorem dX10_errorPosition_10 : decode cX10_errorPosition 10 = .ok (.invokevirtual 223, 3) := by decide +kernel
theorem dX10_errorPosition_13 : decode cX10_errorPosition 13 = .ok (.ireturn, 1) := by decide +kernel
set_option maxRecDepth 100000 in
set_option maxHeartbeats 4000000 in
theorem c_X10_errorPosition (l : Launch) (G : GT) (n : Nat) (h : AH) (m : Nat) (rf : Int32) (y : Nat → Nat) (k : Nat) (D S : Nat → Nat → Nat) (sv : Nat → Bool) (N : Nat) (T : Nat → Nat) (hS : SysM m rf y k D S sv N T h) (hI : SI y k D S sv N T) : Ct l yX10_errorPosition cX10_errorPosition 1 (some .int) 10 0 0 G n h [.ref m] (PoM m n h (0) (nI (fer T N)) y k D S sv N T) := by
  have NE := NO_eq
  obtain ⟨⟨sp, ou, g1, hmx⟩, hx, ⟨yt, hxt⟩, ⟨gd, hgd, hdia⟩, ⟨gk, hgk, hkp⟩, ⟨gi, hgi, hik⟩, ⟨gf, hgf⟩⟩ := id hS
  obtain ⟨hNn, hm, hg1, hch⟩ := id hmx
  obtain ⟨hIy, hk14, hID, hIS, hN, hT⟩ := id hI
  obtain ⟨⟨i0, i1, i2, i3, i4⟩, iR, iU, iM, iS⟩ := id hIy
  refine Ct_of mX10_errorPosition.1 (Nat.le_of_ble_eq_true rfl) ?_
  intro p₀ e₀ s₀ m₀ as₀ bl₀ me₀ c₀ C hin
  refine V_Le (L' := [(0, .ref m)]) rfl ?_
  refine V_aload_n 1 C dX10_errorPosition_0 rfl rfl ?_
  refine V_iconst 2 C dX10_errorPosition_1 rfl ic0 ?_
  refine V_put (fs' := [_, _, _, _, _, _, _, _, _, _, _, _]) (k := 0) 5 C dX10_errorPosition_2 rfl fcX10 tw936 (by decide) rfl rfl hm rfl rfl (Nat.le_of_ble_eq_true rfl) rfl ?_
  have hmx2 : mx0 m N (nI 0) (nI k) sp ou T g1 (up h m (obM m (nI 0) (nI N) (nI k) sp ou)) := ⟨hNn, up_s _ _ _, (up_n _ (by omega)).trans hg1, hch⟩
  refine V_aload_n 6 C dX10_errorPosition_5 rfl rfl ?_
  refine V_aload_n 7 C dX10_errorPosition_6 rfl rfl ?_
  refine V_get (k := 4) 10 C dX10_errorPosition_7 rfl fcX10 tw940 (by decide) rfl (up_s _ _ _) rfl ?_
  refine V_callV 13 C dX10_errorPosition_10 rfl mX10_readText tw997 fcX10 (up_s _ _ _) (c_X10_readText l G _ _ m N (nI 0) (nI k) sp ou T g1 hmx2 (m + 3) yt ((up_n _ (by omega)).trans hxt) (by omega) (by omega)) rfl rfl (by decide) ⟨by omega, by omega⟩ (Nat.le_of_ble_eq_true rfl) ?_
  rintro _ _ h2 ⟨rfl, rfl, q3, o3, y3, hq3, hIy3, eh2, hd3⟩
  have hm2 : h2 m = some (obM m (nI 0) (nI N) (nI k) (nI q3) (nI o3)) := by rw [eh2, HR_n (by omega)]; exact up_s _ _ _
  have hx23 : Row (m + 3) y3 h2 := by rw [eh2]; exact HR_row _ _ _
  have hF2 : ∀ a, (¬ a = m ∧ ¬ a = m + 3) → h2 a = h a := fun a ha => by rw [eh2, HR_n ha.2]; unfold mH; rw [up_n _ ha.1, up_n _ ha.1]
  have hS2 := hS.otr (h' := h2) (z' := y3) hm2 hx23 hF2
  have hX2 : FM m h h2 := fun a ha => hF2 a (by omega)
  refine V_ireturn C dX10_errorPosition_13 rfl rfl (by omega) (by omega) ?_
  exact (PoM_0 rfl rfl rfl hS2 hX2)

theorem dX10_load_0 : decode cX10_load 0 = .ok (.aload_n 0, 1) := by decide +kernel
theorem dX10_load_1 : decode cX10_load 1 = .ok (.aload_n 0, 1) := by decide +kernel
theorem dX10_load_2 : decode cX10_load 2 = .ok (.aload_n 0, 1) := by decide +kernel
theorem dX10_load_3 : decode cX10_load 3 = .ok (.getfield 16, 3) := by decide +kernel
theorem dX10_load_6 : decode cX10_load 6 = .ok (.invokevirtual 223, 3) := by decide +kernel
theorem dX10_load_9 : decode cX10_load 9 = .ok (.iconst (-1), 1) := by decide +kernel
theorem dX10_load_10 : decode cX10_load 10 = .ok (.if_icmp .ne 7, 3) := by decide +kernel
theorem dX10_load_13 : decode cX10_load 13 = .ok (.iconst 0, 1) := by decide +kernel
theorem dX10_load_14 : decode cX10_load 14 = .ok (.goto 4, 3) := by decide +kernel
theorem dX10_load_17 : decode cX10_load 17 = .ok (.iconst 1, 1) := by decide +kernel
theorem dX10_load_18 : decode cX10_load 18 = .ok (.invokevirtual 124, 3) := by decide +kernel
theorem dX10_load_21 : decode cX10_load 21 = .ok (.ifCond .eq 5, 3) := by decide +kernel
theorem dX10_load_24 : decode cX10_load 24 = .ok (.iconst 0, 1) := by decide +kernel
theorem dX10_load_25 : decode cX10_load 25 = .ok (.ireturn, 1) := by decide +kernel
theorem dX10_load_26 : decode cX10_load 26 = .ok (.aload_n 0, 1) := by decide +kernel
theorem dX10_load_27 : decode cX10_load 27 = .ok (.getfield 16, 3) := by decide +kernel
theorem dX10_load_30 : decode cX10_load 30 = .ok (.iconst 0, 1) := by decide +kernel
theorem dX10_load_31 : decode cX10_load 31 = .ok (.aload_n 0, 1) := by decide +kernel
theorem dX10_load_32 : decode cX10_load 32 = .ok (.getfield 13, 3) := by decide +kernel
theorem dX10_load_35 : decode cX10_load 35 = .ok (.iconst 0, 1) := by decide +kernel
theorem dX10_load_36 : decode cX10_load 36 = .ok (.invokestatic 226, 3) := by decide +kernel
theorem dX10_load_39 : decode cX10_load 39 = .ok (.aload_n 0, 1) := by decide +kernel
theorem dX10_load_40 : decode cX10_load 40 = .ok (.iconst 0, 1) := by decide +kernel
theorem dX10_load_41 : decode cX10_load 41 = .ok (.putfield 230, 3) := by decide +kernel
theorem dX10_load_44 : decode cX10_load 44 = .ok (.aload_n 0, 1) := by decide +kernel
theorem dX10_load_45 : decode cX10_load 45 = .ok (.getfield 25, 3) := by decide +kernel
theorem dX10_load_48 : decode cX10_load 48 = .ok (.iconst 0, 1) := by decide +kernel
theorem dX10_load_49 : decode cX10_load 49 = .ok (.iconst 0, 1) := by decide +kernel
theorem dX10_load_50 : decode cX10_load 50 = .ok (.bastore, 1) := by decide +kernel
theorem dX10_load_51 : decode cX10_load 51 = .ok (.aload_n 0, 1) := by decide +kernel
theorem dX10_load_52 : decode cX10_load 52 = .ok (.getfield 25, 3) := by decide +kernel
theorem dX10_load_55 : decode cX10_load 55 = .ok (.iconst 1, 1) := by decide +kernel
theorem dX10_load_56 : decode cX10_load 56 = .ok (.iconst 0, 1) := by decide +kernel
theorem dX10_load_57 : decode cX10_load 57 = .ok (.bastore, 1) := by decide +kernel
theorem dX10_load_58 : decode cX10_load 58 = .ok (.aload_n 0, 1) := by decide +kernel
theorem dX10_load_59 : decode cX10_load 59 = .ok (.getfield 131, 3) := by decide +kernel
theorem dX10_load_62 : decode cX10_load 62 = .ok (.ireturn, 1) := by decide +kernel
set_option maxRecDepth 100000 in
set_option maxHeartbeats 4000000 in
theorem c_X10_load (l : Launch) (G : GT) (n : Nat) (h : AH) (m : Nat) (rf : Int32) (y : Nat → Nat) (k : Nat) (D S : Nat → Nat → Nat) (sv : Nat → Bool) (N : Nat) (T : Nat → Nat) (hS : SysM m rf y k D S sv N T h) (hI : SI y k D S sv N T) : Ct l yX10_load cX10_load 1 (some .int) 10 0 0 G n h [.ref m] (PoM m n h (if fer T N = NO then 0 else 1) (nI (rdt T N N 1 (fun _ => 0) 0).2.2) (if fer T N = NO then (rdt T N N 1 (fun _ => 0) 0).2.1 else y) (if fer T N = NO then 0 else k) D S (if fer T N = NO then (fun _ => false) else sv) N T) := by
  have NE := NO_eq
  obtain ⟨⟨sp, ou, g1, hmx⟩, hx, ⟨yt, hxt⟩, ⟨gd, hgd, hdia⟩, ⟨gk, hgk, hkp⟩, ⟨gi, hgi, hik⟩, ⟨gf, hgf⟩⟩ := id hS
  obtain ⟨hNn, hm, hg1, hch⟩ := id hmx
  obtain ⟨hIy, hk14, hID, hIS, hN, hT⟩ := id hI
  obtain ⟨⟨i0, i1, i2, i3, i4⟩, iR, iU, iM, iS⟩ := id hIy
  refine Ct_of mX10_load.1 (Nat.le_of_ble_eq_true rfl) ?_
  intro p₀ e₀ s₀ m₀ as₀ bl₀ me₀ c₀ C hin
  refine V_Le (L' := [(0, .ref m)]) rfl ?_
  refine V_aload_n 1 C dX10_load_0 rfl rfl ?_
  refine V_aload_n 2 C dX10_load_1 rfl rfl ?_
  refine V_aload_n 3 C dX10_load_2 rfl rfl ?_
  refine V_get (k := 4) 6 C dX10_load_3 rfl fcX10 tw940 (by decide) rfl hm rfl ?_
  refine V_callV 9 C dX10_load_6 rfl mX10_readText tw997 fcX10 hm (c_X10_readText l G _ _ m N rf (nI k) sp ou T g1 hmx (m + 3) yt hxt (by omega) (by omega)) rfl rfl (by decide) ⟨by omega, by omega⟩ (Nat.le_of_ble_eq_true rfl) ?_
  rintro _ _ h2 ⟨rfl, rfl, q3, o3, y3, hq3, hIy3, eh2, hd3⟩
  have hm2 : h2 m = some (obM m rf (nI N) (nI k) (nI q3) (nI o3)) := by rw [eh2, HR_n (by omega)]; exact up_s _ _ _
  have hx23 : Row (m + 3) y3 h2 := by rw [eh2]; exact HR_row _ _ _
  have hF2 : ∀ a, (¬ a = m ∧ ¬ a = m + 3) → h2 a = h a := fun a ha => by rw [eh2, HR_n ha.2]; unfold mH; rw [up_n _ ha.1]
  have hS2 := hS.otr (h' := h2) (z' := y3) hm2 hx23 hF2
  have hX2 : FM m h h2 := fun a ha => hF2 a (by omega)
  have hfb := fer_b T N
  unfold NO at hfb
  refine V_iconst 10 C dX10_load_9 rfl icm1 ?_
  have J18 : ∀ (w9 : Nat) (hw9 : w9 ≤ 3) (hq : (w9 = 1 ∧ ¬ fer T N = NO) ∨ (w9 = 0 ∧ fer T N = NO)), V p₀ l e₀ (rmD 10 0 0) s₀ m₀ as₀ bl₀ me₀ c₀ (MQ bl₀ (Po G (PoM m n h (if fer T N = NO then 0 else 1) (nI (rdt T N N 1 (fun _ => 0) 0).2.2) (if fer T N = NO then (rdt T N N 1 (fun _ => 0) 0).2.1 else y) (if fer T N = NO then 0 else k) D S (if fer T N = NO then (fun _ => false) else sv) N T)) as₀ s₀ 0 0 (rg G)) G 1 0 0 n h2 18 [(0, .ref m)] [.int (nI w9), .ref m] := by
    intro w9 hw9 hq
    refine V_callV 21 C dX10_load_18 rfl mX10_refused tw985 fcX10 hm2 (c_X10_refused l G _ _ m rf (nI N) (nI k) (nI q3) (nI o3) hm2 w9 hw9) rfl rfl (by decide) ⟨by omega, by omega⟩ (Nat.le_of_ble_eq_true rfl) ?_
    rintro _ _ h4 ⟨rfl, rfl, eh4⟩
    have hm4 : h4 m = some (obM m (nI w9) (nI N) (nI k) (nI q3) (nI o3)) := by rw [eh4]; exact up_s _ _ _
    have hF4 : ∀ a, ¬ a = m → h4 a = h2 a := fun a ha => by rw [eh4]; exact up_n _ ha
    have hS4 := hS2.ob hm4 hF4
    have hX4 : FM m h h4 := fun a ha => (hF4 a (by omega)).trans (hX2 a ha)
    refine V_if_eqB 26 24 C dX10_load_21 (by decide) rfl  (fun cq21 => ?_) (fun cq21 => ?_)
    · obtain ⟨rfl, hk⟩ := hq.resolve_left (fun e => by omega)
      refine V_aload_n 27 C dX10_load_26 rfl rfl ?_
      refine V_get (k := 4) 30 C dX10_load_27 rfl fcX10 tw940 (by decide) rfl hm4 rfl ?_
      refine V_iconst 31 C dX10_load_30 rfl ic0 ?_
      refine V_aload_n 32 C dX10_load_31 rfl rfl ?_
      refine V_get (k := 3) 35 C dX10_load_32 rfl fcX10 tw939 (by decide) rfl hm4 rfl ?_
      refine V_iconst 36 C dX10_load_35 rfl ic0 ?_
      refine V_callS 39 C dX10_load_36 rfl mX10_copyState tw1154 (c_X10_copyState l G _ _ (m + 3) (m + 2) 0 0 130 130 (fun j => nI (y3 j)) (fun j => nI (y j)) (fun j => nI (y3 j)) ((hF4 _ (by omega)).trans hx23) ((hF4 _ (by omega)).trans ((hF2 _ (by omega)).trans hx)) (by omega) (by omega) (by omega) (by omega) (by omega) (fun t ht => rfl) (fun t ht hc => by omega)) rfl rfl (by decide) ⟨by omega, by omega⟩ (Nat.le_of_ble_eq_true rfl) ?_
      rintro _ _ h5 ⟨rfl, rfl, eh5⟩
      have hm5 : h5 m = some (obM m (nI 0) (nI N) (nI k) (nI q3) (nI o3)) := by rw [eh5, up_n _ (by omega)]; exact hm4
      have hS5 := hS4.now (h' := h5) (y' := y3) (by rw [eh5]; exact up_s _ _ _) (fun a ha => by rw [eh5]; exact up_n _ ha)
      have hgi5 : h5 (m + 6) = some (.inl (1, 2, .inl gi)) := by rw [eh5, up_n _ (by omega), hF4 _ (by omega), hF2 _ (by omega)]; exact hgi
      have hX5 : FM m h h5 := fun a ha => by rw [eh5, up_n _ (by omega)]; exact hX4 a ha
      refine V_aload_n 40 C dX10_load_39 rfl rfl ?_
      refine V_iconst 41 C dX10_load_40 rfl ic0 ?_
      refine V_put (fs' := [_, _, _, _, _, _, _, _, _, _, _, _]) (k := 6) 44 C dX10_load_41 rfl fcX10 tw942 (by decide) rfl rfl hm5 rfl rfl (Nat.le_of_ble_eq_true rfl) rfl ?_
      have hS6 := hS5.act (h' := up h5 m (obM m (nI 0) (nI N) (nI 0) (nI q3) (nI o3))) (k' := 0) (up_s _ _ _) (by omega) (fun a ha => up_n _ ha)
      refine V_aload_n 45 C dX10_load_44 rfl rfl ?_
      refine V_get (k := 8) 48 C dX10_load_45 rfl fcX10 tw944 (by decide) rfl (up_s _ _ _) rfl ?_
      refine V_iconst 49 C dX10_load_48 rfl ic0 ?_
      refine V_iconst 50 C dX10_load_49 rfl ic0 ?_
      refine V_zast (j := 0) 51 C dX10_load_50 rfl ((up_n _ (by omega)).trans hgi5) rfl (by omega) (by omega) ?_
      rw [bar0]
      refine V_aload_n 52 C dX10_load_51 rfl rfl ?_
      refine V_get (k := 8) 55 C dX10_load_52 rfl fcX10 tw944 (by decide) rfl ((up_n _ (by omega)).trans (up_s _ _ _)) rfl ?_
      refine V_iconst 56 C dX10_load_55 rfl ic1 ?_
      refine V_iconst 57 C dX10_load_56 rfl ic0 ?_
      refine V_zast (j := 1) 58 C dX10_load_57 rfl (up_s _ _ _) rfl (by omega) (by omega) ?_
      rw [bar0, up_up]
      refine V_aload_n 59 C dX10_load_58 rfl rfl ?_
      refine V_get (k := 11) 62 C dX10_load_59 rfl fcX10 tw947 (by decide) rfl ((up_n _ (by omega)).trans (up_s _ _ _)) rfl ?_
      refine V_ireturn C dX10_load_62 rfl rfl (by omega) (by omega) ?_
      exact (PoM_0 (if_pos hk) rfl (by rw [(hd3 hk).2]) (by rw [if_pos hk, if_pos hk, if_pos hk, ← (hd3 hk).1]; exact hS6.flg (sv' := fun _ => false) (up_s _ _ _) flg_0 (fun i hi e => by cases e) (fun a ha => up_n _ ha)) (fun a ha => by rw [up_n _ (by omega), up_n _ (by omega)]; exact hX5 a ha))
    · obtain ⟨rfl, hk⟩ := hq.resolve_right (fun e => by omega)
      refine V_iconst 25 C dX10_load_24 rfl ic0 ?_
      refine V_ireturn C dX10_load_25 rfl rfl (by omega) (by omega) ?_
      exact (PoM_k 1 (if_neg hk) (by decide) rfl (by rw [if_neg hk, if_neg hk, if_neg hk]; exact hS4) hX4)
  refine V_icmp_neN 17 13 C dX10_load_10 (by decide) rfl (by omega) (by omega) (fun cq10 => ?_) (fun cq10 => ?_)
  · refine V_iconst 18 C dX10_load_17 rfl ic1 ?_
    refine V_L [0] rfl ?_
    exact J18 1 (by omega) (Or.inl ⟨rfl, by omega⟩)
  · refine V_iconst 14 C dX10_load_13 rfl ic0 ?_
    refine V_goto 18 C dX10_load_14 (by decide) ?_
    refine V_L [0] rfl ?_
    exact J18 0 (by omega) (Or.inr ⟨rfl, by omega⟩)

theorem dX10_save_0 : decode cX10_save 0 = .ok (.aload_n 0, 1) := by decide +kernel
theorem dX10_save_1 : decode cX10_save 1 = .ok (.iload_n 1, 1) := by decide +kernel
theorem dX10_save_2 : decode cX10_save 2 = .ok (.i2l, 1) := by decide +kernel
theorem dX10_save_3 : decode cX10_save 3 = .ok (.lconst 0, 1) := by decide +kernel
theorem dX10_save_4 : decode cX10_save 4 = .ok (.lconst 1, 1) := by decide +kernel
theorem dX10_save_5 : decode cX10_save 5 = .ok (.invokestatic 40, 3) := by decide +kernel
theorem dX10_save_8 : decode cX10_save 8 = .ok (.ifCond .eq 7, 3) := by decide +kernel
theorem dX10_save_11 : decode cX10_save 11 = .ok (.iconst 0, 1) := by decide +kernel
theorem dX10_save_12 : decode cX10_save 12 = .ok (.goto 4, 3) := by decide +kernel
theorem dX10_save_15 : decode cX10_save 15 = .ok (.iconst 1, 1) := by decide +kernel
theorem dX10_save_16 : decode cX10_save 16 = .ok (.invokevirtual 124, 3) := by decide +kernel
theorem dX10_save_19 : decode cX10_save 19 = .ok (.ifCond .eq 5, 3) := by decide +kernel
theorem dX10_save_22 : decode cX10_save 22 = .ok (.iconst 0, 1) := by decide +kernel
theorem dX10_save_23 : decode cX10_save 23 = .ok (.ireturn, 1) := by decide +kernel
theorem dX10_save_24 : decode cX10_save 24 = .ok (.aload_n 0, 1) := by decide +kernel
theorem dX10_save_25 : decode cX10_save 25 = .ok (.getfield 13, 3) := by decide +kernel
theorem dX10_save_28 : decode cX10_save 28 = .ok (.iconst 0, 1) := by decide +kernel
theorem dX10_save_29 : decode cX10_save 29 = .ok (.aload_n 0, 1) := by decide +kernel
theorem dX10_save_30 : decode cX10_save 30 = .ok (.getfield 22, 3) := by decide +kernel
theorem dX10_save_33 : decode cX10_save 33 = .ok (.sipush 130, 3) := by decide +kernel
theorem dX10_save_36 : decode cX10_save 36 = .ok (.iload_n 1, 1) := by decide +kernel
theorem dX10_save_37 : decode cX10_save 37 = .ok (.imul, 1) := by decide +kernel
theorem dX10_save_38 : decode cX10_save 38 = .ok (.invokestatic 226, 3) := by decide +kernel
theorem dX10_save_41 : decode cX10_save 41 = .ok (.aload_n 0, 1) := by decide +kernel
theorem dX10_save_42 : decode cX10_save 42 = .ok (.getfield 25, 3) := by decide +kernel
theorem dX10_save_45 : decode cX10_save 45 = .ok (.iload_n 1, 1) := by decide +kernel
theorem dX10_save_46 : decode cX10_save 46 = .ok (.iconst 1, 1) := by decide +kernel
theorem dX10_save_47 : decode cX10_save 47 = .ok (.bastore, 1) := by decide +kernel
theorem dX10_save_48 : decode cX10_save 48 = .ok (.aload_n 0, 1) := by decide +kernel
theorem dX10_save_49 : decode cX10_save 49 = .ok (.getfield 13, 3) := by decide +kernel
theorem dX10_save_52 : decode cX10_save 52 = .ok (.iconst 5, 1) := by decide +kernel
theorem dX10_save_53 : decode cX10_save 53 = .ok (.iaload, 1) := by decide +kernel
theorem dX10_save_54 : decode cX10_save 54 = .ok (.ireturn, 1) := by decide +kernel
set_option maxRecDepth 100000 in
set_option maxHeartbeats 4000000 in
theorem c_X10_save (l : Launch) (G : GT) (n : Nat) (h : AH) (m : Nat) (rf : Int32) (y : Nat → Nat) (k : Nat) (D S : Nat → Nat → Nat) (sv : Nat → Bool) (N : Nat) (T : Nat → Nat) (hS : SysM m rf y k D S sv N T h) (hI : SI y k D S sv N T) (pq1 : Int32) : Ct l yX10_save cX10_save 2 (some .int) 8 0 0 G n h [.ref m, .int pq1] (PoM m n h (if ix pq1 2 then 0 else 1) (nI (y 5)) y k D (sA (if ix pq1 2 then 0 else 1) (z pq1) y S) (sB (if ix pq1 2 then 0 else 1) (z pq1) sv) N T) := by
  have NE := NO_eq
  obtain ⟨⟨sp, ou, g1, hmx⟩, hx, ⟨yt, hxt⟩, ⟨gd, hgd, hdia⟩, ⟨gk, hgk, hkp⟩, ⟨gi, hgi, hik⟩, ⟨gf, hgf⟩⟩ := id hS
  obtain ⟨hNn, hm, hg1, hch⟩ := id hmx
  obtain ⟨hIy, hk14, hID, hIS, hN, hT⟩ := id hI
  obtain ⟨⟨i0, i1, i2, i3, i4⟩, iR, iU, iM, iS⟩ := id hIy
  refine Ct_of mX10_save.1 (Nat.le_of_ble_eq_true rfl) ?_
  intro p₀ e₀ s₀ m₀ as₀ bl₀ me₀ c₀ C hin
  refine V_Le (L' := [(0, .ref m), (1, .int pq1)]) rfl ?_
  refine V_aload_n 1 C dX10_save_0 rfl rfl ?_
  have J16 : ∀ (w9 : Nat) (hw9 : w9 ≤ 3) (hq : (¬ w9 = 0 ∧ (if ix pq1 2 then 0 else 1) = w9) ∨ (w9 = 0 ∧ (if ix pq1 2 then 0 else 1) = 0 ∧ ix pq1 2)), V p₀ l e₀ (rmD 8 0 0) s₀ m₀ as₀ bl₀ me₀ c₀ (MQ bl₀ (Po G (PoM m n h (if ix pq1 2 then 0 else 1) (nI (y 5)) y k D (sA (if ix pq1 2 then 0 else 1) (z pq1) y S) (sB (if ix pq1 2 then 0 else 1) (z pq1) sv) N T)) as₀ s₀ 0 0 (rg G)) G 2 0 0 n h 16 [(0, .ref m), (1, .int pq1)] [.int (nI w9), .ref m] := by
    intro w9 hw9 hq
    refine V_callV 19 C dX10_save_16 rfl mX10_refused tw985 fcX10 hm (c_X10_refused l G _ _ m rf (nI N) (nI k) sp ou hm w9 hw9) rfl rfl (by decide) ⟨by omega, by omega⟩ (Nat.le_of_ble_eq_true rfl) ?_
    rintro _ _ h1 ⟨rfl, rfl, eh1⟩
    have hm1 : h1 m = some (obM m (nI w9) (nI N) (nI k) sp ou) := by rw [eh1]; exact up_s _ _ _
    have hF1 : ∀ a, ¬ a = m → h1 a = h a := fun a ha => by rw [eh1]; exact up_n _ ha
    have hS1 : SysM m (nI w9) y k D S sv N T h1 := hS.ob hm1 hF1
    have hX1 : FM m h h1 := fun a ha => hF1 a (by omega)
    have hx1 : Row (m + 2) y h1 := (hF1 _ (by omega)).trans hx
    refine V_if_eqB 24 22 C dX10_save_19 (by decide) rfl  (fun cq19 => ?_) (fun cq19 => ?_)
    · obtain ⟨rfl, hk0, hFF⟩ := hq.resolve_left (fun e => by omega)
      obtain ⟨j1, hj1, rfl⟩ := ix_of hFF (by omega)
      have z1 := zn (show j1 < 2 ^ 31 by omega)
      
      refine V_aload_n 25 C dX10_save_24 rfl rfl ?_
      refine V_get (k := 3) 28 C dX10_save_25 rfl fcX10 tw939 (by decide) rfl hm1 rfl ?_
      refine V_iconst 29 C dX10_save_28 rfl ic0 ?_
      refine V_aload_n 30 C dX10_save_29 rfl rfl ?_
      refine V_get (k := 7) 33 C dX10_save_30 rfl fcX10 tw943 (by decide) rfl hm1 rfl ?_
      refine V_sipush 36 C dX10_save_33 rfl sip130 ?_
      refine V_iload_n 37 C dX10_save_36 rfl rfl ?_
      refine V_imulN 38 C dX10_save_37 rfl  ?_
      refine V_callS 41 C dX10_save_38 rfl mX10_copyState tw1154 (c_X10_copyState l G _ _ (m + 2) (m + 5) 0 (130 * j1) 130 260 (fun j => nI (y j)) gk (kpt gk y j1) hx1 ((hF1 _ (by omega)).trans hgk) (by omega) (by omega) (by omega) (by omega) (by omega) (kpt_1 gk y j1) (kpt_2 gk y j1)) rfl rfl (by decide) ⟨by omega, by omega⟩ (Nat.le_of_ble_eq_true rfl) ?_
      rintro _ _ h2 ⟨rfl, rfl, eh2⟩
      have hm2 : h2 m = some (obM m (nI 0) (nI N) (nI k) sp ou) := by rw [eh2, up_n _ (by omega)]; exact hm1
      have hgi2 : h2 (m + 6) = some (.inl (1, 2, .inl gi)) := by rw [eh2, up_n _ (by omega), hF1 _ (by omega)]; exact hgi
      have hx2 : Row (m + 2) y h2 := by rw [eh2]; exact (up_n _ (by omega)).trans hx1
      refine V_aload_n 42 C dX10_save_41 rfl rfl ?_
      refine V_get (k := 8) 45 C dX10_save_42 rfl fcX10 tw944 (by decide) rfl hm2 rfl ?_
      refine V_iload_n 46 C dX10_save_45 rfl rfl ?_
      refine V_iconst 47 C dX10_save_46 rfl ic1 ?_
      refine V_zast (j := j1) 48 C dX10_save_47 rfl hgi2 rfl (by omega) (by omega) ?_
      rw [bar1]
      have hS3 := hS1.sav (h' := up h2 (m + 6) (.inl (1, 2, .inl (upd gi j1 (nI 1))))) (S' := fun i => if i = j1 then y else S i) (sv' := fun i => if i = j1 then true else sv i) ((up_n _ (by omega)).trans (by rw [eh2]; exact up_s _ _ _)) (kpt_3 hj1 hkp) (up_s _ _ _) (flg_3 hik) (fun a ha => (up_n _ ha.2).trans (by rw [eh2]; exact up_n _ ha.1))
      refine V_aload_n 49 C dX10_save_48 rfl rfl ?_
      refine V_get (k := 3) 52 C dX10_save_49 rfl fcX10 tw939 (by decide) rfl ((up_n _ (by omega)).trans hm2) rfl ?_
      refine V_iconst 53 C dX10_save_52 rfl ic5 ?_
      refine V_iald (j := 5) 54 C dX10_save_53 rfl ((up_n _ (by omega)).trans hx2) rfl (by omega) (by omega) ?_
      refine V_ireturn C dX10_save_54 rfl rfl (by omega) (by omega) ?_
      exact (by rw [hk0, z1]; exact PoM_0 rfl rfl rfl hS3 (fun a ha => by rw [up_n _ (by omega), eh2, up_n _ (by omega)]; exact hX1 a ha))
    · have hqn := (hq.resolve_right (fun e => by omega)).2
      refine V_iconst 23 C dX10_save_22 rfl ic0 ?_
      refine V_ireturn C dX10_save_23 rfl rfl (by omega) (by omega) ?_
      exact (PoM_k w9 hqn (by omega) rfl (by unfold sA sB; rw [if_neg (fun e => (show ¬ w9 = 0 from by omega) (hqn.symm.trans e)), if_neg (fun e => (show ¬ w9 = 0 from by omega) (hqn.symm.trans e))]; exact hS1) hX1)
  refine V_iload_n 2 C dX10_save_1 rfl rfl ?_
  refine V_i2l 3 C dX10_save_2 rfl  ?_
  refine V_lconst 4 C dX10_save_3 rfl rfl ?_
  refine V_lconst 5 C dX10_save_4 rfl rfl ?_
  refine V_callS 8 C dX10_save_5 rfl mX10_in tw982 (c_X10_in l G _ _ _ _ _) rfl rfl (by decide) ⟨by omega, by omega⟩ (Nat.le_of_ble_eq_true rfl) ?_
  rintro _ _ _ ⟨rfl, rfl, rfl⟩
  rw [inI (v := pq1) (lo := 0) (hi := 1) (by decide +kernel) (by decide +kernel)]
  refine V_if_eqB 15 11 C dX10_save_8 (by decide) rfl  (fun c8 => ?_) (fun c8 => ?_)
  · have hno : ¬ ix pq1 2 := fun e => c8 ⟨by have := e.1; omega, by have := e.2; omega⟩
    refine V_iconst 16 C dX10_save_15 rfl ic1 ?_
    refine V_L [0, 1] rfl ?_
    exact J16 1 (by omega) (Or.inl ⟨by decide, if_neg hno⟩)
  · have hw : ix pq1 2 := ⟨by have := c8.1; omega, by have := c8.2; omega⟩
    refine V_iconst 12 C dX10_save_11 rfl ic0 ?_
    refine V_goto 16 C dX10_save_12 (by decide) ?_
    refine V_L [0, 1] rfl ?_
    exact J16 0 (by omega) (Or.inr ⟨rfl, if_pos hw, hw⟩)

theorem dX10_restore_0 : decode cX10_restore 0 = .ok (.aload_n 0, 1) := by decide +kernel
theorem dX10_restore_1 : decode cX10_restore 1 = .ok (.iload_n 1, 1) := by decide +kernel
theorem dX10_restore_2 : decode cX10_restore 2 = .ok (.i2l, 1) := by decide +kernel
theorem dX10_restore_3 : decode cX10_restore 3 = .ok (.lconst 0, 1) := by decide +kernel
theorem dX10_restore_4 : decode cX10_restore 4 = .ok (.lconst 1, 1) := by decide +kernel
theorem dX10_restore_5 : decode cX10_restore 5 = .ok (.invokestatic 40, 3) := by decide +kernel
theorem dX10_restore_8 : decode cX10_restore 8 = .ok (.ifCond .ne 7, 3) := by decide +kernel
theorem dX10_restore_11 : decode cX10_restore 11 = .ok (.iconst 1, 1) := by decide +kernel
theorem dX10_restore_12 : decode cX10_restore 12 = .ok (.goto 17, 3) := by decide +kernel
theorem dX10_restore_15 : decode cX10_restore 15 = .ok (.aload_n 0, 1) := by decide +kernel
theorem dX10_restore_16 : decode cX10_restore 16 = .ok (.getfield 25, 3) := by decide +kernel
theorem dX10_restore_19 : decode cX10_restore 19 = .ok (.iload_n 1, 1) := by decide +kernel
theorem dX10_restore_20 : decode cX10_restore 20 = .ok (.baload, 1) := by decide +kernel
theorem dX10_restore_21 : decode cX10_restore 21 = .ok (.ifCond .ne 7, 3) := by decide +kernel
theorem dX10_restore_24 : decode cX10_restore 24 = .ok (.iconst 2, 1) := by decide +kernel
theorem dX10_restore_25 : decode cX10_restore 25 = .ok (.goto 4, 3) := by decide +kernel
theorem dX10_restore_28 : decode cX10_restore 28 = .ok (.iconst 0, 1) := by decide +kernel
theorem dX10_restore_29 : decode cX10_restore 29 = .ok (.invokevirtual 124, 3) := by decide +kernel
theorem dX10_restore_32 : decode cX10_restore 32 = .ok (.ifCond .eq 5, 3) := by decide +kernel
theorem dX10_restore_35 : decode cX10_restore 35 = .ok (.iconst 0, 1) := by decide +kernel
theorem dX10_restore_36 : decode cX10_restore 36 = .ok (.ireturn, 1) := by decide +kernel
theorem dX10_restore_37 : decode cX10_restore 37 = .ok (.aload_n 0, 1) := by decide +kernel
theorem dX10_restore_38 : decode cX10_restore 38 = .ok (.getfield 22, 3) := by decide +kernel
theorem dX10_restore_41 : decode cX10_restore 41 = .ok (.sipush 130, 3) := by decide +kernel
theorem dX10_restore_44 : decode cX10_restore 44 = .ok (.iload_n 1, 1) := by decide +kernel
theorem dX10_restore_45 : decode cX10_restore 45 = .ok (.imul, 1) := by decide +kernel
theorem dX10_restore_46 : decode cX10_restore 46 = .ok (.aload_n 0, 1) := by decide +kernel
theorem dX10_restore_47 : decode cX10_restore 47 = .ok (.getfield 13, 3) := by decide +kernel
theorem dX10_restore_50 : decode cX10_restore 50 = .ok (.iconst 0, 1) := by decide +kernel
theorem dX10_restore_51 : decode cX10_restore 51 = .ok (.invokestatic 226, 3) := by decide +kernel
theorem dX10_restore_54 : decode cX10_restore 54 = .ok (.aload_n 0, 1) := by decide +kernel
theorem dX10_restore_55 : decode cX10_restore 55 = .ok (.iconst 0, 1) := by decide +kernel
theorem dX10_restore_56 : decode cX10_restore 56 = .ok (.putfield 230, 3) := by decide +kernel
theorem dX10_restore_59 : decode cX10_restore 59 = .ok (.aload_n 0, 1) := by decide +kernel
theorem dX10_restore_60 : decode cX10_restore 60 = .ok (.getfield 13, 3) := by decide +kernel
theorem dX10_restore_63 : decode cX10_restore 63 = .ok (.iconst 5, 1) := by decide +kernel
theorem dX10_restore_64 : decode cX10_restore 64 = .ok (.iaload, 1) := by decide +kernel
theorem dX10_restore_65 : decode cX10_restore 65 = .ok (.ireturn, 1) := by decide +kernel
set_option maxRecDepth 100000 in
set_option maxHeartbeats 4000000 in
theorem c_X10_restore (l : Launch) (G : GT) (n : Nat) (h : AH) (m : Nat) (rf : Int32) (y : Nat → Nat) (k : Nat) (D S : Nat → Nat → Nat) (sv : Nat → Bool) (N : Nat) (T : Nat → Nat) (hS : SysM m rf y k D S sv N T h) (hI : SI y k D S sv N T) (pq1 : Int32) : Ct l yX10_restore cX10_restore 2 (some .int) 8 0 0 G n h [.ref m, .int pq1] (PoM m n h (if ix pq1 2 then (if sv (z pq1) = true then 0 else 2) else 1) (nI (S (z pq1) 5)) (if (if ix pq1 2 then (if sv (z pq1) = true then 0 else 2) else 1) = 0 then S (z pq1) else y) (if (if ix pq1 2 then (if sv (z pq1) = true then 0 else 2) else 1) = 0 then 0 else k) D S sv N T) := by
  have NE := NO_eq
  obtain ⟨⟨sp, ou, g1, hmx⟩, hx, ⟨yt, hxt⟩, ⟨gd, hgd, hdia⟩, ⟨gk, hgk, hkp⟩, ⟨gi, hgi, hik⟩, ⟨gf, hgf⟩⟩ := id hS
  obtain ⟨hNn, hm, hg1, hch⟩ := id hmx
  obtain ⟨hIy, hk14, hID, hIS, hN, hT⟩ := id hI
  obtain ⟨⟨i0, i1, i2, i3, i4⟩, iR, iU, iM, iS⟩ := id hIy
  refine Ct_of mX10_restore.1 (Nat.le_of_ble_eq_true rfl) ?_
  intro p₀ e₀ s₀ m₀ as₀ bl₀ me₀ c₀ C hin
  refine V_Le (L' := [(0, .ref m), (1, .int pq1)]) rfl ?_
  refine V_aload_n 1 C dX10_restore_0 rfl rfl ?_
  have J29 : ∀ (w9 : Nat) (hw9 : w9 ≤ 3) (hq : (¬ w9 = 0 ∧ (if ix pq1 2 then (if sv (z pq1) = true then 0 else 2) else 1) = w9) ∨ (w9 = 0 ∧ (if ix pq1 2 then (if sv (z pq1) = true then 0 else 2) else 1) = 0 ∧ ix pq1 2 ∧ sv (z pq1) = true)), V p₀ l e₀ (rmD 8 0 0) s₀ m₀ as₀ bl₀ me₀ c₀ (MQ bl₀ (Po G (PoM m n h (if ix pq1 2 then (if sv (z pq1) = true then 0 else 2) else 1) (nI (S (z pq1) 5)) (if (if ix pq1 2 then (if sv (z pq1) = true then 0 else 2) else 1) = 0 then S (z pq1) else y) (if (if ix pq1 2 then (if sv (z pq1) = true then 0 else 2) else 1) = 0 then 0 else k) D S sv N T)) as₀ s₀ 0 0 (rg G)) G 2 0 0 n h 29 [(0, .ref m), (1, .int pq1)] [.int (nI w9), .ref m] := by
    intro w9 hw9 hq
    refine V_callV 32 C dX10_restore_29 rfl mX10_refused tw985 fcX10 hm (c_X10_refused l G _ _ m rf (nI N) (nI k) sp ou hm w9 hw9) rfl rfl (by decide) ⟨by omega, by omega⟩ (Nat.le_of_ble_eq_true rfl) ?_
    rintro _ _ h1 ⟨rfl, rfl, eh1⟩
    have hm1 : h1 m = some (obM m (nI w9) (nI N) (nI k) sp ou) := by rw [eh1]; exact up_s _ _ _
    have hF1 : ∀ a, ¬ a = m → h1 a = h a := fun a ha => by rw [eh1]; exact up_n _ ha
    have hS1 : SysM m (nI w9) y k D S sv N T h1 := hS.ob hm1 hF1
    have hX1 : FM m h h1 := fun a ha => hF1 a (by omega)
    have hx1 : Row (m + 2) y h1 := (hF1 _ (by omega)).trans hx
    refine V_if_eqB 37 35 C dX10_restore_32 (by decide) rfl  (fun cq32 => ?_) (fun cq32 => ?_)
    · obtain ⟨rfl, hk0, hFF⟩ := hq.resolve_left (fun e => by omega)
      obtain ⟨f1, f2⟩ := hFF
      obtain ⟨j1, hj1, rfl⟩ := ix_of f1 (by omega)
      have z1 := zn (show j1 < 2 ^ 31 by omega)
      rw [z1] at f2
      refine V_aload_n 38 C dX10_restore_37 rfl rfl ?_
      refine V_get (k := 7) 41 C dX10_restore_38 rfl fcX10 tw943 (by decide) rfl hm1 rfl ?_
      refine V_sipush 44 C dX10_restore_41 rfl sip130 ?_
      refine V_iload_n 45 C dX10_restore_44 rfl rfl ?_
      refine V_imulN 46 C dX10_restore_45 rfl  ?_
      refine V_aload_n 47 C dX10_restore_46 rfl rfl ?_
      refine V_get (k := 3) 50 C dX10_restore_47 rfl fcX10 tw939 (by decide) rfl hm1 rfl ?_
      refine V_iconst 51 C dX10_restore_50 rfl ic0 ?_
      refine V_callS 54 C dX10_restore_51 rfl mX10_copyState tw1154 (c_X10_copyState l G _ _ (m + 5) (m + 2) (130 * j1) 0 260 130 gk (fun j => nI (y j)) (fun j => nI (S j1 j)) ((hF1 _ (by omega)).trans hgk) hx1 (by omega) (by omega) (by omega) (by omega) (by omega) (fun t ht => by rw [Nat.zero_add]; exact (hkp j1 hj1 f2 t ht).symm) (fun t ht hc => by omega)) rfl rfl (by decide) ⟨by omega, by omega⟩ (Nat.le_of_ble_eq_true rfl) ?_
      rintro _ _ h2 ⟨rfl, rfl, eh2⟩
      have hm2 : h2 m = some (obM m (nI 0) (nI N) (nI k) sp ou) := by rw [eh2, up_n _ (by omega)]; exact hm1
      have hx2 : Row (m + 2) (S j1) h2 := by rw [eh2]; exact up_s _ _ _
      have hS2 := hS1.now (h' := h2) (y' := S j1) hx2 (fun a ha => by rw [eh2]; exact up_n _ ha)
      refine V_aload_n 55 C dX10_restore_54 rfl rfl ?_
      refine V_iconst 56 C dX10_restore_55 rfl ic0 ?_
      refine V_put (fs' := [_, _, _, _, _, _, _, _, _, _, _, _]) (k := 6) 59 C dX10_restore_56 rfl fcX10 tw942 (by decide) rfl rfl hm2 rfl rfl (Nat.le_of_ble_eq_true rfl) rfl ?_
      have hS3 := hS2.act (h' := up h2 m (obM m (nI 0) (nI N) (nI 0) sp ou)) (k' := 0) (up_s _ _ _) (by omega) (fun a ha => up_n _ ha)
      refine V_aload_n 60 C dX10_restore_59 rfl rfl ?_
      refine V_get (k := 3) 63 C dX10_restore_60 rfl fcX10 tw939 (by decide) rfl (up_s _ _ _) rfl ?_
      refine V_iconst 64 C dX10_restore_63 rfl ic5 ?_
      refine V_iald (j := 5) 65 C dX10_restore_64 rfl ((up_n _ (by omega)).trans hx2) rfl (by omega) (by omega) ?_
      refine V_ireturn C dX10_restore_65 rfl rfl (by omega) (by omega) ?_
      exact (by rw [hk0, z1, if_pos rfl, if_pos rfl]; exact PoM_0 rfl rfl rfl hS3 (fun a ha => by rw [up_n _ (by omega), eh2, up_n _ (by omega)]; exact hX1 a ha))
    · have hqn := (hq.resolve_right (fun e => by omega)).2
      refine V_iconst 36 C dX10_restore_35 rfl ic0 ?_
      refine V_ireturn C dX10_restore_36 rfl rfl (by omega) (by omega) ?_
      exact (PoM_k w9 hqn (by omega) rfl (by rw [if_neg (fun e => (show ¬ w9 = 0 from by omega) (hqn.symm.trans e)), if_neg (fun e => (show ¬ w9 = 0 from by omega) (hqn.symm.trans e))]; exact hS1) hX1)
  refine V_iload_n 2 C dX10_restore_1 rfl rfl ?_
  refine V_i2l 3 C dX10_restore_2 rfl  ?_
  refine V_lconst 4 C dX10_restore_3 rfl rfl ?_
  refine V_lconst 5 C dX10_restore_4 rfl rfl ?_
  refine V_callS 8 C dX10_restore_5 rfl mX10_in tw982 (c_X10_in l G _ _ _ _ _) rfl rfl (by decide) ⟨by omega, by omega⟩ (Nat.le_of_ble_eq_true rfl) ?_
  rintro _ _ _ ⟨rfl, rfl, rfl⟩
  rw [inI (v := pq1) (lo := 0) (hi := 1) (by decide +kernel) (by decide +kernel)]
  refine V_if_neB 15 11 C dX10_restore_8 (by decide) rfl  (fun c8 => ?_) (fun c8 => ?_)
  · have hw : ix pq1 2 := ⟨by have := c8.1; omega, by have := c8.2; omega⟩
    have cc := hw
    obtain ⟨j1, hj1, rfl⟩ := ix_of hw (by omega)
    have z1 := zn (show j1 < 2 ^ 31 by omega)
    have hb1 := Bool.toNat_le (sv j1)
    refine V_aload_n 16 C dX10_restore_15 rfl rfl ?_
    refine V_get (k := 8) 19 C dX10_restore_16 rfl fcX10 tw944 (by decide) rfl hm rfl ?_
    refine V_iload_n 20 C dX10_restore_19 rfl rfl ?_
    refine V_zald (j := j1) 21 C dX10_restore_20 rfl hgi rfl (by omega) (by omega) ?_
    rw [hik j1 hj1]
    refine V_if_neN 28 24 C dX10_restore_21 (by decide) rfl (by omega) (fun cq21 => ?_) (fun cq21 => ?_)
    · have hsv : sv j1 = true := by cases e : sv j1 with | true => rfl | false => rw [e] at cq21; exact absurd rfl cq21
      refine V_iconst 29 C dX10_restore_28 rfl ic0 ?_
      refine V_L [0, 1] rfl ?_
      exact J29 0 (by omega) (Or.inr ⟨rfl, by rw [if_pos cc, z1, if_pos hsv], ⟨cc, by rw [z1]; exact hsv⟩⟩)
    · have hsv : ¬ sv j1 = true := fun e => by rw [e] at cq21; exact absurd cq21 (by decide)
      refine V_iconst 25 C dX10_restore_24 rfl ic2 ?_
      refine V_goto 29 C dX10_restore_25 (by decide) ?_
      refine V_L [0, 1] rfl ?_
      exact J29 2 (by omega) (Or.inl ⟨by decide, by rw [if_pos cc, z1, if_neg hsv]⟩)
  · have hno : ¬ ix pq1 2 := fun e => c8 ⟨by have := e.1; omega, by have := e.2; omega⟩
    refine V_iconst 12 C dX10_restore_11 rfl ic1 ?_
    refine V_goto 29 C dX10_restore_12 (by decide) ?_
    refine V_L [0, 1] rfl ?_
    exact J29 1 (by omega) (Or.inl ⟨by decide, if_neg hno⟩)

