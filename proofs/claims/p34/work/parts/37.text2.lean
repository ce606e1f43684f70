/-! THE TEXT: commands, and what the reference reads -/
/-- the reader wherever it stands -/
def tx0 (X : Nat) (T : Nat → Nat) (N : Nat) (a0 lt : Int32) (f g : Nat → Int32) (h : AH) : Prop := N ≤ 120 ∧ h X = some (txo X (nI N) a0 lt) ∧ h (X + 1) = some (aC f) ∧ h (X + 2) = some (a3 g) ∧ ∀ i, i < N → f i = nI (T i) ∧ T i < 256
theorem tx_0 {X N p : Nat} {T : Nat → Nat} {lt : Int32} {f g : Nat → Int32} {h : AH} (ht : tx X T N p lt f g h) : tx0 X T N (nI p) lt f g h := ⟨ht.1.1, ht.2⟩
theorem tH_tx0 {X N q : Nat} {T : Nat → Nat} {a0 lt lt' : Int32} {f g : Nat → Int32} {h : AH} (ht : tx0 X T N a0 lt f g h) (g' : Nat → Int32) (hq : q ≤ N) : tx X T N q lt' f g' (tH h X N q lt' g') := by
  obtain ⟨h0, h1, h2, h3, h4⟩ := ht
  unfold tH
  exact ⟨⟨h0, hq⟩, by rw [up_n _ (by omega)]; exact up_s _ _ _, by rw [up_n _ (by omega), up_n _ (by omega)]; exact h2, up_s _ _ _, h4⟩
theorem tH_ob0 {X N q : Nat} {T : Nat → Nat} {a0 lt lt' : Int32} {f g : Nat → Int32} {h : AH} (ht : tx0 X T N a0 lt f g h) : up h X (txo X (nI N) (nI q) lt') = tH h X N q lt' g := by
  unfold tH
  exact (up_id (by rw [up_n _ (by omega)]; exact ht.2.2.2.1)).symm
theorem tx0_fr {X N : Nat} {T : Nat → Nat} {a0 lt : Int32} {f g : Nat → Int32} {h h' : AH} (ht : tx0 X T N a0 lt f g h) (hF : ∀ a, X ≤ a → a < X + 3 → h' a = h a) : tx0 X T N a0 lt f g h' := by
  obtain ⟨h0, h1, h2, h3, h4⟩ := ht
  exact ⟨h0, by rw [hF _ (by omega) (by omega)]; exact h1, by rw [hF _ (by omega) (by omega)]; exact h2, by rw [hF _ (by omega) (by omega)]; exact h3, h4⟩
theorem dX0_isFull_0 : decode cX0_isFull 0 = .ok (.aload_n 0, 1) := by decide +kernel
theorem dX0_isFull_1 : decode cX0_isFull 1 = .ok (.getfield 19, 3) := by decide +kernel
theorem dX0_isFull_4 : decode cX0_isFull 4 = .ok (.bipush 120, 2) := by decide +kernel
theorem dX0_isFull_6 : decode cX0_isFull 6 = .ok (.if_icmp .lt 7, 3) := by decide +kernel
theorem dX0_isFull_9 : decode cX0_isFull 9 = .ok (.iconst 1, 1) := by decide +kernel
theorem dX0_isFull_10 : decode cX0_isFull 10 = .ok (.goto 4, 3) := by decide +kernel
theorem dX0_isFull_13 : decode cX0_isFull 13 = .ok (.iconst 0, 1) := by decide +kernel
theorem dX0_isFull_14 : decode cX0_isFull 14 = .ok (.ireturn, 1) := by decide +kernel
set_option maxRecDepth 100000 in
set_option maxHeartbeats 4000000 in
theorem c_X0_isFull (l : Launch) (G : GT) (n : Nat) (h : AH) (X N : Nat) (T : Nat → Nat) (a0 lt : Int32) (f g : Nat → Int32) (hT : tx0 X T N a0 lt f g h) : Ct l yX0_isFull cX0_isFull 1 (some .boolean) 1 0 0 G n h [.ref X] (Rt (nI (bp (120 ≤ N))) n h) := by
  obtain ⟨hN, hX, hf, hg, hch⟩ := id hT
  refine Ct_of mX0_isFull.1 (Nat.le_of_ble_eq_true rfl) ?_
  intro p₀ e₀ s₀ m₀ as₀ bl₀ me₀ c₀ C hin
  refine V_Le (L' := [(0, .ref X)]) rfl ?_
  refine V_aload_n 1 C dX0_isFull_0 rfl rfl ?_
  refine V_get (k := 2) 4 C dX0_isFull_1 rfl fcX0 tw213 (by decide) rfl hX rfl ?_
  refine V_bipush 6 C dX0_isFull_4 rfl bip120 ?_
  refine V_icmp_ltN 13 9 C dX0_isFull_6 (by decide) rfl (by omega) (by omega) (fun c6 => ?_) (fun c6 => ?_)
  · have e1 : bp (120 ≤ N) = 0 := bp_f (by omega)
    refine V_iconst 14 C dX0_isFull_13 rfl ic0 ?_
    refine V_ireturn C dX0_isFull_14 rfl (by decide) (by omega) (by omega) ?_
    exact (Rt_mk (by omega))
  · have e1 : bp (120 ≤ N) = 1 := bp_t (by omega)
    refine V_iconst 10 C dX0_isFull_9 rfl ic1 ?_
    refine V_goto 14 C dX0_isFull_10 (by decide) ?_
    refine V_ireturn C dX0_isFull_14 rfl (by decide) (by omega) (by omega) ?_
    exact (Rt_mk (by omega))

theorem dX0_add_0 : decode cX0_add 0 = .ok (.aload_n 0, 1) := by decide +kernel
theorem dX0_add_1 : decode cX0_add 1 = .ok (.getfield 9, 3) := by decide +kernel
theorem dX0_add_4 : decode cX0_add 4 = .ok (.aload_n 0, 1) := by decide +kernel
theorem dX0_add_5 : decode cX0_add 5 = .ok (.getfield 19, 3) := by decide +kernel
theorem dX0_add_8 : decode cX0_add 8 = .ok (.iload_n 1, 1) := by decide +kernel
theorem dX0_add_9 : decode cX0_add 9 = .ok (.castore, 1) := by decide +kernel
theorem dX0_add_10 : decode cX0_add 10 = .ok (.aload_n 0, 1) := by decide +kernel
theorem dX0_add_11 : decode cX0_add 11 = .ok (.dup, 1) := by decide +kernel
theorem dX0_add_12 : decode cX0_add 12 = .ok (.getfield 19, 3) := by decide +kernel
theorem dX0_add_15 : decode cX0_add 15 = .ok (.iconst 1, 1) := by decide +kernel
theorem dX0_add_16 : decode cX0_add 16 = .ok (.iadd, 1) := by decide +kernel
theorem dX0_add_17 : decode cX0_add 17 = .ok (.putfield 19, 3) := by decide +kernel
theorem dX0_add_20 : decode cX0_add 20 = .ok (.aload_n 0, 1) := by decide +kernel
theorem dX0_add_21 : decode cX0_add 21 = .ok (.getfield 19, 3) := by decide +kernel
theorem dX0_add_24 : decode cX0_add 24 = .ok (.ireturn, 1) := by decide +kernel
set_option maxRecDepth 100000 in
set_option maxHeartbeats 4000000 in
theorem c_X0_add (l : Launch) (G : GT) (n : Nat) (h : AH) (X N : Nat) (T : Nat → Nat) (a0 lt : Int32) (f g : Nat → Int32) (hT : tx0 X T N a0 lt f g h) (ch : Nat) (hc : ch < 256) (h120 : N < 120) : Ct l yX0_add cX0_add 2 (some .int) 1 0 0 G n h [.ref X, .int (nI ch)] (Ri (nI (N + 1)) n (fun h' => h' = up (up h (X + 1) (aC (upd f N (nI ch)))) X (txo X (nI (N + 1)) a0 lt))) := by
  obtain ⟨hN, hX, hf, hg, hch⟩ := id hT
  have ec : vp_nar .char (nI ch) = nI ch := by have := nar_c hc; exact Value.int.inj this
  refine Ct_of mX0_add.1 (Nat.le_of_ble_eq_true rfl) ?_
  intro p₀ e₀ s₀ m₀ as₀ bl₀ me₀ c₀ C hin
  refine V_Le (L' := [(0, .ref X), (1, .int (nI ch))]) rfl ?_
  refine V_aload_n 1 C dX0_add_0 rfl rfl ?_
  refine V_get (k := 0) 4 C dX0_add_1 rfl fcX0 tw211 (by decide) rfl hX rfl ?_
  refine V_aload_n 5 C dX0_add_4 rfl rfl ?_
  refine V_get (k := 2) 8 C dX0_add_5 rfl fcX0 tw213 (by decide) rfl hX rfl ?_
  refine V_iload_n 9 C dX0_add_8 rfl rfl ?_
  refine V_cast (j := N) 10 C dX0_add_9 rfl hf rfl (by omega) (by omega) ?_
  rw [ec]
  have hX2 : (up h (X + 1) (aC (upd f N (nI ch)))) X = _ := (up_n _ (by omega)).trans hX
  refine V_aload_n 11 C dX0_add_10 rfl rfl ?_
  refine V_dup 12 C dX0_add_11 rfl rfl ?_
  refine V_get (k := 2) 15 C dX0_add_12 rfl fcX0 tw213 (by decide) rfl hX2 rfl ?_
  refine V_iconst 16 C dX0_add_15 rfl ic1 ?_
  refine V_iaddN 17 C dX0_add_16 rfl  ?_
  refine V_put (fs' := [_, _, _, _, _]) (k := 2) 20 C dX0_add_17 rfl fcX0 tw213 (by decide) rfl rfl hX2 rfl rfl (Nat.le_of_ble_eq_true rfl) rfl ?_
  refine V_aload_n 21 C dX0_add_20 rfl rfl ?_
  refine V_get (k := 2) 24 C dX0_add_21 rfl fcX0 tw213 (by decide) rfl (up_s _ _ _) rfl ?_
  refine V_ireturn C dX0_add_24 rfl rfl (by omega) (by omega) ?_
  exact ⟨rfl, rfl, rfl⟩

