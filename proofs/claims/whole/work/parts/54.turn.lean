/-! TURNS: what is refused doesn't count -/
theorem ys6 {y : Nat → Nat} {j v w : Nat} (h : ¬ j = 6) : ys (ys y 6 v) j w = ys (ys y j w) 6 v := by
  funext i
  unfold ys
  by_cases e : i = j
  · subst e
    rw [if_pos rfl, if_neg h, if_pos rfl]
  · rw [if_neg e]
    by_cases e2 : i = 6
    · rw [if_pos e2, if_pos e2]
    · rw [if_neg e2, if_neg e2, if_neg e]
theorem ysys {y : Nat → Nat} {j v w : Nat} : ys (ys y j v) j w = ys y j w := by
  funext i
  unfold ys
  split <;> rfl
theorem tof6 (y : Nat → Nat) (v r : Nat) : tof (ys y 6 v) r = tof y r := by unfold tof; simp (disch := omega) only [ys_n]
theorem pof6 (y : Nat → Nat) (v s : Nat) : pof (ys y 6 v) s = pof y s := by unfold pof; simp (disch := omega) only [ys_n, tof6]
theorem cark6 (y : Nat → Nat) (v r : Nat) : ∀ k, cark (ys y 6 v) r k = cark y r k
  | 0 => rfl
  | k + 1 => by simp (disch := omega) only [cark, cark6 y v r k, ys_n]
theorem car6 (y : Nat → Nat) (v r : Nat) : car (ys y 6 v) r = car y r := by unfold car; rw [cark6, ys_n _ (by omega)]
theorem ink6 (y : Nat → Nat) (v s k : Nat) : ink (ys y 6 v) s k = ink y s k := by unfold ink; simp (disch := omega) only [ys_n]
theorem rof6 (y : Nat → Nat) (v s : Nat) : rof (ys y 6 v) s = rof y s := by unfold rof; simp (disch := omega) only [ys_n]
theorem ers6 (y : Nat → Nat) (v s k : Nat) : ers (ys y 6 v) s k = ers y s k := by unfold ers; simp (disch := omega) only [ys_n, ink6]
theorem allk6 (y : Nat → Nat) (v : Nat) : ∀ k, allk (ys y 6 v) k = allk y k
  | 0 => rfl
  | k + 1 => by simp only [allk, allk6 y v k, ers6]
theorem blk6 (y : Nat → Nat) (v : Nat) : ∀ k, blk (ys y 6 v) k = blk y k
  | 0 => rfl
  | k + 1 => by simp (disch := omega) only [blk, blk6 y v k, ys_n]
theorem rinb6 (y : Nat → Nat) (v t b : Nat) : ∀ k, rinb (ys y 6 v) t b k = rinb y t b k
  | 0 => rfl
  | k + 1 => by simp only [rinb, rinb6 y v t b k, tof6]
theorem crs6 (y : Nat → Nat) (v s : Nat) : crs (ys y 6 v) s = crs y s := by unfold crs; simp (disch := omega) only [ys_n, pof6, rinb6]
theorem prs6 (y : Nat → Nat) (v a b c : Nat) : prs (ys y 6 v) a b c = prs y a b c := by unfold prs; simp (disch := omega) only [ys_n, pof6, rinb6]
theorem twOn6 (y : Nat → Nat) (v : Nat) : twOn (ys y 6 v) = ys (twOn y) 6 v := by unfold twOn; simp (disch := omega) only [ys_n, ys6]
theorem rdOn6 (y : Nat → Nat) (v a b c : Nat) : rdOn (ys y 6 v) a b c = ys (rdOn y a b c) 6 v := by unfold rdOn y3; simp (disch := omega) only [ys_n, ys6]
theorem ruOn6 (y : Nat → Nat) (v t : Nat) : ruOn (ys y 6 v) t = ys (ruOn y t) 6 v := by unfold ruOn y3; simp (disch := omega) only [ys_n, ys6]
theorem shOn6 (y : Nat → Nat) (v m d f t : Nat) : shOn (ys y 6 v) m d f t = ys (shOn y m d f t) 6 v := by unfold shOn s6; simp (disch := omega) only [ys_n, ys6]
theorem wrP6 (y : Nat → Nat) (v d : Nat) : wrP (ys y 6 v) d = ys (wrP y d) 6 v := by unfold wrP; simp (disch := omega) only [ys_n, ys6]
theorem wrOn6 (y : Nat → Nat) (v t d f : Nat) : wrOn (ys y 6 v) t d f = ys (wrOn y t d f) 6 v := by unfold wrOn; rw [wrP6, shOn6, ys_n _ (by omega)]
theorem tkOn6 (y : Nat → Nat) (v r s : Nat) : tkOn (ys y 6 v) r s = ys (tkOn y r s) 6 v := by unfold tkOn; simp (disch := omega) only [ys6]
theorem lyOn6 (y : Nat → Nat) (v s : Nat) : lyOn (ys y 6 v) s = ys (lyOn y s) 6 v := by unfold lyOn; simp (disch := omega) only [ys6, pof6]
theorem goT6 (y : Nat → Nat) (v r w : Nat) : goT (ys y 6 v) r w = goT y r w := by unfold goT; simp (disch := omega) only [ys_n, tof6]
theorem gOn6 (y : Nat → Nat) (v r w : Nat) : gOn (ys y 6 v) r w = ys (gOn y r w) 6 v := by unfold gOn; simp (disch := omega) only [ys_n, ys6, goT6]
theorem inkk6 (y : Nat → Nat) (v : Nat) : ∀ k, inkk (ys y 6 v) k = ys (inkk y k) 6 v
  | 0 => rfl
  | k + 1 => by simp (disch := omega) only [inkk, inkk6 y v k, ink6, ys6]
theorem hrI6 (y : Nat → Nat) (v : Nat) : hrI (ys y 6 v) = ys (hrI y) 6 v := by unfold hrI; simp (disch := omega) only [ys_n, ys6, inkk6]
theorem walk16 (y : Nat → Nat) (v r : Nat) : walk1 (ys y 6 v) r = ys (walk1 y r) 6 v := by
  unfold walk1 walk0
  simp (disch := omega) only [ys_n, ys6]
  split <;> rfl
theorem walkk6 (y : Nat → Nat) (v : Nat) : ∀ k, walkk (ys y 6 v) k = ys (walkk y k) 6 v
  | 0 => rfl
  | k + 1 => by simp only [walkk, walkk6 y v k, walk16]
theorem hr6 (y : Nat → Nat) (v : Nat) : hr (ys y 6 v) = ys (hr y) 6 v := by unfold hr; rw [hrI6, walkk6, ys_n _ (by omega)]
theorem hrs6 (y : Nat → Nat) (v : Nat) : ∀ k, hrs (ys y 6 v) k = ys (hrs y k) 6 v
  | 0 => rfl
  | k + 1 => by simp only [hrs, hrs6 y v k, hr6]
theorem comek6 (y : Nat → Nat) (v : Nat) : ∀ k, comek (ys y 6 v) k = comek y k
  | 0 => rfl
  | k + 1 => by simp (disch := omega) only [comek, comek6 y v k, ys_n]
theorem coms6 (y : Nat → Nat) (v : Nat) : ∀ k, coms (ys y 6 v) k = coms y k
  | 0 => rfl
  | k + 1 => by simp (disch := omega) only [coms, coms6 y v k, hrs6, comek6, ys_n]
def p6 (x : Ar) (v : Nat) : Ar := (x.1, ys x.2 6 v)
theorem aTw6 (y : Nat → Nat) (v : Nat) : aTw (ys y 6 v) = p6 (aTw y) v := by
  unfold aTw p6
  simp (disch := omega) only [ys_n, twOn6]
  split <;> rfl
theorem aRd6 (y : Nat → Nat) (v : Nat) (a b w : Int32) : aRd (ys y 6 v) a b w = p6 (aRd y a b w) v := by
  unfold aRd p6
  simp (disch := omega) only [ys_n, rdOn6]
  repeat' split
  all_goals rfl
theorem aRu6 (y : Nat → Nat) (v : Nat) (t : Int32) : aRu (ys y 6 v) t = p6 (aRu y t) v := by
  unfold aRu p6
  simp (disch := omega) only [ys_n, ruOn6]
  repeat' split
  all_goals rfl
theorem aWr6 (y : Nat → Nat) (v : Nat) (t d f : Int32) : aWr (ys y 6 v) t d f = p6 (aWr y t d f) v := by
  unfold aWr p6
  simp (disch := omega) only [ys_n, wrOn6]
  repeat' split
  all_goals rfl
theorem aTk6 (y : Nat → Nat) (v : Nat) (r s : Int32) : aTk (ys y 6 v) r s = p6 (aTk y r s) v := by
  unfold aTk p6
  simp (disch := omega) only [ys_n, tkOn6, tof6, pof6, car6]
  repeat' split
  all_goals rfl
theorem aLy6 (y : Nat → Nat) (v : Nat) (s : Int32) : aLy (ys y 6 v) s = p6 (aLy y s) v := by
  unfold aLy p6
  simp (disch := omega) only [ys_n, lyOn6, pof6]
  repeat' split
  all_goals rfl
theorem aGo6 (y : Nat → Nat) (v : Nat) (r w : Int32) : aGo (ys y 6 v) r w = p6 (aGo y r w) v := by
  unfold aGo p6
  simp (disch := omega) only [ys_n, gOn6, tof6, goT6]
  repeat' split
  all_goals rfl
theorem cpC6 (y : Nat → Nat) (v s f : Nat) : cpC (ys y 6 v) s f = ys (cpC y s f) 6 v := by
  unfold cpC
  simp (disch := omega) only [ys_n, crs6, shOn6, rof6, pof6]
  split <;> rfl
theorem prC6 (y : Nat → Nat) (v a b c f : Nat) : prC (ys y 6 v) a b c f = ys (prC y a b c f) 6 v := by
  unfold prC
  simp (disch := omega) only [ys_n, prs6, shOn6, rof6, pof6]
  split <;> rfl
theorem aCp6 (y : Nat → Nat) (v : Nat) (s f : Int32) : aCp (ys y 6 v) s f = p6 (aCp y s f) v := by
  unfold aCp p6
  simp (disch := omega) only [ys_n, cpC6, crs6]
  repeat' split
  all_goals rfl
theorem aPr6 (y : Nat → Nat) (v : Nat) (a b c f : Int32) : aPr (ys y 6 v) a b c f = p6 (aPr y a b c f) v := by
  unfold aPr p6
  simp (disch := omega) only [ys_n, prC6, prs6]
  repeat' split
  all_goals rfl
theorem aHr6 (y : Nat → Nat) (v : Nat) (k : Int32) : aHr (ys y 6 v) k = p6 (aHr y k) v := by
  unfold aHr p6
  simp only [coms6, hrs6]
  split <;> rfl
theorem tnA6 (w q : Nat) (y : Nat → Nat) (v : Nat) : tnA w q (ys y 6 v) = p6 (tnA w q y) v := by
  by_cases h0 : w = 0
  · rw [tn_0 h0, tn_0 h0, aTw6]
  by_cases h1 : w = 1 ∨ w = 2
  · rw [tn_1 h1, tn_1 h1, aRd6]
  by_cases h2 : w = 3
  · rw [tn_2 h2, tn_2 h2, aRu6]
  by_cases h3 : w = 4
  · rw [tn_3 h3, tn_3 h3, aWr6]
  by_cases h4 : w = 5 ∨ w = 6
  · rw [tn_4 h4, tn_4 h4, aTk6]
  by_cases h5 : w = 7
  · rw [tn_5 h5, tn_5 h5, aLy6]
  by_cases h6 : w = 8 ∨ w = 9 ∨ w = 10
  · rw [tn_6 h6, tn_6 h6, aGo6]
  by_cases h7 : w = 11 ∨ w = 12
  · rw [tn_7 h7, tn_7 h7, aCp6]
  by_cases h8 : w = 13
  · rw [tn_8 h8, tn_8 h8, aPr6]
  rw [tn_9 (by omega), tn_9 (by omega), aHr6]
/-- the reference's copies and proofs of a turn, which count what is refused -/
def tnW (w q : Nat) (y : Nat → Nat) : Nat → Nat := if w < 13 then (if ix (nI (q % 12)) (y 4) then cpOn y (q % 12) (q / 16 % 10) else y) else (if (ix (nI (q % 12)) (y 4) ∧ ix (nI (q / 16 % 12)) (y 4) ∧ ix (nI (q / 256 % 12)) (y 4)) ∧ (¬ q % 12 = q / 16 % 12 ∧ ¬ q % 12 = q / 256 % 12 ∧ ¬ q / 16 % 12 = q / 256 % 12 ∧ y (58 + 6 * (q % 12)) = y (58 + 6 * (q / 16 % 12)) ∧ y (58 + 6 * (q % 12)) = y (58 + 6 * (q / 256 % 12))) then prOn y (q % 12) (q / 16 % 12) (q / 256 % 12) (q % 10) else y)
theorem cpOn6 (y : Nat → Nat) (u s f : Nat) : ∃ v, cpOn (ys y 6 u) s f = ys (cpC y s f) 6 v := by
  unfold cpOn cpC
  rw [crs6]
  by_cases h : crs y s = 0
  · rw [if_pos h, if_pos h, shOn6, rof6, pof6, ys_n _ (by omega)]
    exact ⟨u, rfl⟩
  · rw [if_neg h, if_neg h]
    unfold rfOn
    exact ⟨_, ysys⟩
theorem prOn6 (y : Nat → Nat) (u a b c f : Nat) : ∃ v, prOn (ys y 6 u) a b c f = ys (prC y a b c f) 6 v := by
  unfold prOn prC
  rw [prs6]
  by_cases h : prs y a b c = 0
  · rw [if_pos h, if_pos h, shOn6, rof6, rof6, rof6, pof6, ys_n _ (by omega)]
    exact ⟨u, rfl⟩
  · rw [if_neg h, if_neg h]
    unfold rfOn
    exact ⟨_, ysys⟩
theorem tnW6 {w q : Nat} (hw : 11 ≤ w ∧ w ≤ 13) (y : Nat → Nat) (u : Nat) : ∃ v, tnW w q (ys y 6 u) = ys (tnA w q y).2 6 v := by
  have z1 := zn (show q % 12 < 2 ^ 31 by omega)
  have z2 := zn (show q / 16 % 10 < 2 ^ 31 by omega)
  have z3 := zn (show q / 16 % 12 < 2 ^ 31 by omega)
  have z4 := zn (show q / 256 % 12 < 2 ^ 31 by omega)
  have z5 := zn (show q % 10 < 2 ^ 31 by omega)
  have g2 : ix (nI (q / 16 % 10)) 10 := (ix_nI (by omega)).mpr (by omega)
  have g5 : ix (nI (q % 10)) 10 := (ix_nI (by omega)).mpr (by omega)
  unfold tnW
  by_cases h : w < 13
  · rw [if_pos h, tn_7 (by omega)]
    unfold aCp
    rw [z1, z2, ys_n _ (by omega)]
    by_cases h1 : ix (nI (q % 12)) (y 4)
    · rw [if_pos h1, if_pos h1, if_pos g2]
      exact cpOn6 y u _ _
    · rw [if_neg h1, if_neg h1]
      exact ⟨u, rfl⟩
  · rw [if_neg h, tn_8 (by omega)]
    unfold aPr
    simp (disch := omega) only [z1, z3, z4, z5, ys_n]
    by_cases h1 : ix (nI (q % 12)) (y 4) ∧ ix (nI (q / 16 % 12)) (y 4) ∧ ix (nI (q / 256 % 12)) (y 4)
    · rw [if_pos h1]
      by_cases h2 : (¬ q % 12 = q / 16 % 12 ∧ ¬ q % 12 = q / 256 % 12 ∧ ¬ q / 16 % 12 = q / 256 % 12 ∧ y (58 + 6 * (q % 12)) = y (58 + 6 * (q / 16 % 12)) ∧ y (58 + 6 * (q % 12)) = y (58 + 6 * (q / 256 % 12)))
      · rw [if_pos ⟨h1, h2⟩, if_pos ⟨h2, g5⟩]
        exact prOn6 y u _ _ _ _
      · rw [if_neg (fun e => h2 e.2), if_neg (fun e => h2 e.1)]
        exact ⟨u, rfl⟩
    · rw [if_neg h1, if_neg (fun e => h1 e.1)]
      exact ⟨u, rfl⟩
theorem dX10_turnLand_0 : decode cX10_turnLand 0 = .ok (.iload_n 1, 1) := by decide +kernel
theorem dX10_turnLand_1 : decode cX10_turnLand 1 = .ok (.ifCond .ne 19, 3) := by decide +kernel
theorem dX10_turnLand_4 : decode cX10_turnLand 4 = .ok (.aload_n 0, 1) := by decide +kernel
theorem dX10_turnLand_5 : decode cX10_turnLand 5 = .ok (.iconst 0, 1) := by decide +kernel
theorem dX10_turnLand_6 : decode cX10_turnLand 6 = .ok (.iaload, 1) := by decide +kernel
theorem dX10_turnLand_7 : decode cX10_turnLand 7 = .ok (.bipush 6, 2) := by decide +kernel
theorem dX10_turnLand_9 : decode cX10_turnLand 9 = .ok (.if_icmp .ge 158, 3) := by decide +kernel
theorem dX10_turnLand_12 : decode cX10_turnLand 12 = .ok (.aload_n 0, 1) := by decide +kernel
theorem dX10_turnLand_13 : decode cX10_turnLand 13 = .ok (.invokestatic 190, 3) := by decide +kernel
theorem dX10_turnLand_16 : decode cX10_turnLand 16 = .ok (.pop, 1) := by decide +kernel
theorem dX10_turnLand_17 : decode cX10_turnLand 17 = .ok (.goto 150, 3) := by decide +kernel
theorem dX10_turnLand_20 : decode cX10_turnLand 20 = .ok (.iload_n 1, 1) := by decide +kernel
theorem dX10_turnLand_21 : decode cX10_turnLand 21 = .ok (.iconst 3, 1) := by decide +kernel
theorem dX10_turnLand_22 : decode cX10_turnLand 22 = .ok (.if_icmp .ge 71, 3) := by decide +kernel
theorem dX10_turnLand_25 : decode cX10_turnLand 25 = .ok (.aload_n 0, 1) := by decide +kernel
theorem dX10_turnLand_26 : decode cX10_turnLand 26 = .ok (.iload_n 2, 1) := by decide +kernel
theorem dX10_turnLand_27 : decode cX10_turnLand 27 = .ok (.bipush 6, 2) := by decide +kernel
theorem dX10_turnLand_29 : decode cX10_turnLand 29 = .ok (.irem, 1) := by decide +kernel
theorem dX10_turnLand_30 : decode cX10_turnLand 30 = .ok (.iload_n 2, 1) := by decide +kernel
theorem dX10_turnLand_31 : decode cX10_turnLand 31 = .ok (.bipush 8, 2) := by decide +kernel
theorem dX10_turnLand_33 : decode cX10_turnLand 33 = .ok (.idiv, 1) := by decide +kernel
theorem dX10_turnLand_34 : decode cX10_turnLand 34 = .ok (.bipush 6, 2) := by decide +kernel
theorem dX10_turnLand_36 : decode cX10_turnLand 36 = .ok (.irem, 1) := by decide +kernel
theorem dX10_turnLand_37 : decode cX10_turnLand 37 = .ok (.invokestatic 141, 3) := by decide +kernel
theorem dX10_turnLand_40 : decode cX10_turnLand 40 = .ok (.ifCond .eq 127, 3) := by decide +kernel
theorem dX10_turnLand_43 : decode cX10_turnLand 43 = .ok (.iload_n 2, 1) := by decide +kernel
theorem dX10_turnLand_44 : decode cX10_turnLand 44 = .ok (.bipush 6, 2) := by decide +kernel
theorem dX10_turnLand_46 : decode cX10_turnLand 46 = .ok (.irem, 1) := by decide +kernel
theorem dX10_turnLand_47 : decode cX10_turnLand 47 = .ok (.iload_n 2, 1) := by decide +kernel
theorem dX10_turnLand_48 : decode cX10_turnLand 48 = .ok (.bipush 8, 2) := by decide +kernel
theorem dX10_turnLand_50 : decode cX10_turnLand 50 = .ok (.idiv, 1) := by decide +kernel
theorem dX10_turnLand_51 : decode cX10_turnLand 51 = .ok (.bipush 6, 2) := by decide +kernel
theorem dX10_turnLand_53 : decode cX10_turnLand 53 = .ok (.irem, 1) := by decide +kernel
theorem dX10_turnLand_54 : decode cX10_turnLand 54 = .ok (.if_icmp .eq 113, 3) := by decide +kernel
theorem dX10_turnLand_57 : decode cX10_turnLand 57 = .ok (.aload_n 0, 1) := by decide +kernel
theorem dX10_turnLand_58 : decode cX10_turnLand 58 = .ok (.iconst 1, 1) := by decide +kernel
theorem dX10_turnLand_59 : decode cX10_turnLand 59 = .ok (.iaload, 1) := by decide +kernel
theorem dX10_turnLand_60 : decode cX10_turnLand 60 = .ok (.bipush 10, 2) := by decide +kernel
theorem dX10_turnLand_62 : decode cX10_turnLand 62 = .ok (.if_icmp .ge 105, 3) := by decide +kernel
theorem dX10_turnLand_65 : decode cX10_turnLand 65 = .ok (.aload_n 0, 1) := by decide +kernel
theorem dX10_turnLand_66 : decode cX10_turnLand 66 = .ok (.iload_n 2, 1) := by decide +kernel
theorem dX10_turnLand_67 : decode cX10_turnLand 67 = .ok (.bipush 6, 2) := by decide +kernel
theorem dX10_turnLand_69 : decode cX10_turnLand 69 = .ok (.irem, 1) := by decide +kernel
theorem dX10_turnLand_70 : decode cX10_turnLand 70 = .ok (.iload_n 2, 1) := by decide +kernel
theorem dX10_turnLand_71 : decode cX10_turnLand 71 = .ok (.bipush 8, 2) := by decide +kernel
theorem dX10_turnLand_73 : decode cX10_turnLand 73 = .ok (.idiv, 1) := by decide +kernel
theorem dX10_turnLand_74 : decode cX10_turnLand 74 = .ok (.bipush 6, 2) := by decide +kernel
theorem dX10_turnLand_76 : decode cX10_turnLand 76 = .ok (.irem, 1) := by decide +kernel
theorem dX10_turnLand_77 : decode cX10_turnLand 77 = .ok (.iconst 1, 1) := by decide +kernel
theorem dX10_turnLand_78 : decode cX10_turnLand 78 = .ok (.iload_n 2, 1) := by decide +kernel
theorem dX10_turnLand_79 : decode cX10_turnLand 79 = .ok (.bipush 64, 2) := by decide +kernel
theorem dX10_turnLand_81 : decode cX10_turnLand 81 = .ok (.idiv, 1) := by decide +kernel
theorem dX10_turnLand_82 : decode cX10_turnLand 82 = .ok (.bipush 20, 2) := by decide +kernel
theorem dX10_turnLand_84 : decode cX10_turnLand 84 = .ok (.irem, 1) := by decide +kernel
theorem dX10_turnLand_85 : decode cX10_turnLand 85 = .ok (.iadd, 1) := by decide +kernel
theorem dX10_turnLand_86 : decode cX10_turnLand 86 = .ok (.invokestatic 144, 3) := by decide +kernel
theorem dX10_turnLand_89 : decode cX10_turnLand 89 = .ok (.pop, 1) := by decide +kernel
theorem dX10_turnLand_90 : decode cX10_turnLand 90 = .ok (.goto 77, 3) := by decide +kernel
theorem dX10_turnLand_93 : decode cX10_turnLand 93 = .ok (.iload_n 1, 1) := by decide +kernel
theorem dX10_turnLand_94 : decode cX10_turnLand 94 = .ok (.iconst 3, 1) := by decide +kernel
theorem dX10_turnLand_95 : decode cX10_turnLand 95 = .ok (.if_icmp .ne 33, 3) := by decide +kernel
theorem dX10_turnLand_98 : decode cX10_turnLand 98 = .ok (.aload_n 0, 1) := by decide +kernel
theorem dX10_turnLand_99 : decode cX10_turnLand 99 = .ok (.iload_n 2, 1) := by decide +kernel
theorem dX10_turnLand_100 : decode cX10_turnLand 100 = .ok (.bipush 6, 2) := by decide +kernel
theorem dX10_turnLand_102 : decode cX10_turnLand 102 = .ok (.irem, 1) := by decide +kernel
theorem dX10_turnLand_103 : decode cX10_turnLand 103 = .ok (.invokestatic 94, 3) := by decide +kernel
theorem dX10_turnLand_106 : decode cX10_turnLand 106 = .ok (.ifCond .eq 61, 3) := by decide +kernel
theorem dX10_turnLand_109 : decode cX10_turnLand 109 = .ok (.aload_n 0, 1) := by decide +kernel
theorem dX10_turnLand_110 : decode cX10_turnLand 110 = .ok (.iconst 2, 1) := by decide +kernel
theorem dX10_turnLand_111 : decode cX10_turnLand 111 = .ok (.iaload, 1) := by decide +kernel
theorem dX10_turnLand_112 : decode cX10_turnLand 112 = .ok (.iconst 5, 1) := by decide +kernel
theorem dX10_turnLand_113 : decode cX10_turnLand 113 = .ok (.if_icmp .ge 54, 3) := by decide +kernel
theorem dX10_turnLand_116 : decode cX10_turnLand 116 = .ok (.aload_n 0, 1) := by decide +kernel
theorem dX10_turnLand_117 : decode cX10_turnLand 117 = .ok (.iload_n 2, 1) := by decide +kernel
theorem dX10_turnLand_118 : decode cX10_turnLand 118 = .ok (.bipush 6, 2) := by decide +kernel
theorem dX10_turnLand_120 : decode cX10_turnLand 120 = .ok (.irem, 1) := by decide +kernel
theorem dX10_turnLand_121 : decode cX10_turnLand 121 = .ok (.invokestatic 196, 3) := by decide +kernel
theorem dX10_turnLand_124 : decode cX10_turnLand 124 = .ok (.pop, 1) := by decide +kernel
theorem dX10_turnLand_125 : decode cX10_turnLand 125 = .ok (.goto 42, 3) := by decide +kernel
theorem dX10_turnLand_128 : decode cX10_turnLand 128 = .ok (.aload_n 0, 1) := by decide +kernel
theorem dX10_turnLand_129 : decode cX10_turnLand 129 = .ok (.iload_n 2, 1) := by decide +kernel
theorem dX10_turnLand_130 : decode cX10_turnLand 130 = .ok (.bipush 6, 2) := by decide +kernel
theorem dX10_turnLand_132 : decode cX10_turnLand 132 = .ok (.irem, 1) := by decide +kernel
theorem dX10_turnLand_133 : decode cX10_turnLand 133 = .ok (.invokestatic 94, 3) := by decide +kernel
theorem dX10_turnLand_136 : decode cX10_turnLand 136 = .ok (.ifCond .eq 31, 3) := by decide +kernel
theorem dX10_turnLand_139 : decode cX10_turnLand 139 = .ok (.aload_n 0, 1) := by decide +kernel
theorem dX10_turnLand_140 : decode cX10_turnLand 140 = .ok (.invokestatic 153, 3) := by decide +kernel
theorem dX10_turnLand_143 : decode cX10_turnLand 143 = .ok (.ifCond .eq 24, 3) := by decide +kernel
theorem dX10_turnLand_146 : decode cX10_turnLand 146 = .ok (.aload_n 0, 1) := by decide +kernel
theorem dX10_turnLand_147 : decode cX10_turnLand 147 = .ok (.iload_n 2, 1) := by decide +kernel
theorem dX10_turnLand_148 : decode cX10_turnLand 148 = .ok (.bipush 6, 2) := by decide +kernel
theorem dX10_turnLand_150 : decode cX10_turnLand 150 = .ok (.irem, 1) := by decide +kernel
theorem dX10_turnLand_151 : decode cX10_turnLand 151 = .ok (.iload_n 2, 1) := by decide +kernel
theorem dX10_turnLand_152 : decode cX10_turnLand 152 = .ok (.bipush 8, 2) := by decide +kernel
theorem dX10_turnLand_154 : decode cX10_turnLand 154 = .ok (.idiv, 1) := by decide +kernel
theorem dX10_turnLand_155 : decode cX10_turnLand 155 = .ok (.ldc_w 281, 3) := by decide +kernel
theorem dX10_turnLand_158 : decode cX10_turnLand 158 = .ok (.irem, 1) := by decide +kernel
theorem dX10_turnLand_159 : decode cX10_turnLand 159 = .ok (.iload_n 2, 1) := by decide +kernel
theorem dX10_turnLand_160 : decode cX10_turnLand 160 = .ok (.bipush 10, 2) := by decide +kernel
theorem dX10_turnLand_162 : decode cX10_turnLand 162 = .ok (.irem, 1) := by decide +kernel
theorem dX10_turnLand_163 : decode cX10_turnLand 163 = .ok (.invokestatic 157, 3) := by decide +kernel
theorem dX10_turnLand_166 : decode cX10_turnLand 166 = .ok (.pop, 1) := by decide +kernel
theorem dX10_turnLand_167 : decode cX10_turnLand 167 = .ok (.return_, 1) := by decide +kernel
set_option maxRecDepth 100000 in
set_option maxHeartbeats 4000000 in
theorem c_X10_turnLand (l : Launch) (G : GT) (n : Nat) (h : AH) (a : Nat) (y : Nat → Nat) (hx : Row a y h) (hI : Iv y) (w q : Nat) (hq : q < 2 ^ 31) (hw : w ≤ 4) : Ct l yX10_turnLand cX10_turnLand 3 none 5 0 0 G n h [.ref a, .int (nI w), .int (nI q)] (Rv n (fun h' => h' = HR h a (tnA w q y).2)) := by
  have NE := NO_eq
  obtain ⟨⟨i0, i1, i2, i3, i4⟩, iR, iU, iM, iS⟩ := id hI
  refine Ct_of mX10_turnLand.1 (Nat.le_of_ble_eq_true rfl) ?_
  intro p₀ e₀ s₀ m₀ as₀ bl₀ me₀ c₀ C hin
  refine V_Le (L' := [(0, .ref a), (1, .int (nI w)), (2, .int (nI q))]) rfl ?_
  refine V_iload_n 1 C dX10_turnLand_0 rfl rfl ?_
  refine V_if_neN 20 4 C dX10_turnLand_1 (by decide) rfl (by omega) (fun c1 => ?_) (fun c1 => ?_)
  · refine V_iload_n 21 C dX10_turnLand_20 rfl rfl ?_
    refine V_iconst 22 C dX10_turnLand_21 rfl ic3 ?_
    refine V_icmp_geN 93 25 C dX10_turnLand_22 (by decide) rfl (by omega) (by omega) (fun c22 => ?_) (fun c22 => ?_)
    · refine V_iload_n 94 C dX10_turnLand_93 rfl rfl ?_
      refine V_iconst 95 C dX10_turnLand_94 rfl ic3 ?_
      refine V_icmp_neN 128 98 C dX10_turnLand_95 (by decide) rfl (by omega) (by omega) (fun c95 => ?_) (fun c95 => ?_)
      · refine V_aload_n 129 C dX10_turnLand_128 rfl rfl ?_
        refine V_iload_n 130 C dX10_turnLand_129 rfl rfl ?_
        refine V_bipush 132 C dX10_turnLand_130 rfl bip6 ?_
        refine V_iremN 133 C dX10_turnLand_132 rfl (by omega) (by omega) (by omega) ?_
        refine V_callS 136 C dX10_turnLand_133 rfl mX10_isTown tw1028 (c_X10_isTown l G _ _ a y hx hI (nI (q % 6))) rfl rfl (by decide) ⟨by omega, by omega⟩ (Nat.le_of_ble_eq_true rfl) ?_
        rintro _ _ _ ⟨rfl, rfl, rfl⟩
        refine V_if_eqB 167 139 C dX10_turnLand_136 (by decide) rfl  (fun c136 => ?_) (fun c136 => ?_)
        · have hz : (tnA w q y).2 = y := by
            rw [tn_3 (by omega)]
            unfold aWr
            rw [if_neg c136]
          refine V_return C dX10_turnLand_167 rfl (by omega) (by omega) ?_
          first | exact ⟨rfl, rfl, by rw [hz, HR_id hx]⟩ | exact ⟨rfl, rfl, by rw [hz]⟩
        · have z1 := zn (show (q % 6) < 2 ^ 31 by omega)
          have z2 := zn (show q / 8 % 1000000 < 2 ^ 31 by omega)
          have z3 := zn (show q % 10 < 2 ^ 31 by omega)
          have hnn : ix (nI (q / 8 % 1000000)) 1000000 ∧ ix (nI (q % 10)) 10 := ⟨(ix_nI (by omega)).mpr (by omega), (ix_nI (by omega)).mpr (by omega)⟩
          refine V_aload_n 140 C dX10_turnLand_139 rfl rfl ?_
          refine V_callS 143 C dX10_turnLand_140 rfl mX10_canWrite tw1043 (c_X10_canWrite l G _ _ a y hx hI) rfl rfl (by decide) ⟨by omega, by omega⟩ (Nat.le_of_ble_eq_true rfl) ?_
          rintro _ _ _ ⟨rfl, rfl, rfl⟩
          refine V_if_eqB 167 146 C dX10_turnLand_143 (by decide) rfl  (fun c143 => ?_) (fun c143 => ?_)
          · have hz : (tnA w q y).2 = y := by
              rw [tn_3 (by omega)]
              unfold aWr
              rw [if_pos c136, if_pos hnn, if_neg c143]
            refine V_return C dX10_turnLand_167 rfl (by omega) (by omega) ?_
            first | exact ⟨rfl, rfl, by rw [hz, HR_id hx]⟩ | exact ⟨rfl, rfl, by rw [hz]⟩
          · refine V_aload_n 147 C dX10_turnLand_146 rfl rfl ?_
            refine V_iload_n 148 C dX10_turnLand_147 rfl rfl ?_
            refine V_bipush 150 C dX10_turnLand_148 rfl bip6 ?_
            refine V_iremN 151 C dX10_turnLand_150 rfl (by omega) (by omega) (by omega) ?_
            refine V_iload_n 152 C dX10_turnLand_151 rfl rfl ?_
            refine V_bipush 154 C dX10_turnLand_152 rfl bip8 ?_
            refine V_idivN 155 C dX10_turnLand_154 rfl (by omega) (by omega) (by omega) ?_
            refine V_ldcw 158 C dX10_turnLand_155 rfl tw1314 ?_
            rw [show (1000000 : Int32) = nI 1000000 from by decide]
            refine V_iremN 159 C dX10_turnLand_158 rfl (by omega) (by omega) (by omega) ?_
            refine V_iload_n 160 C dX10_turnLand_159 rfl rfl ?_
            refine V_bipush 162 C dX10_turnLand_160 rfl bip10 ?_
            refine V_iremN 163 C dX10_turnLand_162 rfl (by omega) (by omega) (by omega) ?_
            refine V_callS 166 C dX10_turnLand_163 rfl mX10_writeOn tw1046 (c_X10_writeOn l G _ _ a y hx c143.1 c143.2 (q % 6) (q / 8 % 1000000) (q % 10)) rfl rfl (by decide) ⟨by omega, by omega⟩ (Nat.le_of_ble_eq_true rfl) ?_
            rintro _ _ _ ⟨rfl, rfl, rfl⟩
            have hz : (tnA w q y).2 = wrOn y (q % 6) (q / 8 % 1000000) (q % 10) := by
              rw [tn_3 (by omega)]
              unfold aWr
              rw [if_pos c136, if_pos hnn, if_pos c143, z1, z2, z3]
            refine V_pop 167 C dX10_turnLand_166 rfl rfl ?_
            refine V_return C dX10_turnLand_167 rfl (by omega) (by omega) ?_
            first | exact ⟨rfl, rfl, by rw [hz, HR_id hx]⟩ | exact ⟨rfl, rfl, by rw [hz]⟩
      · refine V_aload_n 99 C dX10_turnLand_98 rfl rfl ?_
        refine V_iload_n 100 C dX10_turnLand_99 rfl rfl ?_
        refine V_bipush 102 C dX10_turnLand_100 rfl bip6 ?_
        refine V_iremN 103 C dX10_turnLand_102 rfl (by omega) (by omega) (by omega) ?_
        refine V_callS 106 C dX10_turnLand_103 rfl mX10_isTown tw1028 (c_X10_isTown l G _ _ a y hx hI (nI (q % 6))) rfl rfl (by decide) ⟨by omega, by omega⟩ (Nat.le_of_ble_eq_true rfl) ?_
        rintro _ _ _ ⟨rfl, rfl, rfl⟩
        refine V_if_eqB 167 109 C dX10_turnLand_106 (by decide) rfl  (fun c106 => ?_) (fun c106 => ?_)
        · have hz : (tnA w q y).2 = y := by
            rw [tn_2 (by omega)]
            unfold aRu
            rw [if_neg c106]
          refine V_return C dX10_turnLand_167 rfl (by omega) (by omega) ?_
          first | exact ⟨rfl, rfl, by rw [hz, HR_id hx]⟩ | exact ⟨rfl, rfl, by rw [hz]⟩
        · have z1 := zn (show (q % 6) < 2 ^ 31 by omega)
          refine V_aload_n 110 C dX10_turnLand_109 rfl rfl ?_
          refine V_iconst 111 C dX10_turnLand_110 rfl ic2 ?_
          refine V_iald (j := 2) 112 C dX10_turnLand_111 rfl hx rfl (by omega) (by omega) ?_
          refine V_iconst 113 C dX10_turnLand_112 rfl ic5 ?_
          refine V_icmp_geN 167 116 C dX10_turnLand_113 (by decide) rfl (by omega) (by omega) (fun c113 => ?_) (fun c113 => ?_)
          · have hz : (tnA w q y).2 = y := by
              rw [tn_2 (by omega)]
              unfold aRu
              rw [if_pos c106, if_neg (by omega)]
            refine V_return C dX10_turnLand_167 rfl (by omega) (by omega) ?_
            first | exact ⟨rfl, rfl, by rw [hz, HR_id hx]⟩ | exact ⟨rfl, rfl, by rw [hz]⟩
          · refine V_aload_n 117 C dX10_turnLand_116 rfl rfl ?_
            refine V_iload_n 118 C dX10_turnLand_117 rfl rfl ?_
            refine V_bipush 120 C dX10_turnLand_118 rfl bip6 ?_
            refine V_iremN 121 C dX10_turnLand_120 rfl (by omega) (by omega) (by omega) ?_
            refine V_callS 124 C dX10_turnLand_121 rfl mX10_runnerOn tw1034 (c_X10_runnerOn l G _ _ a y hx (by omega) (q % 6)) rfl rfl (by decide) ⟨by omega, by omega⟩ (Nat.le_of_ble_eq_true rfl) ?_
            rintro _ _ _ ⟨rfl, rfl, rfl⟩
            have hz : (tnA w q y).2 = ruOn y (q % 6) := by
              rw [tn_2 (by omega)]
              unfold aRu
              rw [if_pos c106, if_pos (by omega), z1]
            refine V_pop 125 C dX10_turnLand_124 rfl rfl ?_
            refine V_goto 167 C dX10_turnLand_125 (by decide) ?_
            refine V_return C dX10_turnLand_167 rfl (by omega) (by omega) ?_
            first | exact ⟨rfl, rfl, by rw [hz, HR_id hx]⟩ | exact ⟨rfl, rfl, by rw [hz]⟩
    · refine V_aload_n 26 C dX10_turnLand_25 rfl rfl ?_
      refine V_iload_n 27 C dX10_turnLand_26 rfl rfl ?_
      refine V_bipush 29 C dX10_turnLand_27 rfl bip6 ?_
      refine V_iremN 30 C dX10_turnLand_29 rfl (by omega) (by omega) (by omega) ?_
      refine V_iload_n 31 C dX10_turnLand_30 rfl rfl ?_
      refine V_bipush 33 C dX10_turnLand_31 rfl bip8 ?_
      refine V_idivN 34 C dX10_turnLand_33 rfl (by omega) (by omega) (by omega) ?_
      refine V_bipush 36 C dX10_turnLand_34 rfl bip6 ?_
      refine V_iremN 37 C dX10_turnLand_36 rfl (by omega) (by omega) (by omega) ?_
      refine V_callS 40 C dX10_turnLand_37 rfl mX10_areEnds tw1025 (c_X10_areEnds l G _ _ a y hx hI (nI (q % 6)) (nI (q / 8 % 6))) rfl rfl (by decide) ⟨by omega, by omega⟩ (Nat.le_of_ble_eq_true rfl) ?_
      rintro _ _ _ ⟨rfl, rfl, rfl⟩
      refine V_if_eqB 167 43 C dX10_turnLand_40 (by decide) rfl  (fun c40 => ?_) (fun c40 => ?_)
      · have hz : (tnA w q y).2 = y := by
          rw [tn_1 (by omega)]
          unfold aRd
          rw [if_neg c40]
        refine V_return C dX10_turnLand_167 rfl (by omega) (by omega) ?_
        first | exact ⟨rfl, rfl, by rw [hz, HR_id hx]⟩ | exact ⟨rfl, rfl, by rw [hz]⟩
      · refine V_iload_n 44 C dX10_turnLand_43 rfl rfl ?_
        refine V_bipush 46 C dX10_turnLand_44 rfl bip6 ?_
        refine V_iremN 47 C dX10_turnLand_46 rfl (by omega) (by omega) (by omega) ?_
        refine V_iload_n 48 C dX10_turnLand_47 rfl rfl ?_
        refine V_bipush 50 C dX10_turnLand_48 rfl bip8 ?_
        refine V_idivN 51 C dX10_turnLand_50 rfl (by omega) (by omega) (by omega) ?_
        refine V_bipush 53 C dX10_turnLand_51 rfl bip6 ?_
        refine V_iremN 54 C dX10_turnLand_53 rfl (by omega) (by omega) (by omega) ?_
        refine V_icmp_eqN 167 57 C dX10_turnLand_54 (by decide) rfl (by omega) (by omega) (fun c54 => ?_) (fun c54 => ?_)
        · have hz : (tnA w q y).2 = y := by
            rw [tn_1 (by omega)]
            unfold aRd
            rw [if_pos c40, if_pos (Or.inl (by rw [c54]))]
          refine V_return C dX10_turnLand_167 rfl (by omega) (by omega) ?_
          first | exact ⟨rfl, rfl, by rw [hz, HR_id hx]⟩ | exact ⟨rfl, rfl, by rw [hz]⟩
        · have hnn : ¬ (nI (q % 6) = nI (q / 8 % 6) ∨ ¬ (1 ≤ (nI (1 + q / 64 % 20)).toInt ∧ (nI (1 + q / 64 % 20)).toInt ≤ 20)) := fun e => e.elim (nIne (by omega) (by omega) c54) (fun e2 => e2 (by rw [nI_toInt (by omega)]; omega))
          have z1 := zn (show (q % 6) < 2 ^ 31 by omega)
          have z2 := zn (show (q / 8 % 6) < 2 ^ 31 by omega)
          have z3 := zn (show (1 + q / 64 % 20) < 2 ^ 31 by omega)
          refine V_aload_n 58 C dX10_turnLand_57 rfl rfl ?_
          refine V_iconst 59 C dX10_turnLand_58 rfl ic1 ?_
          refine V_iald (j := 1) 60 C dX10_turnLand_59 rfl hx rfl (by omega) (by omega) ?_
          refine V_bipush 62 C dX10_turnLand_60 rfl bip10 ?_
          refine V_icmp_geN 167 65 C dX10_turnLand_62 (by decide) rfl (by omega) (by omega) (fun c62 => ?_) (fun c62 => ?_)
          · have hz : (tnA w q y).2 = y := by
              rw [tn_1 (by omega)]
              unfold aRd
              rw [if_pos c40, if_neg hnn, if_neg (by omega)]
            refine V_return C dX10_turnLand_167 rfl (by omega) (by omega) ?_
            first | exact ⟨rfl, rfl, by rw [hz, HR_id hx]⟩ | exact ⟨rfl, rfl, by rw [hz]⟩
          · refine V_aload_n 66 C dX10_turnLand_65 rfl rfl ?_
            refine V_iload_n 67 C dX10_turnLand_66 rfl rfl ?_
            refine V_bipush 69 C dX10_turnLand_67 rfl bip6 ?_
            refine V_iremN 70 C dX10_turnLand_69 rfl (by omega) (by omega) (by omega) ?_
            refine V_iload_n 71 C dX10_turnLand_70 rfl rfl ?_
            refine V_bipush 73 C dX10_turnLand_71 rfl bip8 ?_
            refine V_idivN 74 C dX10_turnLand_73 rfl (by omega) (by omega) (by omega) ?_
            refine V_bipush 76 C dX10_turnLand_74 rfl bip6 ?_
            refine V_iremN 77 C dX10_turnLand_76 rfl (by omega) (by omega) (by omega) ?_
            refine V_iconst 78 C dX10_turnLand_77 rfl ic1 ?_
            refine V_iload_n 79 C dX10_turnLand_78 rfl rfl ?_
            refine V_bipush 81 C dX10_turnLand_79 rfl bip64 ?_
            refine V_idivN 82 C dX10_turnLand_81 rfl (by omega) (by omega) (by omega) ?_
            refine V_bipush 84 C dX10_turnLand_82 rfl bip20 ?_
            refine V_iremN 85 C dX10_turnLand_84 rfl (by omega) (by omega) (by omega) ?_
            refine V_iaddN 86 C dX10_turnLand_85 rfl  ?_
            refine V_callS 89 C dX10_turnLand_86 rfl mX10_roadOn tw1031 (c_X10_roadOn l G _ _ a y hx (by omega) (q % 6) (q / 8 % 6) (1 + q / 64 % 20)) rfl rfl (by decide) ⟨by omega, by omega⟩ (Nat.le_of_ble_eq_true rfl) ?_
            rintro _ _ _ ⟨rfl, rfl, rfl⟩
            have hz : (tnA w q y).2 = rdOn y (q % 6) (q / 8 % 6) (1 + q / 64 % 20) := by
              rw [tn_1 (by omega)]
              unfold aRd
              rw [if_pos c40, if_neg hnn, if_pos (by omega), z1, z2, z3]
            refine V_pop 90 C dX10_turnLand_89 rfl rfl ?_
            refine V_goto 167 C dX10_turnLand_90 (by decide) ?_
            refine V_return C dX10_turnLand_167 rfl (by omega) (by omega) ?_
            first | exact ⟨rfl, rfl, by rw [hz, HR_id hx]⟩ | exact ⟨rfl, rfl, by rw [hz]⟩
  · refine V_aload_n 5 C dX10_turnLand_4 rfl rfl ?_
    refine V_iconst 6 C dX10_turnLand_5 rfl ic0 ?_
    refine V_iald (j := 0) 7 C dX10_turnLand_6 rfl hx rfl (by omega) (by omega) ?_
    refine V_bipush 9 C dX10_turnLand_7 rfl bip6 ?_
    refine V_icmp_geN 167 12 C dX10_turnLand_9 (by decide) rfl (by omega) (by omega) (fun c9 => ?_) (fun c9 => ?_)
    · have hz : (tnA w q y).2 = y := by
        rw [tn_0 (c1)]
        unfold aTw
        rw [if_neg (by omega)]
      refine V_return C dX10_turnLand_167 rfl (by omega) (by omega) ?_
      first | exact ⟨rfl, rfl, by rw [hz, HR_id hx]⟩ | exact ⟨rfl, rfl, by rw [hz]⟩
    · refine V_aload_n 13 C dX10_turnLand_12 rfl rfl ?_
      refine V_callS 16 C dX10_turnLand_13 rfl mX10_townOn tw1005 (c_X10_townOn l G _ _ a y hx) rfl rfl (by decide) ⟨by omega, by omega⟩ (Nat.le_of_ble_eq_true rfl) ?_
      rintro _ _ _ ⟨rfl, rfl, rfl⟩
      have hz : (tnA w q y).2 = twOn y := by
        rw [tn_0 (c1)]
        unfold aTw
        rw [if_pos (by omega)]
      refine V_pop 17 C dX10_turnLand_16 rfl rfl ?_
      refine V_goto 167 C dX10_turnLand_17 (by decide) ?_
      refine V_return C dX10_turnLand_167 rfl (by omega) (by omega) ?_
      first | exact ⟨rfl, rfl, by rw [hz, HR_id hx]⟩ | exact ⟨rfl, rfl, by rw [hz]⟩

theorem dX10_turnRun_0 : decode cX10_turnRun 0 = .ok (.iload_n 2, 1) := by decide +kernel
theorem dX10_turnRun_1 : decode cX10_turnRun 1 = .ok (.iconst 5, 1) := by decide +kernel
theorem dX10_turnRun_2 : decode cX10_turnRun 2 = .ok (.irem, 1) := by decide +kernel
theorem dX10_turnRun_3 : decode cX10_turnRun 3 = .ok (.istore_n 3, 1) := by decide +kernel
theorem dX10_turnRun_4 : decode cX10_turnRun 4 = .ok (.iload_n 1, 1) := by decide +kernel
theorem dX10_turnRun_5 : decode cX10_turnRun 5 = .ok (.bipush 7, 2) := by decide +kernel
theorem dX10_turnRun_7 : decode cX10_turnRun 7 = .ok (.if_icmp .ge 56, 3) := by decide +kernel
theorem dX10_turnRun_10 : decode cX10_turnRun 10 = .ok (.aload_n 0, 1) := by decide +kernel
theorem dX10_turnRun_11 : decode cX10_turnRun 11 = .ok (.iload_n 3, 1) := by decide +kernel
theorem dX10_turnRun_12 : decode cX10_turnRun 12 = .ok (.invokestatic 166, 3) := by decide +kernel
theorem dX10_turnRun_15 : decode cX10_turnRun 15 = .ok (.ifCond .eq 138, 3) := by decide +kernel
theorem dX10_turnRun_18 : decode cX10_turnRun 18 = .ok (.aload_n 0, 1) := by decide +kernel
theorem dX10_turnRun_19 : decode cX10_turnRun 19 = .ok (.iload_n 2, 1) := by decide +kernel
theorem dX10_turnRun_20 : decode cX10_turnRun 20 = .ok (.bipush 8, 2) := by decide +kernel
theorem dX10_turnRun_22 : decode cX10_turnRun 22 = .ok (.idiv, 1) := by decide +kernel
theorem dX10_turnRun_23 : decode cX10_turnRun 23 = .ok (.bipush 12, 2) := by decide +kernel
theorem dX10_turnRun_25 : decode cX10_turnRun 25 = .ok (.irem, 1) := by decide +kernel
theorem dX10_turnRun_26 : decode cX10_turnRun 26 = .ok (.invokestatic 169, 3) := by decide +kernel
theorem dX10_turnRun_29 : decode cX10_turnRun 29 = .ok (.ifCond .eq 124, 3) := by decide +kernel
theorem dX10_turnRun_32 : decode cX10_turnRun 32 = .ok (.aload_n 0, 1) := by decide +kernel
theorem dX10_turnRun_33 : decode cX10_turnRun 33 = .ok (.iload_n 3, 1) := by decide +kernel
theorem dX10_turnRun_34 : decode cX10_turnRun 34 = .ok (.iload_n 2, 1) := by decide +kernel
theorem dX10_turnRun_35 : decode cX10_turnRun 35 = .ok (.bipush 8, 2) := by decide +kernel
theorem dX10_turnRun_37 : decode cX10_turnRun 37 = .ok (.idiv, 1) := by decide +kernel
theorem dX10_turnRun_38 : decode cX10_turnRun 38 = .ok (.bipush 12, 2) := by decide +kernel
theorem dX10_turnRun_40 : decode cX10_turnRun 40 = .ok (.irem, 1) := by decide +kernel
theorem dX10_turnRun_41 : decode cX10_turnRun 41 = .ok (.invokestatic 172, 3) := by decide +kernel
theorem dX10_turnRun_44 : decode cX10_turnRun 44 = .ok (.ifCond .eq 109, 3) := by decide +kernel
theorem dX10_turnRun_47 : decode cX10_turnRun 47 = .ok (.aload_n 0, 1) := by decide +kernel
theorem dX10_turnRun_48 : decode cX10_turnRun 48 = .ok (.iload_n 3, 1) := by decide +kernel
theorem dX10_turnRun_49 : decode cX10_turnRun 49 = .ok (.iload_n 2, 1) := by decide +kernel
theorem dX10_turnRun_50 : decode cX10_turnRun 50 = .ok (.bipush 8, 2) := by decide +kernel
theorem dX10_turnRun_52 : decode cX10_turnRun 52 = .ok (.idiv, 1) := by decide +kernel
theorem dX10_turnRun_53 : decode cX10_turnRun 53 = .ok (.bipush 12, 2) := by decide +kernel
theorem dX10_turnRun_55 : decode cX10_turnRun 55 = .ok (.irem, 1) := by decide +kernel
theorem dX10_turnRun_56 : decode cX10_turnRun 56 = .ok (.invokestatic 175, 3) := by decide +kernel
theorem dX10_turnRun_59 : decode cX10_turnRun 59 = .ok (.pop, 1) := by decide +kernel
theorem dX10_turnRun_60 : decode cX10_turnRun 60 = .ok (.goto 93, 3) := by decide +kernel
theorem dX10_turnRun_63 : decode cX10_turnRun 63 = .ok (.iload_n 1, 1) := by decide +kernel
theorem dX10_turnRun_64 : decode cX10_turnRun 64 = .ok (.bipush 7, 2) := by decide +kernel
theorem dX10_turnRun_66 : decode cX10_turnRun 66 = .ok (.if_icmp .ne 37, 3) := by decide +kernel
theorem dX10_turnRun_69 : decode cX10_turnRun 69 = .ok (.aload_n 0, 1) := by decide +kernel
theorem dX10_turnRun_70 : decode cX10_turnRun 70 = .ok (.iload_n 2, 1) := by decide +kernel
theorem dX10_turnRun_71 : decode cX10_turnRun 71 = .ok (.bipush 12, 2) := by decide +kernel
theorem dX10_turnRun_73 : decode cX10_turnRun 73 = .ok (.irem, 1) := by decide +kernel
theorem dX10_turnRun_74 : decode cX10_turnRun 74 = .ok (.invokestatic 169, 3) := by decide +kernel
theorem dX10_turnRun_77 : decode cX10_turnRun 77 = .ok (.ifCond .eq 76, 3) := by decide +kernel
theorem dX10_turnRun_80 : decode cX10_turnRun 80 = .ok (.aload_n 0, 1) := by decide +kernel
theorem dX10_turnRun_81 : decode cX10_turnRun 81 = .ok (.iload_n 2, 1) := by decide +kernel
theorem dX10_turnRun_82 : decode cX10_turnRun 82 = .ok (.bipush 12, 2) := by decide +kernel
theorem dX10_turnRun_84 : decode cX10_turnRun 84 = .ok (.irem, 1) := by decide +kernel
theorem dX10_turnRun_85 : decode cX10_turnRun 85 = .ok (.invokestatic 205, 3) := by decide +kernel
theorem dX10_turnRun_88 : decode cX10_turnRun 88 = .ok (.ifCond .eq 65, 3) := by decide +kernel
theorem dX10_turnRun_91 : decode cX10_turnRun 91 = .ok (.aload_n 0, 1) := by decide +kernel
theorem dX10_turnRun_92 : decode cX10_turnRun 92 = .ok (.iload_n 2, 1) := by decide +kernel
theorem dX10_turnRun_93 : decode cX10_turnRun 93 = .ok (.bipush 12, 2) := by decide +kernel
theorem dX10_turnRun_95 : decode cX10_turnRun 95 = .ok (.irem, 1) := by decide +kernel
theorem dX10_turnRun_96 : decode cX10_turnRun 96 = .ok (.invokestatic 208, 3) := by decide +kernel
theorem dX10_turnRun_99 : decode cX10_turnRun 99 = .ok (.pop, 1) := by decide +kernel
theorem dX10_turnRun_100 : decode cX10_turnRun 100 = .ok (.goto 53, 3) := by decide +kernel
theorem dX10_turnRun_103 : decode cX10_turnRun 103 = .ok (.aload_n 0, 1) := by decide +kernel
theorem dX10_turnRun_104 : decode cX10_turnRun 104 = .ok (.iload_n 3, 1) := by decide +kernel
theorem dX10_turnRun_105 : decode cX10_turnRun 105 = .ok (.invokestatic 166, 3) := by decide +kernel
theorem dX10_turnRun_108 : decode cX10_turnRun 108 = .ok (.ifCond .eq 45, 3) := by decide +kernel
theorem dX10_turnRun_111 : decode cX10_turnRun 111 = .ok (.aload_n 0, 1) := by decide +kernel
theorem dX10_turnRun_112 : decode cX10_turnRun 112 = .ok (.iload_n 2, 1) := by decide +kernel
theorem dX10_turnRun_113 : decode cX10_turnRun 113 = .ok (.bipush 8, 2) := by decide +kernel
theorem dX10_turnRun_115 : decode cX10_turnRun 115 = .ok (.idiv, 1) := by decide +kernel
theorem dX10_turnRun_116 : decode cX10_turnRun 116 = .ok (.bipush 10, 2) := by decide +kernel
theorem dX10_turnRun_118 : decode cX10_turnRun 118 = .ok (.irem, 1) := by decide +kernel
theorem dX10_turnRun_119 : decode cX10_turnRun 119 = .ok (.invokestatic 178, 3) := by decide +kernel
theorem dX10_turnRun_122 : decode cX10_turnRun 122 = .ok (.ifCond .eq 31, 3) := by decide +kernel
theorem dX10_turnRun_125 : decode cX10_turnRun 125 = .ok (.aload_n 0, 1) := by decide +kernel
theorem dX10_turnRun_126 : decode cX10_turnRun 126 = .ok (.iload_n 3, 1) := by decide +kernel
theorem dX10_turnRun_127 : decode cX10_turnRun 127 = .ok (.iload_n 2, 1) := by decide +kernel
theorem dX10_turnRun_128 : decode cX10_turnRun 128 = .ok (.bipush 8, 2) := by decide +kernel
theorem dX10_turnRun_130 : decode cX10_turnRun 130 = .ok (.idiv, 1) := by decide +kernel
theorem dX10_turnRun_131 : decode cX10_turnRun 131 = .ok (.bipush 10, 2) := by decide +kernel
theorem dX10_turnRun_133 : decode cX10_turnRun 133 = .ok (.irem, 1) := by decide +kernel
theorem dX10_turnRun_134 : decode cX10_turnRun 134 = .ok (.invokestatic 181, 3) := by decide +kernel
theorem dX10_turnRun_137 : decode cX10_turnRun 137 = .ok (.ifCond .eq 16, 3) := by decide +kernel
theorem dX10_turnRun_140 : decode cX10_turnRun 140 = .ok (.aload_n 0, 1) := by decide +kernel
theorem dX10_turnRun_141 : decode cX10_turnRun 141 = .ok (.iload_n 3, 1) := by decide +kernel
theorem dX10_turnRun_142 : decode cX10_turnRun 142 = .ok (.iload_n 2, 1) := by decide +kernel
theorem dX10_turnRun_143 : decode cX10_turnRun 143 = .ok (.bipush 8, 2) := by decide +kernel
theorem dX10_turnRun_145 : decode cX10_turnRun 145 = .ok (.idiv, 1) := by decide +kernel
theorem dX10_turnRun_146 : decode cX10_turnRun 146 = .ok (.bipush 10, 2) := by decide +kernel
theorem dX10_turnRun_148 : decode cX10_turnRun 148 = .ok (.irem, 1) := by decide +kernel
theorem dX10_turnRun_149 : decode cX10_turnRun 149 = .ok (.invokestatic 184, 3) := by decide +kernel
theorem dX10_turnRun_152 : decode cX10_turnRun 152 = .ok (.pop, 1) := by decide +kernel
theorem dX10_turnRun_153 : decode cX10_turnRun 153 = .ok (.return_, 1) := by decide +kernel
set_option maxRecDepth 100000 in
set_option maxHeartbeats 4000000 in
theorem c_X10_turnRun (l : Launch) (G : GT) (n : Nat) (h : AH) (a : Nat) (y : Nat → Nat) (hx : Row a y h) (hI : Iv y) (w q : Nat) (hq : q < 2 ^ 31) (hw : 5 ≤ w ∧ w ≤ 10) : Ct l yX10_turnRun cX10_turnRun 4 none 5 0 0 G n h [.ref a, .int (nI w), .int (nI q)] (Rv n (fun h' => h' = HR h a (tnA w q y).2)) := by
  have NE := NO_eq
  obtain ⟨⟨i0, i1, i2, i3, i4⟩, iR, iU, iM, iS⟩ := id hI
  refine Ct_of mX10_turnRun.1 (Nat.le_of_ble_eq_true rfl) ?_
  intro p₀ e₀ s₀ m₀ as₀ bl₀ me₀ c₀ C hin
  refine V_Le (L' := [(0, .ref a), (1, .int (nI w)), (2, .int (nI q))]) rfl ?_
  refine V_iload_n 1 C dX10_turnRun_0 rfl rfl ?_
  refine V_iconst 2 C dX10_turnRun_1 rfl ic5 ?_
  refine V_iremN 3 C dX10_turnRun_2 rfl (by omega) (by omega) (by omega) ?_
  refine V_istore_n 4 C dX10_turnRun_3 rfl (by decide) (L' := [(0, _), (1, _), (2, _), (3, _)]) rfl ?_
  refine V_iload_n 5 C dX10_turnRun_4 rfl rfl ?_
  refine V_bipush 7 C dX10_turnRun_5 rfl bip7 ?_
  refine V_icmp_geN 63 10 C dX10_turnRun_7 (by decide) rfl (by omega) (by omega) (fun c7 => ?_) (fun c7 => ?_)
  · refine V_iload_n 64 C dX10_turnRun_63 rfl rfl ?_
    refine V_bipush 66 C dX10_turnRun_64 rfl bip7 ?_
    refine V_icmp_neN 103 69 C dX10_turnRun_66 (by decide) rfl (by omega) (by omega) (fun c66 => ?_) (fun c66 => ?_)
    · refine V_aload_n 104 C dX10_turnRun_103 rfl rfl ?_
      refine V_iload_n 105 C dX10_turnRun_104 rfl rfl ?_
      refine V_callS 108 C dX10_turnRun_105 rfl mX10_isRunner tw1064 (c_X10_isRunner l G _ _ a y hx hI (nI (q % 5))) rfl rfl (by decide) ⟨by omega, by omega⟩ (Nat.le_of_ble_eq_true rfl) ?_
      rintro _ _ _ ⟨rfl, rfl, rfl⟩
      refine V_if_eqB 153 111 C dX10_turnRun_108 (by decide) rfl  (fun c108 => ?_) (fun c108 => ?_)
      · have hz : (tnA w q y).2 = y := by
          rw [tn_6 (by omega)]
          unfold aGo
          rw [if_neg (fun e => c108 e.1)]
        refine V_return C dX10_turnRun_153 rfl (by omega) (by omega) ?_
        first | exact ⟨rfl, rfl, by rw [hz, HR_id hx]⟩ | exact ⟨rfl, rfl, by rw [hz]⟩
      · have ia : (q % 5) < y 2 := (ix_nI (by omega)).mp c108
        have z1 := zn (show (q % 5) < 2 ^ 31 by omega)
        have z2 := zn (show (q / 8 % 10) < 2 ^ 31 by omega)
        refine V_aload_n 112 C dX10_turnRun_111 rfl rfl ?_
        refine V_iload_n 113 C dX10_turnRun_112 rfl rfl ?_
        refine V_bipush 115 C dX10_turnRun_113 rfl bip8 ?_
        refine V_idivN 116 C dX10_turnRun_115 rfl (by omega) (by omega) (by omega) ?_
        refine V_bipush 118 C dX10_turnRun_116 rfl bip10 ?_
        refine V_iremN 119 C dX10_turnRun_118 rfl (by omega) (by omega) (by omega) ?_
        refine V_callS 122 C dX10_turnRun_119 rfl mX10_isRoad tw1101 (c_X10_isRoad l G _ _ a y hx hI (nI (q / 8 % 10))) rfl rfl (by decide) ⟨by omega, by omega⟩ (Nat.le_of_ble_eq_true rfl) ?_
        rintro _ _ _ ⟨rfl, rfl, rfl⟩
        refine V_if_eqB 153 125 C dX10_turnRun_122 (by decide) rfl  (fun c122 => ?_) (fun c122 => ?_)
        · have hz : (tnA w q y).2 = y := by
            rw [tn_6 (by omega)]
            unfold aGo
            rw [if_neg (fun e => c122 e.2)]
          refine V_return C dX10_turnRun_153 rfl (by omega) (by omega) ?_
          first | exact ⟨rfl, rfl, by rw [hz, HR_id hx]⟩ | exact ⟨rfl, rfl, by rw [hz]⟩
        · have ib : (q / 8 % 10) < y 1 := (ix_nI (by omega)).mp c122
          refine V_aload_n 126 C dX10_turnRun_125 rfl rfl ?_
          refine V_iload_n 127 C dX10_turnRun_126 rfl rfl ?_
          refine V_iload_n 128 C dX10_turnRun_127 rfl rfl ?_
          refine V_bipush 130 C dX10_turnRun_128 rfl bip8 ?_
          refine V_idivN 131 C dX10_turnRun_130 rfl (by omega) (by omega) (by omega) ?_
          refine V_bipush 133 C dX10_turnRun_131 rfl bip10 ?_
          refine V_iremN 134 C dX10_turnRun_133 rfl (by omega) (by omega) (by omega) ?_
          refine V_callS 137 C dX10_turnRun_134 rfl mX10_canGo tw1104 (c_X10_canGo l G _ _ a y hx hI (q % 5) (q / 8 % 10) ia ib) rfl rfl (by decide) ⟨by omega, by omega⟩ (Nat.le_of_ble_eq_true rfl) ?_
          rintro _ _ _ ⟨rfl, rfl, rfl⟩
          refine V_if_eqB 153 140 C dX10_turnRun_137 (by decide) rfl  (fun c137 => ?_) (fun c137 => ?_)
          · have hz : (tnA w q y).2 = y := by
              rw [tn_6 (by omega)]
              unfold aGo
              rw [if_pos ⟨c108, c122⟩, z1, z2, if_neg c137]
            refine V_return C dX10_turnRun_153 rfl (by omega) (by omega) ?_
            first | exact ⟨rfl, rfl, by rw [hz, HR_id hx]⟩ | exact ⟨rfl, rfl, by rw [hz]⟩
          · refine V_aload_n 141 C dX10_turnRun_140 rfl rfl ?_
            refine V_iload_n 142 C dX10_turnRun_141 rfl rfl ?_
            refine V_iload_n 143 C dX10_turnRun_142 rfl rfl ?_
            refine V_bipush 145 C dX10_turnRun_143 rfl bip8 ?_
            refine V_idivN 146 C dX10_turnRun_145 rfl (by omega) (by omega) (by omega) ?_
            refine V_bipush 148 C dX10_turnRun_146 rfl bip10 ?_
            refine V_iremN 149 C dX10_turnRun_148 rfl (by omega) (by omega) (by omega) ?_
            refine V_callS 152 C dX10_turnRun_149 rfl mX10_goOn tw1110 (c_X10_goOn l G _ _ a y hx hI (q % 5) (q / 8 % 10) ia ib) rfl rfl (by decide) ⟨by omega, by omega⟩ (Nat.le_of_ble_eq_true rfl) ?_
            rintro _ _ _ ⟨rfl, rfl, rfl⟩
            have hz : (tnA w q y).2 = gOn y (q % 5) (q / 8 % 10) := by
              rw [tn_6 (by omega)]
              unfold aGo
              rw [if_pos ⟨c108, c122⟩, z1, z2, if_pos c137]
            refine V_pop 153 C dX10_turnRun_152 rfl rfl ?_
            refine V_return C dX10_turnRun_153 rfl (by omega) (by omega) ?_
            first | exact ⟨rfl, rfl, by rw [hz, HR_id hx]⟩ | exact ⟨rfl, rfl, by rw [hz]⟩
    · refine V_aload_n 70 C dX10_turnRun_69 rfl rfl ?_
      refine V_iload_n 71 C dX10_turnRun_70 rfl rfl ?_
      refine V_bipush 73 C dX10_turnRun_71 rfl bip12 ?_
      refine V_iremN 74 C dX10_turnRun_73 rfl (by omega) (by omega) (by omega) ?_
      refine V_callS 77 C dX10_turnRun_74 rfl mX10_isSheet tw1067 (c_X10_isSheet l G _ _ a y hx hI (nI (q % 12))) rfl rfl (by decide) ⟨by omega, by omega⟩ (Nat.le_of_ble_eq_true rfl) ?_
      rintro _ _ _ ⟨rfl, rfl, rfl⟩
      refine V_if_eqB 153 80 C dX10_turnRun_77 (by decide) rfl  (fun c77 => ?_) (fun c77 => ?_)
      · have hz : (tnA w q y).2 = y := by
          rw [tn_5 (by omega)]
          unfold aLy
          rw [if_neg c77]
        refine V_return C dX10_turnRun_153 rfl (by omega) (by omega) ?_
        first | exact ⟨rfl, rfl, by rw [hz, HR_id hx]⟩ | exact ⟨rfl, rfl, by rw [hz]⟩
      · have ia : (q % 12) < y 4 := (ix_nI (by omega)).mp c77
        have z1 := zn (show (q % 12) < 2 ^ 31 by omega)
        refine V_aload_n 81 C dX10_turnRun_80 rfl rfl ?_
        refine V_iload_n 82 C dX10_turnRun_81 rfl rfl ?_
        refine V_bipush 84 C dX10_turnRun_82 rfl bip12 ?_
        refine V_iremN 85 C dX10_turnRun_84 rfl (by omega) (by omega) (by omega) ?_
        refine V_callS 88 C dX10_turnRun_85 rfl mX10_canLay tw1091 (c_X10_canLay l G _ _ a y hx hI (q % 12) ia) rfl rfl (by decide) ⟨by omega, by omega⟩ (Nat.le_of_ble_eq_true rfl) ?_
        rintro _ _ _ ⟨rfl, rfl, rfl⟩
        refine V_if_eqB 153 91 C dX10_turnRun_88 (by decide) rfl  (fun c88 => ?_) (fun c88 => ?_)
        · have hz : (tnA w q y).2 = y := by
            rw [tn_5 (by omega)]
            unfold aLy
            rw [if_pos c77, z1, if_neg c88]
          refine V_return C dX10_turnRun_153 rfl (by omega) (by omega) ?_
          first | exact ⟨rfl, rfl, by rw [hz, HR_id hx]⟩ | exact ⟨rfl, rfl, by rw [hz]⟩
        · refine V_aload_n 92 C dX10_turnRun_91 rfl rfl ?_
          refine V_iload_n 93 C dX10_turnRun_92 rfl rfl ?_
          refine V_bipush 95 C dX10_turnRun_93 rfl bip12 ?_
          refine V_iremN 96 C dX10_turnRun_95 rfl (by omega) (by omega) (by omega) ?_
          refine V_callS 99 C dX10_turnRun_96 rfl mX10_layOn tw1094 (c_X10_layOn l G _ _ a y hx hI (q % 12) ia) rfl rfl (by decide) ⟨by omega, by omega⟩ (Nat.le_of_ble_eq_true rfl) ?_
          rintro _ _ _ ⟨rfl, rfl, rfl⟩
          have hz : (tnA w q y).2 = lyOn y (q % 12) := by
            rw [tn_5 (by omega)]
            unfold aLy
            rw [if_pos c77, z1, if_pos c88]
          refine V_pop 100 C dX10_turnRun_99 rfl rfl ?_
          refine V_goto 153 C dX10_turnRun_100 (by decide) ?_
          refine V_return C dX10_turnRun_153 rfl (by omega) (by omega) ?_
          first | exact ⟨rfl, rfl, by rw [hz, HR_id hx]⟩ | exact ⟨rfl, rfl, by rw [hz]⟩
  · refine V_aload_n 11 C dX10_turnRun_10 rfl rfl ?_
    refine V_iload_n 12 C dX10_turnRun_11 rfl rfl ?_
    refine V_callS 15 C dX10_turnRun_12 rfl mX10_isRunner tw1064 (c_X10_isRunner l G _ _ a y hx hI (nI (q % 5))) rfl rfl (by decide) ⟨by omega, by omega⟩ (Nat.le_of_ble_eq_true rfl) ?_
    rintro _ _ _ ⟨rfl, rfl, rfl⟩
    refine V_if_eqB 153 18 C dX10_turnRun_15 (by decide) rfl  (fun c15 => ?_) (fun c15 => ?_)
    · have hz : (tnA w q y).2 = y := by
        rw [tn_4 (by omega)]
        unfold aTk
        rw [if_neg (fun e => c15 e.1)]
      refine V_return C dX10_turnRun_153 rfl (by omega) (by omega) ?_
      first | exact ⟨rfl, rfl, by rw [hz, HR_id hx]⟩ | exact ⟨rfl, rfl, by rw [hz]⟩
    · have ia : (q % 5) < y 2 := (ix_nI (by omega)).mp c15
      have z1 := zn (show (q % 5) < 2 ^ 31 by omega)
      have z2 := zn (show (q / 8 % 12) < 2 ^ 31 by omega)
      refine V_aload_n 19 C dX10_turnRun_18 rfl rfl ?_
      refine V_iload_n 20 C dX10_turnRun_19 rfl rfl ?_
      refine V_bipush 22 C dX10_turnRun_20 rfl bip8 ?_
      refine V_idivN 23 C dX10_turnRun_22 rfl (by omega) (by omega) (by omega) ?_
      refine V_bipush 25 C dX10_turnRun_23 rfl bip12 ?_
      refine V_iremN 26 C dX10_turnRun_25 rfl (by omega) (by omega) (by omega) ?_
      refine V_callS 29 C dX10_turnRun_26 rfl mX10_isSheet tw1067 (c_X10_isSheet l G _ _ a y hx hI (nI (q / 8 % 12))) rfl rfl (by decide) ⟨by omega, by omega⟩ (Nat.le_of_ble_eq_true rfl) ?_
      rintro _ _ _ ⟨rfl, rfl, rfl⟩
      refine V_if_eqB 153 32 C dX10_turnRun_29 (by decide) rfl  (fun c29 => ?_) (fun c29 => ?_)
      · have hz : (tnA w q y).2 = y := by
          rw [tn_4 (by omega)]
          unfold aTk
          rw [if_neg (fun e => c29 e.2)]
        refine V_return C dX10_turnRun_153 rfl (by omega) (by omega) ?_
        first | exact ⟨rfl, rfl, by rw [hz, HR_id hx]⟩ | exact ⟨rfl, rfl, by rw [hz]⟩
      · have ib : (q / 8 % 12) < y 4 := (ix_nI (by omega)).mp c29
        refine V_aload_n 33 C dX10_turnRun_32 rfl rfl ?_
        refine V_iload_n 34 C dX10_turnRun_33 rfl rfl ?_
        refine V_iload_n 35 C dX10_turnRun_34 rfl rfl ?_
        refine V_bipush 37 C dX10_turnRun_35 rfl bip8 ?_
        refine V_idivN 38 C dX10_turnRun_37 rfl (by omega) (by omega) (by omega) ?_
        refine V_bipush 40 C dX10_turnRun_38 rfl bip12 ?_
        refine V_iremN 41 C dX10_turnRun_40 rfl (by omega) (by omega) (by omega) ?_
        refine V_callS 44 C dX10_turnRun_41 rfl mX10_canTake tw1070 (c_X10_canTake l G _ _ a y hx hI (q % 5) (q / 8 % 12) ia ib) rfl rfl (by decide) ⟨by omega, by omega⟩ (Nat.le_of_ble_eq_true rfl) ?_
        rintro _ _ _ ⟨rfl, rfl, rfl⟩
        refine V_if_eqB 153 47 C dX10_turnRun_44 (by decide) rfl  (fun c44 => ?_) (fun c44 => ?_)
        · have hz : (tnA w q y).2 = y := by
            rw [tn_4 (by omega)]
            unfold aTk
            rw [if_pos ⟨c15, c29⟩, z1, z2, if_neg c44]
          refine V_return C dX10_turnRun_153 rfl (by omega) (by omega) ?_
          first | exact ⟨rfl, rfl, by rw [hz, HR_id hx]⟩ | exact ⟨rfl, rfl, by rw [hz]⟩
        · refine V_aload_n 48 C dX10_turnRun_47 rfl rfl ?_
          refine V_iload_n 49 C dX10_turnRun_48 rfl rfl ?_
          refine V_iload_n 50 C dX10_turnRun_49 rfl rfl ?_
          refine V_bipush 52 C dX10_turnRun_50 rfl bip8 ?_
          refine V_idivN 53 C dX10_turnRun_52 rfl (by omega) (by omega) (by omega) ?_
          refine V_bipush 55 C dX10_turnRun_53 rfl bip12 ?_
          refine V_iremN 56 C dX10_turnRun_55 rfl (by omega) (by omega) (by omega) ?_
          refine V_callS 59 C dX10_turnRun_56 rfl mX10_takeOn tw1088 (c_X10_takeOn l G _ _ a y hx hI (q % 5) (q / 8 % 12) ia ib) rfl rfl (by decide) ⟨by omega, by omega⟩ (Nat.le_of_ble_eq_true rfl) ?_
          rintro _ _ _ ⟨rfl, rfl, rfl⟩
          have hz : (tnA w q y).2 = tkOn y (q % 5) (q / 8 % 12) := by
            rw [tn_4 (by omega)]
            unfold aTk
            rw [if_pos ⟨c15, c29⟩, z1, z2, if_pos c44]
          refine V_pop 60 C dX10_turnRun_59 rfl rfl ?_
          refine V_goto 153 C dX10_turnRun_60 (by decide) ?_
          refine V_return C dX10_turnRun_153 rfl (by omega) (by omega) ?_
          first | exact ⟨rfl, rfl, by rw [hz, HR_id hx]⟩ | exact ⟨rfl, rfl, by rw [hz]⟩

theorem dX10_turnWrite_0 : decode cX10_turnWrite 0 = .ok (.iload_n 2, 1) := by decide +kernel
theorem dX10_turnWrite_1 : decode cX10_turnWrite 1 = .ok (.bipush 12, 2) := by decide +kernel
theorem dX10_turnWrite_3 : decode cX10_turnWrite 3 = .ok (.irem, 1) := by decide +kernel
theorem dX10_turnWrite_4 : decode cX10_turnWrite 4 = .ok (.istore_n 3, 1) := by decide +kernel
theorem dX10_turnWrite_5 : decode cX10_turnWrite 5 = .ok (.iload_n 2, 1) := by decide +kernel
theorem dX10_turnWrite_6 : decode cX10_turnWrite 6 = .ok (.bipush 16, 2) := by decide +kernel
theorem dX10_turnWrite_8 : decode cX10_turnWrite 8 = .ok (.idiv, 1) := by decide +kernel
theorem dX10_turnWrite_9 : decode cX10_turnWrite 9 = .ok (.bipush 12, 2) := by decide +kernel
theorem dX10_turnWrite_11 : decode cX10_turnWrite 11 = .ok (.irem, 1) := by decide +kernel
theorem dX10_turnWrite_12 : decode cX10_turnWrite 12 = .ok (.istore 4, 2) := by decide +kernel
theorem dX10_turnWrite_14 : decode cX10_turnWrite 14 = .ok (.iload_n 2, 1) := by decide +kernel
theorem dX10_turnWrite_15 : decode cX10_turnWrite 15 = .ok (.sipush 256, 3) := by decide +kernel
theorem dX10_turnWrite_18 : decode cX10_turnWrite 18 = .ok (.idiv, 1) := by decide +kernel
theorem dX10_turnWrite_19 : decode cX10_turnWrite 19 = .ok (.bipush 12, 2) := by decide +kernel
theorem dX10_turnWrite_21 : decode cX10_turnWrite 21 = .ok (.irem, 1) := by decide +kernel
theorem dX10_turnWrite_22 : decode cX10_turnWrite 22 = .ok (.istore 5, 2) := by decide +kernel
theorem dX10_turnWrite_24 : decode cX10_turnWrite 24 = .ok (.iload_n 1, 1) := by decide +kernel
theorem dX10_turnWrite_25 : decode cX10_turnWrite 25 = .ok (.bipush 13, 2) := by decide +kernel
theorem dX10_turnWrite_27 : decode cX10_turnWrite 27 = .ok (.if_icmp .ge 27, 3) := by decide +kernel
theorem dX10_turnWrite_30 : decode cX10_turnWrite 30 = .ok (.aload_n 0, 1) := by decide +kernel
theorem dX10_turnWrite_31 : decode cX10_turnWrite 31 = .ok (.iload_n 3, 1) := by decide +kernel
theorem dX10_turnWrite_32 : decode cX10_turnWrite 32 = .ok (.invokestatic 169, 3) := by decide +kernel
theorem dX10_turnWrite_35 : decode cX10_turnWrite 35 = .ok (.ifCond .eq 75, 3) := by decide +kernel
theorem dX10_turnWrite_38 : decode cX10_turnWrite 38 = .ok (.aload_n 0, 1) := by decide +kernel
theorem dX10_turnWrite_39 : decode cX10_turnWrite 39 = .ok (.iload_n 3, 1) := by decide +kernel
theorem dX10_turnWrite_40 : decode cX10_turnWrite 40 = .ok (.iload_n 2, 1) := by decide +kernel
theorem dX10_turnWrite_41 : decode cX10_turnWrite 41 = .ok (.bipush 16, 2) := by decide +kernel
theorem dX10_turnWrite_43 : decode cX10_turnWrite 43 = .ok (.idiv, 1) := by decide +kernel
theorem dX10_turnWrite_44 : decode cX10_turnWrite 44 = .ok (.bipush 10, 2) := by decide +kernel
theorem dX10_turnWrite_46 : decode cX10_turnWrite 46 = .ok (.irem, 1) := by decide +kernel
theorem dX10_turnWrite_47 : decode cX10_turnWrite 47 = .ok (.invokestatic 187, 3) := by decide +kernel
theorem dX10_turnWrite_50 : decode cX10_turnWrite 50 = .ok (.pop, 1) := by decide +kernel
theorem dX10_turnWrite_51 : decode cX10_turnWrite 51 = .ok (.goto 59, 3) := by decide +kernel
theorem dX10_turnWrite_54 : decode cX10_turnWrite 54 = .ok (.aload_n 0, 1) := by decide +kernel
theorem dX10_turnWrite_55 : decode cX10_turnWrite 55 = .ok (.iload_n 3, 1) := by decide +kernel
theorem dX10_turnWrite_56 : decode cX10_turnWrite 56 = .ok (.invokestatic 169, 3) := by decide +kernel
theorem dX10_turnWrite_59 : decode cX10_turnWrite 59 = .ok (.ifCond .eq 51, 3) := by decide +kernel
theorem dX10_turnWrite_62 : decode cX10_turnWrite 62 = .ok (.aload_n 0, 1) := by decide +kernel
theorem dX10_turnWrite_63 : decode cX10_turnWrite 63 = .ok (.iload 4, 2) := by decide +kernel
theorem dX10_turnWrite_65 : decode cX10_turnWrite 65 = .ok (.invokestatic 169, 3) := by decide +kernel
theorem dX10_turnWrite_68 : decode cX10_turnWrite 68 = .ok (.ifCond .eq 42, 3) := by decide +kernel
theorem dX10_turnWrite_71 : decode cX10_turnWrite 71 = .ok (.aload_n 0, 1) := by decide +kernel
theorem dX10_turnWrite_72 : decode cX10_turnWrite 72 = .ok (.iload 5, 2) := by decide +kernel
theorem dX10_turnWrite_74 : decode cX10_turnWrite 74 = .ok (.invokestatic 169, 3) := by decide +kernel
theorem dX10_turnWrite_77 : decode cX10_turnWrite 77 = .ok (.ifCond .eq 33, 3) := by decide +kernel
theorem dX10_turnWrite_80 : decode cX10_turnWrite 80 = .ok (.aload_n 0, 1) := by decide +kernel
theorem dX10_turnWrite_81 : decode cX10_turnWrite 81 = .ok (.iload_n 3, 1) := by decide +kernel
theorem dX10_turnWrite_82 : decode cX10_turnWrite 82 = .ok (.iload 4, 2) := by decide +kernel
theorem dX10_turnWrite_84 : decode cX10_turnWrite 84 = .ok (.iload 5, 2) := by decide +kernel
theorem dX10_turnWrite_86 : decode cX10_turnWrite 86 = .ok (.iload_n 2, 1) := by decide +kernel
theorem dX10_turnWrite_87 : decode cX10_turnWrite 87 = .ok (.bipush 10, 2) := by decide +kernel
theorem dX10_turnWrite_89 : decode cX10_turnWrite 89 = .ok (.irem, 1) := by decide +kernel
theorem dX10_turnWrite_90 : decode cX10_turnWrite 90 = .ok (.invokestatic 255, 3) := by decide +kernel
theorem dX10_turnWrite_93 : decode cX10_turnWrite 93 = .ok (.ifCond .eq 17, 3) := by decide +kernel
theorem dX10_turnWrite_96 : decode cX10_turnWrite 96 = .ok (.aload_n 0, 1) := by decide +kernel
theorem dX10_turnWrite_97 : decode cX10_turnWrite 97 = .ok (.iload_n 3, 1) := by decide +kernel
theorem dX10_turnWrite_98 : decode cX10_turnWrite 98 = .ok (.iload 4, 2) := by decide +kernel
theorem dX10_turnWrite_100 : decode cX10_turnWrite 100 = .ok (.iload 5, 2) := by decide +kernel
theorem dX10_turnWrite_102 : decode cX10_turnWrite 102 = .ok (.iload_n 2, 1) := by decide +kernel
theorem dX10_turnWrite_103 : decode cX10_turnWrite 103 = .ok (.bipush 10, 2) := by decide +kernel
theorem dX10_turnWrite_105 : decode cX10_turnWrite 105 = .ok (.irem, 1) := by decide +kernel
theorem dX10_turnWrite_106 : decode cX10_turnWrite 106 = .ok (.invokestatic 259, 3) := by decide +kernel
theorem dX10_turnWrite_109 : decode cX10_turnWrite 109 = .ok (.pop, 1) := by decide +kernel
theorem dX10_turnWrite_110 : decode cX10_turnWrite 110 = .ok (.return_, 1) := by decide +kernel
set_option maxRecDepth 100000 in
set_option maxHeartbeats 4000000 in
theorem c_X10_turnWrite (l : Launch) (G : GT) (n : Nat) (h : AH) (a : Nat) (y : Nat → Nat) (hx : Row a y h) (hI : Iv y) (w q : Nat) (hq : q < 2 ^ 31) (hw : 11 ≤ w ∧ w ≤ 13) : Ct l yX10_turnWrite cX10_turnWrite 6 none 8 0 0 G n h [.ref a, .int (nI w), .int (nI q)] (Rv n (fun h' => h' = HR h a (tnW w q y))) := by
  have NE := NO_eq
  obtain ⟨⟨i0, i1, i2, i3, i4⟩, iR, iU, iM, iS⟩ := id hI
  refine Ct_of mX10_turnWrite.1 (Nat.le_of_ble_eq_true rfl) ?_
  intro p₀ e₀ s₀ m₀ as₀ bl₀ me₀ c₀ C hin
  refine V_Le (L' := [(0, .ref a), (1, .int (nI w)), (2, .int (nI q))]) rfl ?_
  refine V_iload_n 1 C dX10_turnWrite_0 rfl rfl ?_
  refine V_bipush 3 C dX10_turnWrite_1 rfl bip12 ?_
  refine V_iremN 4 C dX10_turnWrite_3 rfl (by omega) (by omega) (by omega) ?_
  refine V_istore_n 5 C dX10_turnWrite_4 rfl (by decide) (L' := [(0, _), (1, _), (2, _), (3, _)]) rfl ?_
  refine V_iload_n 6 C dX10_turnWrite_5 rfl rfl ?_
  refine V_bipush 8 C dX10_turnWrite_6 rfl bip16 ?_
  refine V_idivN 9 C dX10_turnWrite_8 rfl (by omega) (by omega) (by omega) ?_
  refine V_bipush 11 C dX10_turnWrite_9 rfl bip12 ?_
  refine V_iremN 12 C dX10_turnWrite_11 rfl (by omega) (by omega) (by omega) ?_
  refine V_istore 14 C dX10_turnWrite_12 rfl (by decide) (L' := [(0, _), (1, _), (2, _), (3, _), (4, _)]) rfl ?_
  refine V_iload_n 15 C dX10_turnWrite_14 rfl rfl ?_
  refine V_sipush 18 C dX10_turnWrite_15 rfl sip256 ?_
  refine V_idivN 19 C dX10_turnWrite_18 rfl (by omega) (by omega) (by omega) ?_
  refine V_bipush 21 C dX10_turnWrite_19 rfl bip12 ?_
  refine V_iremN 22 C dX10_turnWrite_21 rfl (by omega) (by omega) (by omega) ?_
  refine V_istore 24 C dX10_turnWrite_22 rfl (by decide) (L' := [(0, _), (1, _), (2, _), (3, _), (4, _), (5, _)]) rfl ?_
  refine V_iload_n 25 C dX10_turnWrite_24 rfl rfl ?_
  refine V_bipush 27 C dX10_turnWrite_25 rfl bip13 ?_
  refine V_icmp_geN 54 30 C dX10_turnWrite_27 (by decide) rfl (by omega) (by omega) (fun c27 => ?_) (fun c27 => ?_)
  · refine V_aload_n 55 C dX10_turnWrite_54 rfl rfl ?_
    refine V_iload_n 56 C dX10_turnWrite_55 rfl rfl ?_
    refine V_callS 59 C dX10_turnWrite_56 rfl mX10_isSheet tw1067 (c_X10_isSheet l G _ _ a y hx hI (nI (q % 12))) rfl rfl (by decide) ⟨by omega, by omega⟩ (Nat.le_of_ble_eq_true rfl) ?_
    rintro _ _ _ ⟨rfl, rfl, rfl⟩
    refine V_if_eqB 110 62 C dX10_turnWrite_59 (by decide) rfl  (fun c59 => ?_) (fun c59 => ?_)
    · have hz : tnW w q y = y := by
        unfold tnW
        rw [if_neg (by omega), if_neg (fun e => c59 e.1.1)]
      refine V_return C dX10_turnWrite_110 rfl (by omega) (by omega) ?_
      first | exact ⟨rfl, rfl, by rw [hz, HR_id hx]⟩ | exact ⟨rfl, rfl, by rw [hz]⟩
    · have ia : (q % 12) < y 4 := (ix_nI (by omega)).mp c59
      refine V_aload_n 63 C dX10_turnWrite_62 rfl rfl ?_
      refine V_iload 65 C dX10_turnWrite_63 rfl rfl ?_
      refine V_callS 68 C dX10_turnWrite_65 rfl mX10_isSheet tw1067 (c_X10_isSheet l G _ _ a y hx hI (nI (q / 16 % 12))) rfl rfl (by decide) ⟨by omega, by omega⟩ (Nat.le_of_ble_eq_true rfl) ?_
      rintro _ _ _ ⟨rfl, rfl, rfl⟩
      refine V_if_eqB 110 71 C dX10_turnWrite_68 (by decide) rfl  (fun c68 => ?_) (fun c68 => ?_)
      · have hz : tnW w q y = y := by
          unfold tnW
          rw [if_neg (by omega), if_neg (fun e => c68 e.1.2.1)]
        refine V_return C dX10_turnWrite_110 rfl (by omega) (by omega) ?_
        first | exact ⟨rfl, rfl, by rw [hz, HR_id hx]⟩ | exact ⟨rfl, rfl, by rw [hz]⟩
      · have ib : (q / 16 % 12) < y 4 := (ix_nI (by omega)).mp c68
        refine V_aload_n 72 C dX10_turnWrite_71 rfl rfl ?_
        refine V_iload 74 C dX10_turnWrite_72 rfl rfl ?_
        refine V_callS 77 C dX10_turnWrite_74 rfl mX10_isSheet tw1067 (c_X10_isSheet l G _ _ a y hx hI (nI (q / 256 % 12))) rfl rfl (by decide) ⟨by omega, by omega⟩ (Nat.le_of_ble_eq_true rfl) ?_
        rintro _ _ _ ⟨rfl, rfl, rfl⟩
        refine V_if_eqB 110 80 C dX10_turnWrite_77 (by decide) rfl  (fun c77 => ?_) (fun c77 => ?_)
        · have hz : tnW w q y = y := by
            unfold tnW
            rw [if_neg (by omega), if_neg (fun e => c77 e.1.2.2)]
          refine V_return C dX10_turnWrite_110 rfl (by omega) (by omega) ?_
          first | exact ⟨rfl, rfl, by rw [hz, HR_id hx]⟩ | exact ⟨rfl, rfl, by rw [hz]⟩
        · have ic : (q / 256 % 12) < y 4 := (ix_nI (by omega)).mp c77
          refine V_aload_n 81 C dX10_turnWrite_80 rfl rfl ?_
          refine V_iload_n 82 C dX10_turnWrite_81 rfl rfl ?_
          refine V_iload 84 C dX10_turnWrite_82 rfl rfl ?_
          refine V_iload 86 C dX10_turnWrite_84 rfl rfl ?_
          refine V_iload_n 87 C dX10_turnWrite_86 rfl rfl ?_
          refine V_bipush 89 C dX10_turnWrite_87 rfl bip10 ?_
          refine V_iremN 90 C dX10_turnWrite_89 rfl (by omega) (by omega) (by omega) ?_
          refine V_callS 93 C dX10_turnWrite_90 rfl mX10_areProof tw1234 (c_X10_areProof l G _ _ a y hx hI (q % 12) (q / 16 % 12) (q / 256 % 12) (nI (q % 10)) ia ib ic) rfl rfl (by decide) ⟨by omega, by omega⟩ (Nat.le_of_ble_eq_true rfl) ?_
          rintro _ _ _ ⟨rfl, rfl, rfl⟩
          refine V_if_eqB 110 96 C dX10_turnWrite_93 (by decide) rfl  (fun c93 => ?_) (fun c93 => ?_)
          · have hz : tnW w q y = y := by
              unfold tnW
              rw [if_neg (by omega), if_neg (fun e => c93 ⟨e.2, (ix_nI (by omega)).mpr (by omega)⟩)]
            refine V_return C dX10_turnWrite_110 rfl (by omega) (by omega) ?_
            first | exact ⟨rfl, rfl, by rw [hz, HR_id hx]⟩ | exact ⟨rfl, rfl, by rw [hz]⟩
          · refine V_aload_n 97 C dX10_turnWrite_96 rfl rfl ?_
            refine V_iload_n 98 C dX10_turnWrite_97 rfl rfl ?_
            refine V_iload 100 C dX10_turnWrite_98 rfl rfl ?_
            refine V_iload 102 C dX10_turnWrite_100 rfl rfl ?_
            refine V_iload_n 103 C dX10_turnWrite_102 rfl rfl ?_
            refine V_bipush 105 C dX10_turnWrite_103 rfl bip10 ?_
            refine V_iremN 106 C dX10_turnWrite_105 rfl (by omega) (by omega) (by omega) ?_
            refine V_callS 109 C dX10_turnWrite_106 rfl mX10_proofOn tw1237 (c_X10_proofOn l G _ _ a y hx hI (q % 12) (q / 16 % 12) (q / 256 % 12) (q % 10) ia ib ic) rfl rfl (by decide) ⟨by omega, by omega⟩ (Nat.le_of_ble_eq_true rfl) ?_
            rintro _ _ _ ⟨rfl, rfl, rfl⟩
            have hz : tnW w q y = prOn y (q % 12) (q / 16 % 12) (q / 256 % 12) (q % 10) := by
              unfold tnW
              rw [if_neg (by omega), if_pos ⟨⟨c59, c68, c77⟩, c93.1⟩]
            refine V_pop 110 C dX10_turnWrite_109 rfl rfl ?_
            refine V_return C dX10_turnWrite_110 rfl (by omega) (by omega) ?_
            first | exact ⟨rfl, rfl, by rw [hz, HR_id hx]⟩ | exact ⟨rfl, rfl, by rw [hz]⟩
  · refine V_aload_n 31 C dX10_turnWrite_30 rfl rfl ?_
    refine V_iload_n 32 C dX10_turnWrite_31 rfl rfl ?_
    refine V_callS 35 C dX10_turnWrite_32 rfl mX10_isSheet tw1067 (c_X10_isSheet l G _ _ a y hx hI (nI (q % 12))) rfl rfl (by decide) ⟨by omega, by omega⟩ (Nat.le_of_ble_eq_true rfl) ?_
    rintro _ _ _ ⟨rfl, rfl, rfl⟩
    refine V_if_eqB 110 38 C dX10_turnWrite_35 (by decide) rfl  (fun c35 => ?_) (fun c35 => ?_)
    · have hz : tnW w q y = y := by
        unfold tnW
        rw [if_pos (by omega), if_neg c35]
      refine V_return C dX10_turnWrite_110 rfl (by omega) (by omega) ?_
      first | exact ⟨rfl, rfl, by rw [hz, HR_id hx]⟩ | exact ⟨rfl, rfl, by rw [hz]⟩
    · have ia : (q % 12) < y 4 := (ix_nI (by omega)).mp c35
      refine V_aload_n 39 C dX10_turnWrite_38 rfl rfl ?_
      refine V_iload_n 40 C dX10_turnWrite_39 rfl rfl ?_
      refine V_iload_n 41 C dX10_turnWrite_40 rfl rfl ?_
      refine V_bipush 43 C dX10_turnWrite_41 rfl bip16 ?_
      refine V_idivN 44 C dX10_turnWrite_43 rfl (by omega) (by omega) (by omega) ?_
      refine V_bipush 46 C dX10_turnWrite_44 rfl bip10 ?_
      refine V_iremN 47 C dX10_turnWrite_46 rfl (by omega) (by omega) (by omega) ?_
      refine V_callS 50 C dX10_turnWrite_47 rfl mX10_copyOn tw1123 (c_X10_copyOn l G _ _ a y hx hI (q % 12) (q / 16 % 10) ia) rfl rfl (by decide) ⟨by omega, by omega⟩ (Nat.le_of_ble_eq_true rfl) ?_
      rintro _ _ _ ⟨rfl, rfl, rfl⟩
      have hz : tnW w q y = cpOn y (q % 12) (q / 16 % 10) := by
        unfold tnW
        rw [if_pos (by omega), if_pos c35]
      refine V_pop 51 C dX10_turnWrite_50 rfl rfl ?_
      refine V_goto 110 C dX10_turnWrite_51 (by decide) ?_
      refine V_return C dX10_turnWrite_110 rfl (by omega) (by omega) ?_
      first | exact ⟨rfl, rfl, by rw [hz, HR_id hx]⟩ | exact ⟨rfl, rfl, by rw [hz]⟩

