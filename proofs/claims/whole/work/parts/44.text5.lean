/-! THE TEXT: read by the reference -/
abbrev aT (g : Nat → Int32) : AE := .inl (0, 120, .inl g)
def mx (m N p o : Nat) (rf sc : Int32) (T : Nat → Nat) (g : Nat → Int32) (h : AH) : Prop := (N ≤ 120 ∧ p ≤ N) ∧ h m = some (obM m rf (nI N) sc (nI p) (nI o)) ∧ h (m + 1) = some (aT g) ∧ ∀ i, i < N → g i = nI (T i) ∧ T i < 256
def mH (h : AH) (m : Nat) (rf : Int32) (N : Nat) (sc : Int32) (p o : Nat) : AH := up h m (obM m rf (nI N) sc (nI p) (nI o))
theorem mH_mH (h : AH) (m : Nat) (rf : Int32) (N : Nat) (sc : Int32) (p o q o' : Nat) : mH (mH h m rf N sc p o) m rf N sc q o' = mH h m rf N sc q o' := up_up _ _ _ _
theorem mH_HR {a m : Nat} (hne : ¬ a = m) (h : AH) (rf : Int32) (N : Nat) (sc : Int32) (p o q o' : Nat) (y : Nat → Nat) : mH (HR (mH h m rf N sc p o) a y) m rf N sc q o' = HR (mH h m rf N sc q o') a y := up_3 (fun e => hne e.symm)
theorem mH_id {m N p o : Nat} {rf sc : Int32} {T : Nat → Nat} {g : Nat → Int32} {h : AH} (hT : mx m N p o rf sc T g h) : mH h m rf N sc p o = h := up_id hT.2.1
theorem mH_mx {m N p o q o' : Nat} {rf sc : Int32} {T : Nat → Nat} {g : Nat → Int32} {h : AH} (hT : mx m N p o rf sc T g h) (hq : q ≤ N) : mx m N q o' rf sc T g (mH h m rf N sc q o') := by
  obtain ⟨h0, h1, h2, h3⟩ := hT
  exact ⟨⟨h0.1, hq⟩, up_s _ _ _, by unfold mH; rw [up_n _ (by omega)]; exact h2, h3⟩
theorem mx_HR {m N p o a : Nat} {rf sc : Int32} {T : Nat → Nat} {g : Nat → Int32} {h : AH} {y : Nat → Nat} (hT : mx m N p o rf sc T g h) (h0 : ¬ a = m) (h1 : ¬ a = m + 1) : mx m N p o rf sc T g (HR h a y) := by
  obtain ⟨g0, g1, g2, g3⟩ := hT
  exact ⟨g0, by rw [HR_n (fun e => h0 e.symm)]; exact g1, by rw [HR_n (fun e => h1 e.symm)]; exact g2, g3⟩
theorem mH_row {m N p o a : Nat} {rf sc : Int32} {h : AH} {y : Nat → Nat} (hx : Row a y h) (h0 : ¬ a = m) : Row a y (mH h m rf N sc p o) := (up_n _ h0).trans hx
/-- behind a number that was read or not -/
def fg (T : Nat → Nat) (N lo hi w ah p : Nat) : Option Nat × Nat := if ah = NO then (none, p) else rn T N lo hi w 0 p
theorem fg_q {T : Nat → Nat} {N lo hi w ah p : Nat} (hp : p ≤ N) : p ≤ (fg T N lo hi w ah p).2 ∧ (fg T N lo hi w ah p).2 ≤ N := by
  unfold fg
  split
  · exact ⟨Nat.le_refl _, hp⟩
  · exact rn_p hp
theorem fg_v {T : Nat → Nat} {N lo hi w ah p r : Nat} (hw : 1 ≤ w) (e : (fg T N lo hi w ah p).1 = some r) : lo ≤ r ∧ r ≤ hi := by
  unfold fg at e
  split at e
  · cases e
  · exact rn_some hw e
theorem fg_o {T : Nat → Nat} {N lo hi w ah p : Nat} (hw : 1 ≤ w) (hh : hi ≤ 999999) : ona (fg T N lo hi w ah p).1 = NO ∨ ona (fg T N lo hi w ah p).1 < 2 ^ 31 := by
  cases hc : (fg T N lo hi w ah p).1 with
  | none => exact Or.inl rfl
  | some v => have := fg_v hw hc; exact Or.inr (by show v < _; omega)
theorem ona_no {o : Option Nat} {b : Nat} (hb : ∀ v, o = some v → v ≤ b) (h : b < NO) (e : ona o = NO) : o = none := by
  cases o with
  | none => rfl
  | some v => have := hb v rfl; have e' : v = NO := e; omega
theorem fg_0 {T : Nat → Nat} {N lo hi w p : Nat} : fg T N lo hi w 0 p = rn T N lo hi w 0 p := if_neg (by decide)
/-- one number -/
theorem ch1 {T : Nat → Nat} {N p lo1 hi1 w1 : Nat} (h1 : 1 ≤ w1) (b1 : hi1 < NO) {k : Nat → Nat → Option (Nat × Nat × Nat) × Nat} :
    (ona (fg T N lo1 hi1 w1 0 p).1 = NO ∧ bd (rn T N lo1 hi1 w1 0 p) k = (none, (fg T N lo1 hi1 w1 0 p).2)) ∨ ∃ a, (lo1 ≤ a ∧ a ≤ hi1) ∧ ona (fg T N lo1 hi1 w1 0 p).1 = a ∧ (rn T N lo1 hi1 w1 0 p).1 = some a ∧ bd (rn T N lo1 hi1 w1 0 p) k = k a (fg T N lo1 hi1 w1 0 p).2 := by
  rw [fg_0]
  cases hc : (rn T N lo1 hi1 w1 0 p).1 with
  | none => exact Or.inl ⟨rfl, bd_n hc⟩
  | some a => exact Or.inr ⟨a, rn_some h1 hc, rfl, rfl, bd_s hc⟩
/-- and one more -/
theorem ch2 {T : Nat → Nat} {N p a : Nat} {lo1 hi1 w1 : Nat} (h1 : 1 ≤ w1) (ha : a < NO) {k : Nat → Nat → Option (Nat × Nat × Nat) × Nat} :
    (ona (fg T N lo1 hi1 w1 a p).1 = NO ∧ bd (rn T N lo1 hi1 w1 0 p) k = (none, (fg T N lo1 hi1 w1 a p).2)) ∨ ∃ b, (lo1 ≤ b ∧ b ≤ hi1) ∧ ona (fg T N lo1 hi1 w1 a p).1 = b ∧ bd (rn T N lo1 hi1 w1 0 p) k = k b (fg T N lo1 hi1 w1 a p).2 := by
  have e : fg T N lo1 hi1 w1 a p = rn T N lo1 hi1 w1 0 p := if_neg (by omega)
  rw [e]
  cases hc : (rn T N lo1 hi1 w1 0 p).1 with
  | none => exact Or.inl ⟨rfl, bd_n hc⟩
  | some b => exact Or.inr ⟨b, rn_some h1 hc, rfl, bd_s hc⟩
theorem fg_NO {T : Nat → Nat} {N lo hi w p : Nat} : fg T N lo hi w NO p = (none, p) := if_pos rfl
/-- what a command does -/
def rdP (m a N p0 o n : Nat) (rf sc : Int32) (T y : Nat → Nat) (h : AH) : Option Value → Nat → AH → Prop := fun v n' h' => n = n' ∧ (((rcm T N p0).1 = none ∧ v = some (.int (nI 0)) ∧ h' = mH h m rf N sc (rcm T N p0).2 o) ∨ ∃ a1 b1 c1, (rcm T N p0).1 = some (a1, b1, c1) ∧ v = some (.int (nI 1)) ∧ h' = HR (mH h m rf N sc (rcm T N p0).2 (o + bp ((gv (T p0) a1 b1 c1 y).1 = false))) a (gv (T p0) a1 b1 c1 y).2)
theorem rdP_n {m a N p0 o n q : Nat} {rf sc : Int32} {T y : Nat → Nat} {h : AH} (hR : rcm T N p0 = (none, q)) : rdP m a N p0 o n rf sc T y h (some (.int (nI 0))) n (mH h m rf N sc q o) := ⟨rfl, Or.inl ⟨by rw [hR], rfl, by rw [hR]⟩⟩
theorem rdP_f {m a N p0 o n q a1 b1 c1 : Nat} {rf sc : Int32} {T y : Nat → Nat} {h : AH} (hx : Row a y h) (hne : ¬ a = m) (hR : rcm T N p0 = (some (a1, b1, c1), q)) (hg : gv (T p0) a1 b1 c1 y = (false, y)) : rdP m a N p0 o n rf sc T y h (some (.int (nI 1))) n (mH h m rf N sc q (o + 1)) := ⟨rfl, Or.inr ⟨a1, b1, c1, by rw [hR], rfl, by
  rw [hR, hg, show bp ((false, y).1 = false) = 1 from bp_t rfl]
  exact (HR_id (mH_row hx hne)).symm⟩⟩
theorem rdP_t {m a N p0 o n q a1 b1 c1 : Nat} {rf sc : Int32} {T y y' : Nat → Nat} {h : AH} (hR : rcm T N p0 = (some (a1, b1, c1), q)) (hg : gv (T p0) a1 b1 c1 y = (true, y')) : rdP m a N p0 o n rf sc T y h (some (.int (nI 1))) n (HR (mH h m rf N sc q (o + 0)) a y') := ⟨rfl, Or.inr ⟨a1, b1, c1, by rw [hR], rfl, by
  rw [hR, hg, show bp ((true, y').1 = false) = 0 from bp_f (fun e => by cases e)]⟩⟩
theorem okn {v : Nat} {y : Nat → Nat} (h : v < 2 ^ 31) : ok (nI v, y) = true := ok_t (by
  show ¬ nI v < 0
  rw [Int32.lt_iff_toInt_lt, nI_toInt h, show (0 : Int32).toInt = 0 from rfl]
  omega)
theorem okN (y : Nat → Nat) : ok (cN, y) = false := ok_f (show cN < 0 from by decide +kernel)
theorem okR (y : Nat → Nat) : ok (cR, y) = false := ok_f (show cR < 0 from by decide +kernel)
theorem okW (y : Nat → Nat) : ok (cW, y) = false := ok_f (show cW < 0 from by decide +kernel)
theorem toI48 {t : Nat} (ht : t < 256) : (nI t - nI 48).toInt = (t : Int) - 48 := by
  have key : ((List.range 256).all fun t => decide ((nI t - nI 48).toInt = (t : Int) - 48)) = true := by decide +kernel
  exact of_decide_eq_true (List.all_eq_true.mp key t (List.mem_range.mpr ht))
theorem dX10_figures_0 : decode cX10_figures 0 = .ok (.iconst 0, 1) := by decide +kernel
theorem dX10_figures_1 : decode cX10_figures 1 = .ok (.istore 5, 2) := by decide +kernel
theorem dX10_figures_3 : decode cX10_figures 3 = .ok (.iload_n 2, 1) := by decide +kernel
theorem dX10_figures_4 : decode cX10_figures 4 = .ok (.istore 6, 2) := by decide +kernel
theorem dX10_figures_6 : decode cX10_figures 6 = .ok (.iload 6, 2) := by decide +kernel
theorem dX10_figures_8 : decode cX10_figures 8 = .ok (.ifCond .le 104, 3) := by decide +kernel
theorem dX10_figures_11 : decode cX10_figures 11 = .ok (.iload_n 1, 1) := by decide +kernel
theorem dX10_figures_12 : decode cX10_figures 12 = .ok (.iconst (-1), 1) := by decide +kernel
theorem dX10_figures_13 : decode cX10_figures 13 = .ok (.if_icmp .eq 99, 3) := by decide +kernel
theorem dX10_figures_16 : decode cX10_figures 16 = .ok (.aload_n 0, 1) := by decide +kernel
theorem dX10_figures_17 : decode cX10_figures 17 = .ok (.getfield 128, 3) := by decide +kernel
theorem dX10_figures_20 : decode cX10_figures 20 = .ok (.aload_n 0, 1) := by decide +kernel
theorem dX10_figures_21 : decode cX10_figures 21 = .ok (.getfield 121, 3) := by decide +kernel
theorem dX10_figures_24 : decode cX10_figures 24 = .ok (.if_icmp .ge 18, 3) := by decide +kernel
theorem dX10_figures_27 : decode cX10_figures 27 = .ok (.aload_n 0, 1) := by decide +kernel
theorem dX10_figures_28 : decode cX10_figures 28 = .ok (.getfield 7, 3) := by decide +kernel
theorem dX10_figures_31 : decode cX10_figures 31 = .ok (.aload_n 0, 1) := by decide +kernel
theorem dX10_figures_32 : decode cX10_figures 32 = .ok (.getfield 128, 3) := by decide +kernel
theorem dX10_figures_35 : decode cX10_figures 35 = .ok (.iaload, 1) := by decide +kernel
theorem dX10_figures_36 : decode cX10_figures 36 = .ok (.bipush 48, 2) := by decide +kernel
theorem dX10_figures_38 : decode cX10_figures 38 = .ok (.isub, 1) := by decide +kernel
theorem dX10_figures_39 : decode cX10_figures 39 = .ok (.goto 4, 3) := by decide +kernel
theorem dX10_figures_42 : decode cX10_figures 42 = .ok (.iconst (-1), 1) := by decide +kernel
theorem dX10_figures_43 : decode cX10_figures 43 = .ok (.istore 7, 2) := by decide +kernel
theorem dX10_figures_45 : decode cX10_figures 45 = .ok (.iload 5, 2) := by decide +kernel
theorem dX10_figures_47 : decode cX10_figures 47 = .ok (.iload 7, 2) := by decide +kernel
theorem dX10_figures_49 : decode cX10_figures 49 = .ok (.iload 6, 2) := by decide +kernel
theorem dX10_figures_51 : decode cX10_figures 51 = .ok (.imul, 1) := by decide +kernel
theorem dX10_figures_52 : decode cX10_figures 52 = .ok (.iadd, 1) := by decide +kernel
theorem dX10_figures_53 : decode cX10_figures 53 = .ok (.istore 8, 2) := by decide +kernel
theorem dX10_figures_55 : decode cX10_figures 55 = .ok (.iload 7, 2) := by decide +kernel
theorem dX10_figures_57 : decode cX10_figures 57 = .ok (.i2l, 1) := by decide +kernel
theorem dX10_figures_58 : decode cX10_figures 58 = .ok (.lconst 0, 1) := by decide +kernel
theorem dX10_figures_59 : decode cX10_figures 59 = .ok (.ldc2_w 92, 3) := by decide +kernel
theorem dX10_figures_62 : decode cX10_figures 62 = .ok (.invokestatic 40, 3) := by decide +kernel
theorem dX10_figures_65 : decode cX10_figures 65 = .ok (.ifCond .eq 21, 3) := by decide +kernel
theorem dX10_figures_68 : decode cX10_figures 68 = .ok (.iload 8, 2) := by decide +kernel
theorem dX10_figures_70 : decode cX10_figures 70 = .ok (.iload 4, 2) := by decide +kernel
theorem dX10_figures_72 : decode cX10_figures 72 = .ok (.if_icmp .gt 14, 3) := by decide +kernel
theorem dX10_figures_75 : decode cX10_figures 75 = .ok (.iload 8, 2) := by decide +kernel
theorem dX10_figures_77 : decode cX10_figures 77 = .ok (.iload 6, 2) := by decide +kernel
theorem dX10_figures_79 : decode cX10_figures 79 = .ok (.iadd, 1) := by decide +kernel
theorem dX10_figures_80 : decode cX10_figures 80 = .ok (.iconst 1, 1) := by decide +kernel
theorem dX10_figures_81 : decode cX10_figures 81 = .ok (.isub, 1) := by decide +kernel
theorem dX10_figures_82 : decode cX10_figures 82 = .ok (.iload_n 3, 1) := by decide +kernel
theorem dX10_figures_83 : decode cX10_figures 83 = .ok (.if_icmp .ge 5, 3) := by decide +kernel
theorem dX10_figures_86 : decode cX10_figures 86 = .ok (.iconst (-1), 1) := by decide +kernel
theorem dX10_figures_87 : decode cX10_figures 87 = .ok (.ireturn, 1) := by decide +kernel
theorem dX10_figures_88 : decode cX10_figures 88 = .ok (.iload 8, 2) := by decide +kernel
theorem dX10_figures_90 : decode cX10_figures 90 = .ok (.istore 5, 2) := by decide +kernel
theorem dX10_figures_92 : decode cX10_figures 92 = .ok (.aload_n 0, 1) := by decide +kernel
theorem dX10_figures_93 : decode cX10_figures 93 = .ok (.dup, 1) := by decide +kernel
theorem dX10_figures_94 : decode cX10_figures 94 = .ok (.getfield 128, 3) := by decide +kernel
theorem dX10_figures_97 : decode cX10_figures 97 = .ok (.iconst 1, 1) := by decide +kernel
theorem dX10_figures_98 : decode cX10_figures 98 = .ok (.iadd, 1) := by decide +kernel
theorem dX10_figures_99 : decode cX10_figures 99 = .ok (.putfield 128, 3) := by decide +kernel
theorem dX10_figures_102 : decode cX10_figures 102 = .ok (.iload 6, 2) := by decide +kernel
theorem dX10_figures_104 : decode cX10_figures 104 = .ok (.bipush 10, 2) := by decide +kernel
theorem dX10_figures_106 : decode cX10_figures 106 = .ok (.idiv, 1) := by decide +kernel
theorem dX10_figures_107 : decode cX10_figures 107 = .ok (.istore 6, 2) := by decide +kernel
theorem dX10_figures_109 : decode cX10_figures 109 = .ok (.goto (-103), 3) := by decide +kernel
theorem dX10_figures_112 : decode cX10_figures 112 = .ok (.iload_n 1, 1) := by decide +kernel
theorem dX10_figures_113 : decode cX10_figures 113 = .ok (.iconst (-1), 1) := by decide +kernel
theorem dX10_figures_114 : decode cX10_figures 114 = .ok (.if_icmp .ne 7, 3) := by decide +kernel
theorem dX10_figures_117 : decode cX10_figures 117 = .ok (.iconst (-1), 1) := by decide +kernel
theorem dX10_figures_118 : decode cX10_figures 118 = .ok (.goto 5, 3) := by decide +kernel
theorem dX10_figures_121 : decode cX10_figures 121 = .ok (.iload 5, 2) := by decide +kernel
theorem dX10_figures_123 : decode cX10_figures 123 = .ok (.ireturn, 1) := by decide +kernel
set_option maxRecDepth 100000 in
set_option maxHeartbeats 4000000 in
theorem c_X10_figures (l : Launch) (G : GT) (n : Nat) (h : AH) (m N p o : Nat) (rf sc : Int32) (T : Nat → Nat) (g : Nat → Int32) (hT : mx m N p o rf sc T g h) (ah w lo hi : Nat) (hah : ah = NO ∨ ah < 2 ^ 31) (h1 : 1 ≤ w) (h6 : w ≤ 6) (hlo : lo ≤ 1) (hhi : hi ≤ 999999) : Ct l yX10_figures cX10_figures 9 (some .int) 2 0 0 G n h [.ref m, .int (nI ah), .int (nI (uw w)), .int (nI lo), .int (nI hi)] (Ri (nI (ona (fg T N lo hi w ah p).1)) n (fun h' => h' = mH h m rf N sc (fg T N lo hi w ah p).2 o)) := by
  obtain ⟨⟨hN, hpN⟩, hm, hg, hch⟩ := id hT
  have NE := NO_eq
  refine Ct_of mX10_figures.1 (Nat.le_of_ble_eq_true rfl) ?_
  intro p₀ e₀ s₀ m₀ as₀ bl₀ me₀ c₀ C hin
  refine V_Le (L' := [(0, .ref m), (1, .int (nI ah)), (2, .int (nI (uw w))), (3, .int (nI lo)), (4, .int (nI hi))]) rfl ?_
  refine V_iconst 1 C dX10_figures_0 rfl ic0 ?_
  refine V_istore 3 C dX10_figures_1 rfl (by decide) (L' := [(0, _), (1, _), (2, _), (3, _), (4, _), (5, _)]) rfl ?_
  refine V_iload_n 4 C dX10_figures_3 rfl rfl ?_
  refine V_istore 6 C dX10_figures_4 rfl (by decide) (L' := [(0, _), (1, _), (2, _), (3, _), (4, _), (5, _), (6, _)]) rfl ?_
  have J6 : ∀ (fuel : Nat) (k v p1 : Nat) (hk : k ≤ w) (hp1 : p1 ≤ N) (hv : v ≤ 999999) (hr : ¬ ah = NO → rn T N lo hi k v p1 = rn T N lo hi w 0 p) (hr0 : ah = NO → p1 = p), k < fuel → V p₀ l e₀ (rmD 2 0 0) s₀ m₀ as₀ bl₀ me₀ c₀ (MQ bl₀ (Po G (Ri (nI (ona (fg T N lo hi w ah p).1)) n (fun h' => h' = mH h m rf N sc (fg T N lo hi w ah p).2 o))) as₀ s₀ 0 0 (rg G)) G 9 0 0 n (mH h m rf N sc p1 o) 6 [(0, .ref m), (1, .int (nI ah)), (3, .int (nI lo)), (4, .int (nI hi)), (5, .int (nI v)), (6, .int (nI (uw k)))] [] := by
    intro fuel
    induction fuel with
    | zero => intro k v p1 hk hp1 hv hr hr0 hf; omega
    | succ fuel ih6 =>
      intro k v p1 hk hp1 hv hr hr0 hf
      have hu : uw k ≤ 100000 := uw_le (by omega)
      have hTA : mx m N p1 o rf sc T g (mH h m rf N sc p1 o) := mH_mx hT (by omega)
      obtain ⟨⟨hNA, hpNA⟩, hmA, hgA, hchA⟩ := id hTA
      refine V_iload 8 C dX10_figures_6 rfl rfl ?_
      refine V_if_leN 112 11 C dX10_figures_8 (by decide) rfl (by omega) (fun c8 => ?_) (fun c8 => ?_)
      · have hk0 : k = 0 := by
          by_cases e : k = 0
          · exact e
          · have := uw_pos (k := k) (by omega); omega
        subst hk0
        refine V_iload_n 113 C dX10_figures_112 rfl rfl ?_
        refine V_iconst 114 C dX10_figures_113 rfl icm1 ?_
        refine V_icmp_neN 121 117 C dX10_figures_114 (by decide) rfl (by omega) (by omega) (fun c114 => ?_) (fun c114 => ?_)
        · have en : ¬ ah = NO := by omega
          have e3 : rn T N lo hi w 0 p = (some v, p1) := by first | exact (hr en).symm | exact absurd c13 en
          have hz1 : nI v = nI (ona (fg T N lo hi w ah p).1) := by unfold fg; rw [if_neg en, e3]; rfl
          have hz2 : mH h m rf N sc p1 o = mH h m rf N sc (fg T N lo hi w ah p).2 o := by unfold fg; rw [if_neg en, e3]
          refine V_iload 123 C dX10_figures_121 rfl rfl ?_
          refine V_ireturn C dX10_figures_123 rfl rfl (by omega) (by omega) ?_
          exact ⟨by rw [hz1], rfl, hz2⟩
        · have ea : ah = NO := by omega
          subst ea
          have hz1 : nI 4294967295 = nI (ona (fg T N lo hi w NO p).1) := by rw [fg_NO]; rfl
          have hz2 : mH h m rf N sc p1 o = mH h m rf N sc (fg T N lo hi w NO p).2 o := by rw [fg_NO, hr0 rfl]
          refine V_iconst 118 C dX10_figures_117 rfl icm1 ?_
          refine V_goto 123 C dX10_figures_118 (by decide) ?_
          refine V_ireturn C dX10_figures_123 rfl rfl (by omega) (by omega) ?_
          exact ⟨by rw [hz1], rfl, hz2⟩
      · have hk0 : 0 < k := by
          by_cases e : k = 0
          · subst e; exact absurd c8 (by decide)
          · omega
        have hup := uw_pos (k := k) hk0
        refine V_iload_n 12 C dX10_figures_11 rfl rfl ?_
        refine V_iconst 13 C dX10_figures_12 rfl icm1 ?_
        refine V_icmp_eqN 112 16 C dX10_figures_13 (by decide) rfl (by omega) (by omega) (fun c13 => ?_) (fun c13 => ?_)
        · refine V_iload_n 113 C dX10_figures_112 rfl rfl ?_
          refine V_iconst 114 C dX10_figures_113 rfl icm1 ?_
          refine V_icmp_neN 121 117 C dX10_figures_114 (by decide) rfl (by omega) (by omega) (fun c114 => ?_) (fun c114 => ?_)
          · have en : ¬ ah = NO := by omega
            have e3 : rn T N lo hi w 0 p = (some v, p1) := by first | exact (hr en).symm | exact absurd c13 en
            have hz1 : nI v = nI (ona (fg T N lo hi w ah p).1) := by unfold fg; rw [if_neg en, e3]; rfl
            have hz2 : mH h m rf N sc p1 o = mH h m rf N sc (fg T N lo hi w ah p).2 o := by unfold fg; rw [if_neg en, e3]
            refine V_iload 123 C dX10_figures_121 rfl rfl ?_
            refine V_ireturn C dX10_figures_123 rfl rfl (by omega) (by omega) ?_
            exact ⟨by rw [hz1], rfl, hz2⟩
          · have ea : ah = NO := by omega
            subst ea
            have hz1 : nI 4294967295 = nI (ona (fg T N lo hi w NO p).1) := by rw [fg_NO]; rfl
            have hz2 : mH h m rf N sc p1 o = mH h m rf N sc (fg T N lo hi w NO p).2 o := by rw [fg_NO, hr0 rfl]
            refine V_iconst 118 C dX10_figures_117 rfl icm1 ?_
            refine V_goto 123 C dX10_figures_118 (by decide) ?_
            refine V_ireturn C dX10_figures_123 rfl rfl (by omega) (by omega) ?_
            exact ⟨by rw [hz1], rfl, hz2⟩
        · have c13 : ¬ ah = NO := by omega
          refine V_aload_n 17 C dX10_figures_16 rfl rfl ?_
          have J43 : ∀ (t : Nat) (ht : t ≤ 9) (hp2 : p1 < N) (hTt : T p1 = t + 48), V p₀ l e₀ (rmD 2 0 0) s₀ m₀ as₀ bl₀ me₀ c₀ (MQ bl₀ (Po G (Ri (nI (ona (fg T N lo hi w ah p).1)) n (fun h' => h' = mH h m rf N sc (fg T N lo hi w ah p).2 o))) as₀ s₀ 0 0 (rg G)) G 9 0 0 n (mH h m rf N sc p1 o) 43 [(0, .ref m), (1, .int (nI ah)), (3, .int (nI lo)), (4, .int (nI hi)), (5, .int (nI v)), (6, .int (nI (uw k)))] [.int (nI t)] := by
            intro t ht hp2 hTt
            have hz : t * uw k ≤ 9 * 100000 := Nat.mul_le_mul (by omega) hu
            have e48 : T p1 - 48 = t := by omega
            refine V_istore 45 C dX10_figures_43 rfl (by decide) (L' := [(0, _), (1, _), (3, _), (4, _), (5, _), (6, _), (7, _)]) rfl ?_
            refine V_iload 47 C dX10_figures_45 rfl rfl ?_
            refine V_iload 49 C dX10_figures_47 rfl rfl ?_
            refine V_iload 51 C dX10_figures_49 rfl rfl ?_
            refine V_imulN 52 C dX10_figures_51 rfl  ?_
            refine V_iaddN 53 C dX10_figures_52 rfl  ?_
            refine V_istore 55 C dX10_figures_53 rfl (by decide) (L' := [(0, _), (1, _), (3, _), (4, _), (5, _), (6, _), (7, _), (8, _)]) rfl ?_
            refine V_iload 57 C dX10_figures_55 rfl rfl ?_
            refine V_i2l 58 C dX10_figures_57 rfl  ?_
            refine V_lconst 59 C dX10_figures_58 rfl rfl ?_
            refine V_ldc2 62 C dX10_figures_59 rfl tw1024 ?_
            refine V_callS 65 C dX10_figures_62 rfl mX10_in tw982 (c_X10_in l G _ _ _ _ _) rfl rfl (by decide) ⟨by omega, by omega⟩ (Nat.le_of_ble_eq_true rfl) ?_
            rintro _ _ _ ⟨rfl, rfl, rfl⟩
            rw [Int32.toInt_toInt64, nI_toInt (show t < 2 ^ 31 by omega)]
            have hin : (Int64.toInt 0) ≤ (t : Int) ∧ (t : Int) ≤ Int64.toInt 9 := ⟨by rw [show Int64.toInt 0 = 0 from by decide]; omega, by rw [show Int64.toInt 9 = 9 from by decide]; omega⟩
            refine V_if_eqB 86 68 C dX10_figures_65 (by decide) rfl  (fun c65 => ?_) (fun c65 => ?_)
            · exact absurd hin c65
            · refine V_iload 70 C dX10_figures_68 rfl rfl ?_
              refine V_iload 72 C dX10_figures_70 rfl rfl ?_
              refine V_icmp_gtN 86 75 C dX10_figures_72 (by decide) rfl (by omega) (by omega) (fun c72 => ?_) (fun c72 => ?_)
              · have e1 := (rn_f hk0 (fun c => by have := c.2; rw [e48] at this; omega)).symm.trans (hr c13)
                refine V_iconst 87 C dX10_figures_86 rfl icm1 ?_
                refine V_ireturn C dX10_figures_87 rfl rfl (by omega) (by omega) ?_
                exact ⟨by show _ = some (Value.int (nI (ona (fg T N lo hi w ah p).1))); unfold fg; rw [if_neg c13, ← e1]; rfl, rfl, by unfold fg; rw [if_neg c13, ← e1]⟩
              · refine V_iload 77 C dX10_figures_75 rfl rfl ?_
                refine V_iload 79 C dX10_figures_77 rfl rfl ?_
                refine V_iaddN 80 C dX10_figures_79 rfl  ?_
                refine V_iconst 81 C dX10_figures_80 rfl ic1 ?_
                refine V_isubN 82 C dX10_figures_81 rfl (by omega) ?_
                refine V_iload_n 83 C dX10_figures_82 rfl rfl ?_
                refine V_icmp_geN 88 86 C dX10_figures_83 (by decide) rfl (by omega) (by omega) (fun c83 => ?_) (fun c83 => ?_)
                · have hrc : rc T N lo hi k v p1 := ⟨by omega, by omega, by omega, by rw [e48]; omega, by rw [e48]; omega⟩
                  have e1 := (rn_t hk0 hrc).symm.trans (hr c13)
                  rw [e48] at e1
                  refine V_iload 90 C dX10_figures_88 rfl rfl ?_
                  refine V_istore 92 C dX10_figures_90 rfl (by decide) (L' := [(0, _), (1, _), (3, _), (4, _), (5, _), (6, _), (7, _), (8, _)]) rfl ?_
                  refine V_aload_n 93 C dX10_figures_92 rfl rfl ?_
                  refine V_dup 94 C dX10_figures_93 rfl rfl ?_
                  refine V_get (k := 10) 97 C dX10_figures_94 rfl fcX10 tw946 (by decide) rfl hmA rfl ?_
                  refine V_iconst 98 C dX10_figures_97 rfl ic1 ?_
                  refine V_iaddN 99 C dX10_figures_98 rfl  ?_
                  refine V_put (fs' := [_, _, _, _, _, _, _, _, _, _, _, _]) (k := 10) 102 C dX10_figures_99 rfl fcX10 tw946 (by decide) rfl rfl hmA rfl rfl (Nat.le_of_ble_eq_true rfl) rfl ?_
                  rw [show (up (mH h m rf N sc p1 o) m (obM m rf (nI N) sc (nI (p1 + 1)) (nI o))) = mH h m rf N sc (p1 + 1) o from up_up _ _ _ _]
                  refine V_iload 104 C dX10_figures_102 rfl rfl ?_
                  refine V_bipush 106 C dX10_figures_104 rfl bip10 ?_
                  refine V_idivN 107 C dX10_figures_106 rfl (by omega) (by omega) (by omega) ?_
                  refine V_istore 109 C dX10_figures_107 rfl (by decide) (L' := [(0, _), (1, _), (3, _), (4, _), (5, _), (6, _), (7, _), (8, _)]) rfl ?_
                  refine V_goto 6 C dX10_figures_109 (by decide) ?_
                  refine V_L [0, 1, 3, 4, 5, 6] rfl ?_
                  rw [show uw k / 10 = uw (k - 1) from by have := uw_d (k - 1); rw [show k - 1 + 1 = k from by omega] at this; exact this]
                  exact ih6 (k - 1) _ (p1 + 1) (by omega) (by omega) (by omega) (fun _ => e1) (fun e => absurd e c13) (by omega)
                · have e1 := (rn_f hk0 (fun c => by have := c.2; rw [e48] at this; omega)).symm.trans (hr c13)
                  refine V_iconst 87 C dX10_figures_86 rfl icm1 ?_
                  refine V_ireturn C dX10_figures_87 rfl rfl (by omega) (by omega) ?_
                  exact ⟨by show _ = some (Value.int (nI (ona (fg T N lo hi w ah p).1))); unfold fg; rw [if_neg c13, ← e1]; rfl, rfl, by unfold fg; rw [if_neg c13, ← e1]⟩
          have J43b : ∀ (t : Int32) (ht : ¬ (0 ≤ t.toInt ∧ t.toInt ≤ 9)) (hb : ¬ rc T N lo hi k v p1), V p₀ l e₀ (rmD 2 0 0) s₀ m₀ as₀ bl₀ me₀ c₀ (MQ bl₀ (Po G (Ri (nI (ona (fg T N lo hi w ah p).1)) n (fun h' => h' = mH h m rf N sc (fg T N lo hi w ah p).2 o))) as₀ s₀ 0 0 (rg G)) G 9 0 0 n (mH h m rf N sc p1 o) 43 [(0, .ref m), (1, .int (nI ah)), (3, .int (nI lo)), (4, .int (nI hi)), (5, .int (nI v)), (6, .int (nI (uw k)))] [.int t] := by
            intro t ht hb
            have e1 := (rn_f hk0 hb).symm.trans (hr c13)
            refine V_istore 45 C dX10_figures_43 rfl (by decide) (L' := [(0, _), (1, _), (3, _), (4, _), (5, _), (6, _), (7, _)]) rfl ?_
            refine V_iload 47 C dX10_figures_45 rfl rfl ?_
            refine V_iload 49 C dX10_figures_47 rfl rfl ?_
            refine V_iload 51 C dX10_figures_49 rfl rfl ?_
            refine V_imul 52 C dX10_figures_51 rfl  ?_
            refine V_iadd 53 C dX10_figures_52 rfl  ?_
            refine V_istore 55 C dX10_figures_53 rfl (by decide) (L' := [(0, _), (1, _), (3, _), (4, _), (5, _), (6, _), (7, _), (8, _)]) rfl ?_
            refine V_iload 57 C dX10_figures_55 rfl rfl ?_
            refine V_i2l 58 C dX10_figures_57 rfl  ?_
            refine V_lconst 59 C dX10_figures_58 rfl rfl ?_
            refine V_ldc2 62 C dX10_figures_59 rfl tw1024 ?_
            refine V_callS 65 C dX10_figures_62 rfl mX10_in tw982 (c_X10_in l G _ _ _ _ _) rfl rfl (by decide) ⟨by omega, by omega⟩ (Nat.le_of_ble_eq_true rfl) ?_
            rintro _ _ _ ⟨rfl, rfl, rfl⟩
            rw [Int32.toInt_toInt64]
            have hin : ¬ ((Int64.toInt 0) ≤ t.toInt ∧ t.toInt ≤ Int64.toInt 9) := by rw [show Int64.toInt 0 = 0 from by decide, show Int64.toInt 9 = 9 from by decide]; exact ht
            refine V_if_eqB 86 68 C dX10_figures_65 (by decide) rfl  (fun c65 => ?_) (fun c65 => ?_)
            · refine V_iconst 87 C dX10_figures_86 rfl icm1 ?_
              refine V_ireturn C dX10_figures_87 rfl rfl (by omega) (by omega) ?_
              exact ⟨by show _ = some (Value.int (nI (ona (fg T N lo hi w ah p).1))); unfold fg; rw [if_neg c13, ← e1]; rfl, rfl, by unfold fg; rw [if_neg c13, ← e1]⟩
            · exact absurd c65 hin
          refine V_get (k := 10) 20 C dX10_figures_17 rfl fcX10 tw946 (by decide) rfl hmA rfl ?_
          refine V_aload_n 21 C dX10_figures_20 rfl rfl ?_
          refine V_get (k := 2) 24 C dX10_figures_21 rfl fcX10 tw938 (by decide) rfl hmA rfl ?_
          refine V_icmp_geN 42 27 C dX10_figures_24 (by decide) rfl (by omega) (by omega) (fun c24 => ?_) (fun c24 => ?_)
          · have hnr : ¬ rc T N lo hi k v p1 := fun c => by have := c.1; omega
            refine V_iconst 43 C dX10_figures_42 rfl icm1 ?_
            refine V_L [0, 1, 3, 4, 5, 6] rfl ?_
            exact J43b _ (by decide) hnr
          · obtain ⟨hg1, hT1⟩ := hchA p1 (by omega)
            refine V_aload_n 28 C dX10_figures_27 rfl rfl ?_
            refine V_get (k := 1) 31 C dX10_figures_28 rfl fcX10 tw937 (by decide) rfl hmA rfl ?_
            refine V_aload_n 32 C dX10_figures_31 rfl rfl ?_
            refine V_get (k := 10) 35 C dX10_figures_32 rfl fcX10 tw946 (by decide) rfl hmA rfl ?_
            refine V_iald (j := p1) 36 C dX10_figures_35 rfl hgA rfl (by omega) (by omega) ?_
            rw [hg1]
            refine V_bipush 38 C dX10_figures_36 rfl bip48 ?_
            refine V_isub 39 C dX10_figures_38 rfl  ?_
            refine V_goto 43 C dX10_figures_39 (by decide) ?_
            refine V_L [0, 1, 3, 4, 5, 6] rfl ?_
            by_cases hd : 48 ≤ T p1 ∧ T p1 ≤ 57
            · rw [pk_sub (show 48 ≤ T p1 by omega)]
              exact J43 (T p1 - 48) (by omega) (by omega) (by omega)
            · refine J43b _ ?_ (fun c => hd ⟨c.2.1, c.2.2.1⟩)
              have e := toI48 (t := T p1) (by omega)
              rw [e]
              omega
  refine V_L [0, 1, 3, 4, 5, 6] rfl ?_
  have J := J6 (w + 1) w 0 p (by omega) (by omega) (by omega) (fun _ => rfl) (fun _ => rfl) (by omega)
  rw [mH_id hT] at J
  exact J

theorem dX10_done_0 : decode cX10_done 0 = .ok (.aload_n 0, 1) := by decide +kernel
theorem dX10_done_1 : decode cX10_done 1 = .ok (.dup, 1) := by decide +kernel
theorem dX10_done_2 : decode cX10_done 2 = .ok (.getfield 131, 3) := by decide +kernel
theorem dX10_done_5 : decode cX10_done 5 = .ok (.iload_n 1, 1) := by decide +kernel
theorem dX10_done_6 : decode cX10_done 6 = .ok (.ifCond .eq 7, 3) := by decide +kernel
theorem dX10_done_9 : decode cX10_done 9 = .ok (.iconst 0, 1) := by decide +kernel
theorem dX10_done_10 : decode cX10_done 10 = .ok (.goto 4, 3) := by decide +kernel
theorem dX10_done_13 : decode cX10_done 13 = .ok (.iconst 1, 1) := by decide +kernel
theorem dX10_done_14 : decode cX10_done 14 = .ok (.iadd, 1) := by decide +kernel
theorem dX10_done_15 : decode cX10_done 15 = .ok (.putfield 131, 3) := by decide +kernel
theorem dX10_done_18 : decode cX10_done 18 = .ok (.iconst 1, 1) := by decide +kernel
theorem dX10_done_19 : decode cX10_done 19 = .ok (.ireturn, 1) := by decide +kernel
set_option maxRecDepth 100000 in
set_option maxHeartbeats 4000000 in
theorem c_X10_done (l : Launch) (G : GT) (n : Nat) (h : AH) (m N p o : Nat) (rf sc : Int32) (T : Nat → Nat) (g : Nat → Int32) (hT : mx m N p o rf sc T g h) (b : Nat) (hb : b ≤ 1) : Ct l yX10_done cX10_done 2 (some .boolean) 1 0 0 G n h [.ref m, .int (nI b)] (Ri (nI 1) n (fun h' => h' = mH h m rf N sc p (o + (1 - b)))) := by
  obtain ⟨⟨hN, hpN⟩, hm, hg, hch⟩ := id hT
  have NE := NO_eq
  refine Ct_of mX10_done.1 (Nat.le_of_ble_eq_true rfl) ?_
  intro p₀ e₀ s₀ m₀ as₀ bl₀ me₀ c₀ C hin
  refine V_Le (L' := [(0, .ref m), (1, .int (nI b))]) rfl ?_
  refine V_aload_n 1 C dX10_done_0 rfl rfl ?_
  refine V_dup 2 C dX10_done_1 rfl rfl ?_
  refine V_get (k := 11) 5 C dX10_done_2 rfl fcX10 tw947 (by decide) rfl hm rfl ?_
  refine V_iload_n 6 C dX10_done_5 rfl rfl ?_
  refine V_if_eqN 13 9 C dX10_done_6 (by decide) rfl (by omega) (fun c6 => ?_) (fun c6 => ?_)
  · have eb : 1 - b = 1 := by omega
    refine V_iconst 14 C dX10_done_13 rfl ic1 ?_
    refine V_iaddN 15 C dX10_done_14 rfl  ?_
    refine V_put (fs' := [_, _, _, _, _, _, _, _, _, _, _, _]) (k := 11) 18 C dX10_done_15 rfl fcX10 tw947 (by decide) rfl rfl hm rfl rfl (Nat.le_of_ble_eq_true rfl) rfl ?_
    refine V_iconst 19 C dX10_done_18 rfl ic1 ?_
    refine V_ireturn C dX10_done_19 rfl (by decide) (by omega) (by omega) ?_
    exact ⟨rfl, rfl, by rw [eb]; rfl⟩
  · have eb : 1 - b = 0 := by omega
    refine V_iconst 10 C dX10_done_9 rfl ic0 ?_
    refine V_goto 14 C dX10_done_10 (by decide) ?_
    refine V_iaddN 15 C dX10_done_14 rfl  ?_
    refine V_put (fs' := [_, _, _, _, _, _, _, _, _, _, _, _]) (k := 11) 18 C dX10_done_15 rfl fcX10 tw947 (by decide) rfl rfl hm rfl rfl (Nat.le_of_ble_eq_true rfl) rfl ?_
    refine V_iconst 19 C dX10_done_18 rfl ic1 ?_
    refine V_ireturn C dX10_done_19 rfl (by decide) (by omega) (by omega) ?_
    exact ⟨rfl, rfl, by rw [eb]; rfl⟩

theorem dX10_townSign_0 : decode cX10_townSign 0 = .ok (.aload_n 0, 1) := by decide +kernel
theorem dX10_townSign_1 : decode cX10_townSign 1 = .ok (.iload_n 1, 1) := by decide +kernel
theorem dX10_townSign_2 : decode cX10_townSign 2 = .ok (.iconst 1, 1) := by decide +kernel
theorem dX10_townSign_3 : decode cX10_townSign 3 = .ok (.iconst 0, 1) := by decide +kernel
theorem dX10_townSign_4 : decode cX10_townSign 4 = .ok (.iconst 5, 1) := by decide +kernel
theorem dX10_townSign_5 : decode cX10_townSign 5 = .ok (.invokevirtual 134, 3) := by decide +kernel
theorem dX10_townSign_8 : decode cX10_townSign 8 = .ok (.ireturn, 1) := by decide +kernel
set_option maxRecDepth 100000 in
set_option maxHeartbeats 4000000 in
theorem c_X10_townSign (l : Launch) (G : GT) (n : Nat) (h : AH) (m N p o : Nat) (rf sc : Int32) (T : Nat → Nat) (g : Nat → Int32) (hT : mx m N p o rf sc T g h) (ah : Nat) (hah : ah = NO ∨ ah < 2 ^ 31) : Ct l yX10_townSign cX10_townSign 2 (some .int) 3 0 0 G n h [.ref m, .int (nI ah)] (Ri (nI (ona (fg T N 0 5 1 ah p).1)) n (fun h' => h' = mH h m rf N sc (fg T N 0 5 1 ah p).2 o)) := by
  obtain ⟨⟨hN, hpN⟩, hm, hg, hch⟩ := id hT
  have NE := NO_eq
  refine Ct_of mX10_townSign.1 (Nat.le_of_ble_eq_true rfl) ?_
  intro p₀ e₀ s₀ m₀ as₀ bl₀ me₀ c₀ C hin
  refine V_Le (L' := [(0, .ref m), (1, .int (nI ah))]) rfl ?_
  refine V_aload_n 1 C dX10_townSign_0 rfl rfl ?_
  refine V_iload_n 2 C dX10_townSign_1 rfl rfl ?_
  refine V_iconst 3 C dX10_townSign_2 rfl ic1 ?_
  refine V_iconst 4 C dX10_townSign_3 rfl ic0 ?_
  refine V_iconst 5 C dX10_townSign_4 rfl ic5 ?_
  refine V_callV 8 C dX10_townSign_5 rfl mX10_figures tw1020 fcX10 hm (c_X10_figures l G _ _ m N p o rf sc T g hT ah 1 0 5 hah (by omega) (by omega) (by omega) (by omega)) rfl rfl (by decide) ⟨by omega, by omega⟩ (Nat.le_of_ble_eq_true rfl) ?_
  rintro _ _ _ ⟨rfl, rfl, rfl⟩
  refine V_ireturn C dX10_townSign_8 rfl rfl (by omega) (by omega) ?_
  exact ⟨rfl, rfl, rfl⟩

theorem dX10_runnerSign_0 : decode cX10_runnerSign 0 = .ok (.aload_n 0, 1) := by decide +kernel
theorem dX10_runnerSign_1 : decode cX10_runnerSign 1 = .ok (.iload_n 1, 1) := by decide +kernel
theorem dX10_runnerSign_2 : decode cX10_runnerSign 2 = .ok (.iconst 1, 1) := by decide +kernel
theorem dX10_runnerSign_3 : decode cX10_runnerSign 3 = .ok (.iconst 0, 1) := by decide +kernel
theorem dX10_runnerSign_4 : decode cX10_runnerSign 4 = .ok (.iconst 4, 1) := by decide +kernel
theorem dX10_runnerSign_5 : decode cX10_runnerSign 5 = .ok (.invokevirtual 134, 3) := by decide +kernel
theorem dX10_runnerSign_8 : decode cX10_runnerSign 8 = .ok (.ireturn, 1) := by decide +kernel
set_option maxRecDepth 100000 in
set_option maxHeartbeats 4000000 in
theorem c_X10_runnerSign (l : Launch) (G : GT) (n : Nat) (h : AH) (m N p o : Nat) (rf sc : Int32) (T : Nat → Nat) (g : Nat → Int32) (hT : mx m N p o rf sc T g h) (ah : Nat) (hah : ah = NO ∨ ah < 2 ^ 31) : Ct l yX10_runnerSign cX10_runnerSign 2 (some .int) 3 0 0 G n h [.ref m, .int (nI ah)] (Ri (nI (ona (fg T N 0 4 1 ah p).1)) n (fun h' => h' = mH h m rf N sc (fg T N 0 4 1 ah p).2 o)) := by
  obtain ⟨⟨hN, hpN⟩, hm, hg, hch⟩ := id hT
  have NE := NO_eq
  refine Ct_of mX10_runnerSign.1 (Nat.le_of_ble_eq_true rfl) ?_
  intro p₀ e₀ s₀ m₀ as₀ bl₀ me₀ c₀ C hin
  refine V_Le (L' := [(0, .ref m), (1, .int (nI ah))]) rfl ?_
  refine V_aload_n 1 C dX10_runnerSign_0 rfl rfl ?_
  refine V_iload_n 2 C dX10_runnerSign_1 rfl rfl ?_
  refine V_iconst 3 C dX10_runnerSign_2 rfl ic1 ?_
  refine V_iconst 4 C dX10_runnerSign_3 rfl ic0 ?_
  refine V_iconst 5 C dX10_runnerSign_4 rfl ic4 ?_
  refine V_callV 8 C dX10_runnerSign_5 rfl mX10_figures tw1020 fcX10 hm (c_X10_figures l G _ _ m N p o rf sc T g hT ah 1 0 4 hah (by omega) (by omega) (by omega) (by omega)) rfl rfl (by decide) ⟨by omega, by omega⟩ (Nat.le_of_ble_eq_true rfl) ?_
  rintro _ _ _ ⟨rfl, rfl, rfl⟩
  refine V_ireturn C dX10_runnerSign_8 rfl rfl (by omega) (by omega) ?_
  exact ⟨rfl, rfl, rfl⟩

theorem dX10_sheetSign_0 : decode cX10_sheetSign 0 = .ok (.aload_n 0, 1) := by decide +kernel
theorem dX10_sheetSign_1 : decode cX10_sheetSign 1 = .ok (.iload_n 1, 1) := by decide +kernel
theorem dX10_sheetSign_2 : decode cX10_sheetSign 2 = .ok (.bipush 10, 2) := by decide +kernel
theorem dX10_sheetSign_4 : decode cX10_sheetSign 4 = .ok (.iconst 0, 1) := by decide +kernel
theorem dX10_sheetSign_5 : decode cX10_sheetSign 5 = .ok (.bipush 11, 2) := by decide +kernel
theorem dX10_sheetSign_7 : decode cX10_sheetSign 7 = .ok (.invokevirtual 134, 3) := by decide +kernel
theorem dX10_sheetSign_10 : decode cX10_sheetSign 10 = .ok (.ireturn, 1) := by decide +kernel
set_option maxRecDepth 100000 in
set_option maxHeartbeats 4000000 in
theorem c_X10_sheetSign (l : Launch) (G : GT) (n : Nat) (h : AH) (m N p o : Nat) (rf sc : Int32) (T : Nat → Nat) (g : Nat → Int32) (hT : mx m N p o rf sc T g h) (ah : Nat) (hah : ah = NO ∨ ah < 2 ^ 31) : Ct l yX10_sheetSign cX10_sheetSign 2 (some .int) 3 0 0 G n h [.ref m, .int (nI ah)] (Ri (nI (ona (fg T N 0 11 2 ah p).1)) n (fun h' => h' = mH h m rf N sc (fg T N 0 11 2 ah p).2 o)) := by
  obtain ⟨⟨hN, hpN⟩, hm, hg, hch⟩ := id hT
  have NE := NO_eq
  refine Ct_of mX10_sheetSign.1 (Nat.le_of_ble_eq_true rfl) ?_
  intro p₀ e₀ s₀ m₀ as₀ bl₀ me₀ c₀ C hin
  refine V_Le (L' := [(0, .ref m), (1, .int (nI ah))]) rfl ?_
  refine V_aload_n 1 C dX10_sheetSign_0 rfl rfl ?_
  refine V_iload_n 2 C dX10_sheetSign_1 rfl rfl ?_
  refine V_bipush 4 C dX10_sheetSign_2 rfl bip10 ?_
  refine V_iconst 5 C dX10_sheetSign_4 rfl ic0 ?_
  refine V_bipush 7 C dX10_sheetSign_5 rfl bip11 ?_
  refine V_callV 10 C dX10_sheetSign_7 rfl mX10_figures tw1020 fcX10 hm (c_X10_figures l G _ _ m N p o rf sc T g hT ah 2 0 11 hah (by omega) (by omega) (by omega) (by omega)) rfl rfl (by decide) ⟨by omega, by omega⟩ (Nat.le_of_ble_eq_true rfl) ?_
  rintro _ _ _ ⟨rfl, rfl, rfl⟩
  refine V_ireturn C dX10_sheetSign_10 rfl rfl (by omega) (by omega) ?_
  exact ⟨rfl, rfl, rfl⟩

