/-! THE LAW OVER BOTH COUNTRIES -/
theorem st_hr {σ : St} {p : Nat} (hI : Iv σ.1) (h : 1 ≤ p ∧ p ≤ 60) : rv (kA 1 1 1 (aHr σ.1 (nI p)).1) ((aHr σ.1 (nI p)).1) [eA] = nI (coms σ.1 p) ∧ ((aHr σ.1 (nI p)).2, (aK (kA 1 1 1 (aHr σ.1 (nI p)).1) σ.2.1), (aD (kA 1 1 1 (aHr σ.1 (nI p)).1) σ.2.1 σ.2.2.1 σ.1), σ.2.2.2.1, σ.2.2.2.2) = psh σ (hrs σ.1 p) := by
  have e : aHr σ.1 (nI p) = (nI (coms σ.1 p), hrs σ.1 p) := by
    unfold aHr
    rw [if_pos (by rw [nI_toInt (by omega)]; omega), zn (by omega)]
  have hc := coms_le hI p
  have k : kA 1 1 1 (nI (coms σ.1 p)) = 0 := kA_0 (nIc (by omega))
  rw [e]
  show rv (kA 1 1 1 (nI (coms σ.1 p))) (nI (coms σ.1 p)) [eA] = nI (coms σ.1 p) ∧ (hrs σ.1 p, (aK (kA 1 1 1 (nI (coms σ.1 p))) σ.2.1), (aD (kA 1 1 1 (nI (coms σ.1 p))) σ.2.1 σ.2.2.1 σ.1), σ.2.2.2.1, σ.2.2.2.2) = psh σ (hrs σ.1 p)
  rw [k]
  exact ⟨rfl, rfl⟩
theorem st_un {σ : St} (hk : 0 < σ.2.1) : rv (if σ.2.1 = 0 then 1 else 0) (nI (σ.2.1 - 1)) [eS] = nI (σ.2.1 - 1) ∧ ((if σ.2.1 = 0 then σ.1 else σ.2.2.1 (σ.2.1 - 1)), (σ.2.1 - 1), σ.2.2.1, σ.2.2.2.1, σ.2.2.2.2) = pop σ := by
  rw [if_neg (show ¬ σ.2.1 = 0 by omega), if_neg (show ¬ σ.2.1 = 0 by omega)]
  exact ⟨rfl, rfl⟩
theorem e_ne {v : Nat} (h : v < 2 ^ 31) : ¬ nI v = eI ∧ ¬ nI v = eA ∧ ¬ nI v = eS := by
  refine ⟨fun e => ?_, fun e => ?_, fun e => ?_⟩
  · have e := congrArg Int32.toInt e
    rw [nI_toInt h, show eI.toInt = -9999001 from by decide] at e
    omega
  · have e := congrArg Int32.toInt e
    rw [nI_toInt h, show eA.toInt = -9999002 from by decide] at e
    omega
  · have e := congrArg Int32.toInt e
    rw [nI_toInt h, show eS.toInt = -9999003 from by decide] at e
    omega
/-- the hours that go by, in parts of 60; and their undo -/
def wts : Nat → Nat → St → St
  | 0, _, σ => σ
  | f + 1, m, σ => if m = 0 then σ else wts f (m - 60) (psh σ (hrs σ.1 (min m 60)))
def uns : Nat → Nat → St → St
  | 0, _, σ => σ
  | f + 1, m, σ => if m = 0 then σ else uns f (m - 60) (pop σ)
theorem wts_0 (f : Nat) (σ : St) : wts f 0 σ = σ := by cases f <;> rfl
theorem uns_0 (f : Nat) (σ : St) : uns f 0 σ = σ := by cases f <;> rfl
theorem wts_s {f m : Nat} {σ : St} (h : ¬ m = 0) : wts (f + 1) m σ = wts f (m - 60) (psh σ (hrs σ.1 (min m 60))) := if_neg h
theorem uns_s {f m : Nat} {σ : St} (h : ¬ m = 0) : uns (f + 1) m σ = uns f (m - 60) (pop σ) := if_neg h
theorem JS_hr {B : Nat} {σ : St} (h : JS B σ) {p : Nat} (hp : p ≤ 60) : JS (B + 60) (psh σ (hrs σ.1 p)) := by
  obtain ⟨a, b, -⟩ := EV_hrs h.1.1 p
  exact JS_psh h (by omega) (JV.mn h.1 ⟨a.up (by omega), b⟩)
theorem JS_wts {B : Nat} : ∀ (f m : Nat) (σ : St), JS B σ → JS (B + 60 * f) (wts f m σ)
  | 0, _, σ, h => h
  | f + 1, m, σ, h => by
    by_cases e : m = 0
    · subst e; rw [wts_0]; exact h.up (by omega)
    · rw [wts_s e]
      have := JS_wts (B := B + 60) f (m - 60) _ (JS_hr h (p := min m 60) (by omega))
      rw [show B + 60 * (f + 1) = B + 60 + 60 * f by omega]
      exact this
theorem wts_y : ∀ (f m : Nat) (σ : St), m ≤ 60 * f → (wts f m σ).1 = hrs σ.1 m
  | 0, m, σ, h => by
    have : m = 0 := by omega
    subst this; rfl
  | f + 1, m, σ, h => by
    by_cases e : m = 0
    · subst e; rw [wts_0]; rfl
    · rw [wts_s e, wts_y f (m - 60) _ (by omega)]
      show hrs (hrs σ.1 (min m 60)) (m - 60) = _
      rw [hrs_add]
      congr 1
      omega
/-- behind all that: undone, all is as before -/
theorem uns_wts {B : Nat} {σ : St} (h : JS B σ) {n : Nat} (hn : n ≤ 180) : (uns 3 n (wts 3 n σ)).1 = σ.1 := by
  have hk := h.2.1
  have k1 := psC_k hk
  by_cases e0 : n = 0
  · subst e0; rfl
  · rw [wts_s e0, uns_s e0]
    by_cases e1 : n - 60 = 0
    · rw [e1, wts_0, uns_0, pop_1, tp_0 _ _ hk]
    · have g1 : (psh σ (hrs σ.1 (min n 60))).2.1 ≤ 14 := k1.1
      have k2 := psC_k g1
      rw [wts_s e1, uns_s e1]
      by_cases e2 : n - 60 - 60 = 0
      · rw [e2, wts_0, uns_0, pop_1, tp_p, tp_s _ _ g1 (show 0 < psC σ.2.1 by omega) (by omega), tp_0 _ _ hk]
      · generalize hσ1 : psh σ (hrs σ.1 (min n 60)) = σ1 at *
        generalize hσ2 : psh σ1 (hrs σ1.1 (min (n - 60) 60)) = σ2 at *
        have q1 : σ1.2.1 = psC σ.2.1 := by rw [← hσ1]; rfl
        have q2 : σ2.2.1 = psC σ1.2.1 := by rw [← hσ2]; rfl
        have t1 : tp σ1 0 = σ.1 := by rw [← hσ1]; exact tp_0 _ _ hk
        have t2 : tp σ2 1 = σ.1 := by rw [← hσ2, tp_s _ _ g1 (by omega) (by omega), t1]
        have e3 : n - 60 - 60 - 60 = 0 := by omega
        have u1 := k2.2.1
        have u3 : 2 ≤ psC σ1.2.1 := by
          have := k2.2.2.1
          have := k2.1
          by_cases c : σ1.2.1 < 14
          · rw [k2.2.2.1 c]; omega
          · have := k2.2.2.2; omega
        rw [wts_s e2, uns_s e2, e3, wts_0, uns_0, pop_1, tp_p, tp_p, tp_s _ _ (by rw [q2]; exact k2.1) (by rw [q2]; omega) (by omega), t2]
/-- so many states can be taken back -/
def QJ (B j : Nat) (σ : St) : Prop := JS B σ ∧ j ≤ σ.2.1 ∧ (0 < j → 1 ≤ σ.1 5) ∧ ∀ i, i + 1 < j → 1 ≤ tp σ i 5
theorem QJ_pop {B j : Nat} {σ : St} (h : QJ B (j + 1) σ) : QJ B j (pop σ) := by
  obtain ⟨h1, h2, h3, h4⟩ := h
  refine ⟨JS_pop h1 (by omega) (h3 (by omega)), (show j ≤ σ.2.1 - 1 by omega), fun hj => h4 0 (by omega), fun i hi => ?_⟩
  rw [tp_p]
  exact h4 (i + 1) (by omega)
theorem QJ_psh {B B' j : Nat} {σ : St} {y' : Nat → Nat} (h : QJ B j σ) (hj : j ≤ 12) (hJ : JS B' (psh σ y')) (h5 : 1 ≤ y' 5) : QJ B' (j + 1) (psh σ y') := by
  obtain ⟨h1, h2, h3, h4⟩ := h
  have hk := h1.2.1
  have k1 := psC_k hk
  refine ⟨hJ, ?_, fun _ => h5, fun i hi => ?_⟩
  · show j + 1 ≤ psC σ.2.1
    by_cases c : σ.2.1 < 14
    · rw [k1.2.2.1 c]; omega
    · have := k1.2.2.2; omega
  · match i, hi with
    | 0, hi => rw [tp_0 _ _ hk]; exact h3 (by omega)
    | i + 1, hi => rw [tp_s _ _ hk (by omega) (by omega)]; exact h4 i (by omega)
def np (m : Nat) : Nat := (m + 59) / 60
theorem np_0 : np 0 = 0 := rfl
theorem np_s {m : Nat} (h : ¬ m = 0) : np m = np (m - 60) + 1 := by unfold np; omega
theorem QJ_wts {B : Nat} : ∀ (f m : Nat) (σ : St) (j : Nat), QJ B j σ → m ≤ 60 * f → j + np m ≤ 12 → QJ (B + 60 * f) (j + np m) (wts f m σ)
  | 0, m, σ, j, h, hm, hj => by
    have : m = 0 := by omega
    subst this
    exact h
  | f + 1, m, σ, j, h, hm, hj => by
    by_cases e : m = 0
    · subst e
      rw [wts_0, np_0, Nat.add_zero]
      exact ⟨h.1.up (by omega), h.2⟩
    · rw [wts_s e]
      rw [np_s e] at hj ⊢
      have h2 := QJ_psh h (by omega) (JS_hr h.1 (p := min m 60) (by omega)) (by rw [(EV_hrs h.1.1.1 (min m 60)).2.2]; omega)
      have h3 := QJ_wts (B := B + 60) f (m - 60) _ (j + 1) h2 (by omega) (by omega)
      rw [show B + 60 * (f + 1) = B + 60 + 60 * f by omega, show j + (np (m - 60) + 1) = j + 1 + np (m - 60) by omega]
      exact h3
theorem QJ_0 {B : Nat} {σ : St} (h : JS B σ) : QJ B 0 σ := ⟨h, Nat.zero_le _, fun hj => absurd hj (Nat.lt_irrefl 0), fun i hi => absurd hi (by omega)⟩
theorem JS_uns {B : Nat} : ∀ (f m : Nat) (τ : St), QJ B (np m) τ → m ≤ 60 * f → JS B (uns f m τ)
  | 0, m, τ, h, _ => h.1
  | f + 1, m, τ, h, hm => by
    by_cases e : m = 0
    · subst e; rw [uns_0]; exact h.1
    · rw [uns_s e]
      rw [np_s e] at h
      exact JS_uns f (m - 60) _ (QJ_pop h) (by omega)
theorem iim60 {m : Nat} (h : 60 ≤ m) : nI m + Int32.ofInt (-60) = nI (m - 60) := by
  rw [← pk_sub h, Int32.sub_eq_add_neg, show Int32.ofInt (-60) = -nI 60 from by decide]
theorem iim60' : ∀ m, m ≤ 60 → nI m + Int32.ofInt (-60) ≤ 0 := by decide +kernel
theorem dL_alike_0 : decode cL_alike 0 = .ok (.aload_n 0, 1) := by decide +kernel
theorem dL_alike_1 : decode cL_alike 1 = .ok (.iload_n 2, 1) := by decide +kernel
theorem dL_alike_2 : decode cL_alike 2 = .ok (.i2l, 1) := by decide +kernel
theorem dL_alike_3 : decode cL_alike 3 = .ok (.iconst 1, 1) := by decide +kernel
theorem dL_alike_4 : decode cL_alike 4 = .ok (.iload_n 2, 1) := by decide +kernel
theorem dL_alike_5 : decode cL_alike 5 = .ok (.bipush 30, 2) := by decide +kernel
theorem dL_alike_7 : decode cL_alike 7 = .ok (.irem, 1) := by decide +kernel
theorem dL_alike_8 : decode cL_alike 8 = .ok (.iadd, 1) := by decide +kernel
theorem dL_alike_9 : decode cL_alike 9 = .ok (.invokestatic 212, 3) := by decide +kernel
theorem dL_alike_12 : decode cL_alike 12 = .ok (.aload_n 1, 1) := by decide +kernel
theorem dL_alike_13 : decode cL_alike 13 = .ok (.iload_n 2, 1) := by decide +kernel
theorem dL_alike_14 : decode cL_alike 14 = .ok (.i2l, 1) := by decide +kernel
theorem dL_alike_15 : decode cL_alike 15 = .ok (.iconst 1, 1) := by decide +kernel
theorem dL_alike_16 : decode cL_alike 16 = .ok (.iload_n 2, 1) := by decide +kernel
theorem dL_alike_17 : decode cL_alike 17 = .ok (.bipush 30, 2) := by decide +kernel
theorem dL_alike_19 : decode cL_alike 19 = .ok (.irem, 1) := by decide +kernel
theorem dL_alike_20 : decode cL_alike 20 = .ok (.iadd, 1) := by decide +kernel
theorem dL_alike_21 : decode cL_alike 21 = .ok (.invokestatic 212, 3) := by decide +kernel
theorem dL_alike_24 : decode cL_alike 24 = .ok (.if_icmp .ne 7, 3) := by decide +kernel
theorem dL_alike_27 : decode cL_alike 27 = .ok (.iconst 1, 1) := by decide +kernel
theorem dL_alike_28 : decode cL_alike 28 = .ok (.goto 4, 3) := by decide +kernel
theorem dL_alike_31 : decode cL_alike 31 = .ok (.iconst 0, 1) := by decide +kernel
theorem dL_alike_32 : decode cL_alike 32 = .ok (.istore_n 3, 1) := by decide +kernel
theorem dL_alike_33 : decode cL_alike 33 = .ok (.iconst 0, 1) := by decide +kernel
theorem dL_alike_34 : decode cL_alike 34 = .ok (.istore 4, 2) := by decide +kernel
theorem dL_alike_36 : decode cL_alike 36 = .ok (.iload 4, 2) := by decide +kernel
theorem dL_alike_38 : decode cL_alike 38 = .ok (.bipush 12, 2) := by decide +kernel
theorem dL_alike_40 : decode cL_alike 40 = .ok (.if_icmp .ge 140, 3) := by decide +kernel
theorem dL_alike_43 : decode cL_alike 43 = .ok (.iload_n 3, 1) := by decide +kernel
theorem dL_alike_44 : decode cL_alike 44 = .ok (.ifCond .eq 136, 3) := by decide +kernel
theorem dL_alike_47 : decode cL_alike 47 = .ok (.aload_n 0, 1) := by decide +kernel
theorem dL_alike_48 : decode cL_alike 48 = .ok (.iconst 2, 1) := by decide +kernel
theorem dL_alike_49 : decode cL_alike 49 = .ok (.iload 4, 2) := by decide +kernel
theorem dL_alike_51 : decode cL_alike 51 = .ok (.iconst 0, 1) := by decide +kernel
theorem dL_alike_52 : decode cL_alike 52 = .ok (.iconst 0, 1) := by decide +kernel
theorem dL_alike_53 : decode cL_alike 53 = .ok (.invokestatic 198, 3) := by decide +kernel
theorem dL_alike_56 : decode cL_alike 56 = .ok (.aload_n 1, 1) := by decide +kernel
theorem dL_alike_57 : decode cL_alike 57 = .ok (.iconst 2, 1) := by decide +kernel
theorem dL_alike_58 : decode cL_alike 58 = .ok (.iload 4, 2) := by decide +kernel
theorem dL_alike_60 : decode cL_alike 60 = .ok (.iconst 0, 1) := by decide +kernel
theorem dL_alike_61 : decode cL_alike 61 = .ok (.iconst 0, 1) := by decide +kernel
theorem dL_alike_62 : decode cL_alike 62 = .ok (.invokestatic 198, 3) := by decide +kernel
theorem dL_alike_65 : decode cL_alike 65 = .ok (.if_icmp .ne 107, 3) := by decide +kernel
theorem dL_alike_68 : decode cL_alike 68 = .ok (.aload_n 0, 1) := by decide +kernel
theorem dL_alike_69 : decode cL_alike 69 = .ok (.iconst 5, 1) := by decide +kernel
theorem dL_alike_70 : decode cL_alike 70 = .ok (.iload 4, 2) := by decide +kernel
theorem dL_alike_72 : decode cL_alike 72 = .ok (.iload_n 2, 1) := by decide +kernel
theorem dL_alike_73 : decode cL_alike 73 = .ok (.bipush 8, 2) := by decide +kernel
theorem dL_alike_75 : decode cL_alike 75 = .ok (.irem, 1) := by decide +kernel
theorem dL_alike_76 : decode cL_alike 76 = .ok (.iconst 0, 1) := by decide +kernel
theorem dL_alike_77 : decode cL_alike 77 = .ok (.invokestatic 198, 3) := by decide +kernel
theorem dL_alike_80 : decode cL_alike 80 = .ok (.aload_n 1, 1) := by decide +kernel
theorem dL_alike_81 : decode cL_alike 81 = .ok (.iconst 5, 1) := by decide +kernel
theorem dL_alike_82 : decode cL_alike 82 = .ok (.iload 4, 2) := by decide +kernel
theorem dL_alike_84 : decode cL_alike 84 = .ok (.iload_n 2, 1) := by decide +kernel
theorem dL_alike_85 : decode cL_alike 85 = .ok (.bipush 8, 2) := by decide +kernel
theorem dL_alike_87 : decode cL_alike 87 = .ok (.irem, 1) := by decide +kernel
theorem dL_alike_88 : decode cL_alike 88 = .ok (.iconst 0, 1) := by decide +kernel
theorem dL_alike_89 : decode cL_alike 89 = .ok (.invokestatic 198, 3) := by decide +kernel
theorem dL_alike_92 : decode cL_alike 92 = .ok (.if_icmp .ne 80, 3) := by decide +kernel
theorem dL_alike_95 : decode cL_alike 95 = .ok (.aload_n 0, 1) := by decide +kernel
theorem dL_alike_96 : decode cL_alike 96 = .ok (.iconst 4, 1) := by decide +kernel
theorem dL_alike_97 : decode cL_alike 97 = .ok (.iload 4, 2) := by decide +kernel
theorem dL_alike_99 : decode cL_alike 99 = .ok (.iload_n 2, 1) := by decide +kernel
theorem dL_alike_100 : decode cL_alike 100 = .ok (.iconst 4, 1) := by decide +kernel
theorem dL_alike_101 : decode cL_alike 101 = .ok (.irem, 1) := by decide +kernel
theorem dL_alike_102 : decode cL_alike 102 = .ok (.iconst 0, 1) := by decide +kernel
theorem dL_alike_103 : decode cL_alike 103 = .ok (.invokestatic 198, 3) := by decide +kernel
theorem dL_alike_106 : decode cL_alike 106 = .ok (.aload_n 1, 1) := by decide +kernel
theorem dL_alike_107 : decode cL_alike 107 = .ok (.iconst 4, 1) := by decide +kernel
theorem dL_alike_108 : decode cL_alike 108 = .ok (.iload 4, 2) := by decide +kernel
theorem dL_alike_110 : decode cL_alike 110 = .ok (.iload_n 2, 1) := by decide +kernel
theorem dL_alike_111 : decode cL_alike 111 = .ok (.iconst 4, 1) := by decide +kernel
theorem dL_alike_112 : decode cL_alike 112 = .ok (.irem, 1) := by decide +kernel
theorem dL_alike_113 : decode cL_alike 113 = .ok (.iconst 0, 1) := by decide +kernel
theorem dL_alike_114 : decode cL_alike 114 = .ok (.invokestatic 198, 3) := by decide +kernel
theorem dL_alike_117 : decode cL_alike 117 = .ok (.if_icmp .ne 55, 3) := by decide +kernel
theorem dL_alike_120 : decode cL_alike 120 = .ok (.aload_n 0, 1) := by decide +kernel
theorem dL_alike_121 : decode cL_alike 121 = .ok (.iconst 3, 1) := by decide +kernel
theorem dL_alike_122 : decode cL_alike 122 = .ok (.iload 4, 2) := by decide +kernel
theorem dL_alike_124 : decode cL_alike 124 = .ok (.iload_n 2, 1) := by decide +kernel
theorem dL_alike_125 : decode cL_alike 125 = .ok (.iconst 3, 1) := by decide +kernel
theorem dL_alike_126 : decode cL_alike 126 = .ok (.irem, 1) := by decide +kernel
theorem dL_alike_127 : decode cL_alike 127 = .ok (.iconst 0, 1) := by decide +kernel
theorem dL_alike_128 : decode cL_alike 128 = .ok (.invokestatic 198, 3) := by decide +kernel
theorem dL_alike_131 : decode cL_alike 131 = .ok (.aload_n 1, 1) := by decide +kernel
theorem dL_alike_132 : decode cL_alike 132 = .ok (.iconst 3, 1) := by decide +kernel
theorem dL_alike_133 : decode cL_alike 133 = .ok (.iload 4, 2) := by decide +kernel
theorem dL_alike_135 : decode cL_alike 135 = .ok (.iload_n 2, 1) := by decide +kernel
theorem dL_alike_136 : decode cL_alike 136 = .ok (.iconst 3, 1) := by decide +kernel
theorem dL_alike_137 : decode cL_alike 137 = .ok (.irem, 1) := by decide +kernel
theorem dL_alike_138 : decode cL_alike 138 = .ok (.iconst 0, 1) := by decide +kernel
theorem dL_alike_139 : decode cL_alike 139 = .ok (.invokestatic 198, 3) := by decide +kernel
theorem dL_alike_142 : decode cL_alike 142 = .ok (.if_icmp .ne 30, 3) := by decide +kernel
theorem dL_alike_145 : decode cL_alike 145 = .ok (.aload_n 0, 1) := by decide +kernel
theorem dL_alike_146 : decode cL_alike 146 = .ok (.bipush 6, 2) := by decide +kernel
theorem dL_alike_148 : decode cL_alike 148 = .ok (.iload 4, 2) := by decide +kernel
theorem dL_alike_150 : decode cL_alike 150 = .ok (.iconst 0, 1) := by decide +kernel
theorem dL_alike_151 : decode cL_alike 151 = .ok (.iconst 0, 1) := by decide +kernel
theorem dL_alike_152 : decode cL_alike 152 = .ok (.invokestatic 198, 3) := by decide +kernel
theorem dL_alike_155 : decode cL_alike 155 = .ok (.aload_n 1, 1) := by decide +kernel
theorem dL_alike_156 : decode cL_alike 156 = .ok (.bipush 6, 2) := by decide +kernel
theorem dL_alike_158 : decode cL_alike 158 = .ok (.iload 4, 2) := by decide +kernel
theorem dL_alike_160 : decode cL_alike 160 = .ok (.iconst 0, 1) := by decide +kernel
theorem dL_alike_161 : decode cL_alike 161 = .ok (.iconst 0, 1) := by decide +kernel
theorem dL_alike_162 : decode cL_alike 162 = .ok (.invokestatic 198, 3) := by decide +kernel
theorem dL_alike_165 : decode cL_alike 165 = .ok (.if_icmp .ne 7, 3) := by decide +kernel
theorem dL_alike_168 : decode cL_alike 168 = .ok (.iconst 1, 1) := by decide +kernel
theorem dL_alike_169 : decode cL_alike 169 = .ok (.goto 4, 3) := by decide +kernel
theorem dL_alike_172 : decode cL_alike 172 = .ok (.iconst 0, 1) := by decide +kernel
theorem dL_alike_173 : decode cL_alike 173 = .ok (.istore_n 3, 1) := by decide +kernel
theorem dL_alike_174 : decode cL_alike 174 = .ok (.iinc 4 1, 3) := by decide +kernel
theorem dL_alike_177 : decode cL_alike 177 = .ok (.goto (-141), 3) := by decide +kernel
theorem dL_alike_180 : decode cL_alike 180 = .ok (.iload_n 3, 1) := by decide +kernel
theorem dL_alike_181 : decode cL_alike 181 = .ok (.ireturn, 1) := by decide +kernel
theorem dL_waits_0 : decode cL_waits 0 = .ok (.iconst 1, 1) := by decide +kernel
theorem dL_waits_1 : decode cL_waits 1 = .ok (.istore_n 3, 1) := by decide +kernel
theorem dL_waits_2 : decode cL_waits 2 = .ok (.iload_n 2, 1) := by decide +kernel
theorem dL_waits_3 : decode cL_waits 3 = .ok (.istore 4, 2) := by decide +kernel
theorem dL_waits_5 : decode cL_waits 5 = .ok (.iload 4, 2) := by decide +kernel
theorem dL_waits_7 : decode cL_waits 7 = .ok (.ifCond .le 67, 3) := by decide +kernel
theorem dL_waits_10 : decode cL_waits 10 = .ok (.iload_n 3, 1) := by decide +kernel
theorem dL_waits_11 : decode cL_waits 11 = .ok (.ifCond .eq 63, 3) := by decide +kernel
theorem dL_waits_14 : decode cL_waits 14 = .ok (.iload 4, 2) := by decide +kernel
theorem dL_waits_16 : decode cL_waits 16 = .ok (.bipush 60, 2) := by decide +kernel
theorem dL_waits_18 : decode cL_waits 18 = .ok (.if_icmp .le 8, 3) := by decide +kernel
theorem dL_waits_21 : decode cL_waits 21 = .ok (.bipush 60, 2) := by decide +kernel
theorem dL_waits_23 : decode cL_waits 23 = .ok (.goto 5, 3) := by decide +kernel
theorem dL_waits_26 : decode cL_waits 26 = .ok (.iload 4, 2) := by decide +kernel
theorem dL_waits_28 : decode cL_waits 28 = .ok (.istore 5, 2) := by decide +kernel
theorem dL_waits_30 : decode cL_waits 30 = .ok (.aload_n 0, 1) := by decide +kernel
theorem dL_waits_31 : decode cL_waits 31 = .ok (.bipush 15, 2) := by decide +kernel
theorem dL_waits_33 : decode cL_waits 33 = .ok (.iload 5, 2) := by decide +kernel
theorem dL_waits_35 : decode cL_waits 35 = .ok (.iconst 0, 1) := by decide +kernel
theorem dL_waits_36 : decode cL_waits 36 = .ok (.iconst 0, 1) := by decide +kernel
theorem dL_waits_37 : decode cL_waits 37 = .ok (.invokestatic 198, 3) := by decide +kernel
theorem dL_waits_40 : decode cL_waits 40 = .ok (.istore 6, 2) := by decide +kernel
theorem dL_waits_42 : decode cL_waits 42 = .ok (.iload 6, 2) := by decide +kernel
theorem dL_waits_44 : decode cL_waits 44 = .ok (.ifCond .lt 22, 3) := by decide +kernel
theorem dL_waits_47 : decode cL_waits 47 = .ok (.aload_n 1, 1) := by decide +kernel
theorem dL_waits_48 : decode cL_waits 48 = .ok (.bipush 15, 2) := by decide +kernel
theorem dL_waits_50 : decode cL_waits 50 = .ok (.iload 5, 2) := by decide +kernel
theorem dL_waits_52 : decode cL_waits 52 = .ok (.iconst 0, 1) := by decide +kernel
theorem dL_waits_53 : decode cL_waits 53 = .ok (.iconst 0, 1) := by decide +kernel
theorem dL_waits_54 : decode cL_waits 54 = .ok (.invokestatic 198, 3) := by decide +kernel
theorem dL_waits_57 : decode cL_waits 57 = .ok (.iload 6, 2) := by decide +kernel
theorem dL_waits_59 : decode cL_waits 59 = .ok (.if_icmp .ne 7, 3) := by decide +kernel
theorem dL_waits_62 : decode cL_waits 62 = .ok (.iconst 1, 1) := by decide +kernel
theorem dL_waits_63 : decode cL_waits 63 = .ok (.goto 4, 3) := by decide +kernel
theorem dL_waits_66 : decode cL_waits 66 = .ok (.iconst 0, 1) := by decide +kernel
theorem dL_waits_67 : decode cL_waits 67 = .ok (.istore_n 3, 1) := by decide +kernel
theorem dL_waits_68 : decode cL_waits 68 = .ok (.iinc 4 (-60), 3) := by decide +kernel
theorem dL_waits_71 : decode cL_waits 71 = .ok (.goto (-66), 3) := by decide +kernel
theorem dL_waits_74 : decode cL_waits 74 = .ok (.iload_n 3, 1) := by decide +kernel
theorem dL_waits_75 : decode cL_waits 75 = .ok (.ireturn, 1) := by decide +kernel
theorem dL_undoes_0 : decode cL_undoes 0 = .ok (.iconst 1, 1) := by decide +kernel
theorem dL_undoes_1 : decode cL_undoes 1 = .ok (.istore_n 3, 1) := by decide +kernel
theorem dL_undoes_2 : decode cL_undoes 2 = .ok (.iload_n 2, 1) := by decide +kernel
theorem dL_undoes_3 : decode cL_undoes 3 = .ok (.istore 4, 2) := by decide +kernel
theorem dL_undoes_5 : decode cL_undoes 5 = .ok (.iload 4, 2) := by decide +kernel
theorem dL_undoes_7 : decode cL_undoes 7 = .ok (.ifCond .le 49, 3) := by decide +kernel
theorem dL_undoes_10 : decode cL_undoes 10 = .ok (.iload_n 3, 1) := by decide +kernel
theorem dL_undoes_11 : decode cL_undoes 11 = .ok (.ifCond .eq 45, 3) := by decide +kernel
theorem dL_undoes_14 : decode cL_undoes 14 = .ok (.aload_n 0, 1) := by decide +kernel
theorem dL_undoes_15 : decode cL_undoes 15 = .ok (.bipush 16, 2) := by decide +kernel
theorem dL_undoes_17 : decode cL_undoes 17 = .ok (.iconst 0, 1) := by decide +kernel
theorem dL_undoes_18 : decode cL_undoes 18 = .ok (.iconst 0, 1) := by decide +kernel
theorem dL_undoes_19 : decode cL_undoes 19 = .ok (.iconst 0, 1) := by decide +kernel
theorem dL_undoes_20 : decode cL_undoes 20 = .ok (.invokestatic 198, 3) := by decide +kernel
theorem dL_undoes_23 : decode cL_undoes 23 = .ok (.invokestatic 249, 3) := by decide +kernel
theorem dL_undoes_26 : decode cL_undoes 26 = .ok (.ifCond .ne 22, 3) := by decide +kernel
theorem dL_undoes_29 : decode cL_undoes 29 = .ok (.aload_n 1, 1) := by decide +kernel
theorem dL_undoes_30 : decode cL_undoes 30 = .ok (.bipush 16, 2) := by decide +kernel
theorem dL_undoes_32 : decode cL_undoes 32 = .ok (.iconst 0, 1) := by decide +kernel
theorem dL_undoes_33 : decode cL_undoes 33 = .ok (.iconst 0, 1) := by decide +kernel
theorem dL_undoes_34 : decode cL_undoes 34 = .ok (.iconst 0, 1) := by decide +kernel
theorem dL_undoes_35 : decode cL_undoes 35 = .ok (.invokestatic 198, 3) := by decide +kernel
theorem dL_undoes_38 : decode cL_undoes 38 = .ok (.invokestatic 249, 3) := by decide +kernel
theorem dL_undoes_41 : decode cL_undoes 41 = .ok (.ifCond .ne 7, 3) := by decide +kernel
theorem dL_undoes_44 : decode cL_undoes 44 = .ok (.iconst 1, 1) := by decide +kernel
theorem dL_undoes_45 : decode cL_undoes 45 = .ok (.goto 4, 3) := by decide +kernel
theorem dL_undoes_48 : decode cL_undoes 48 = .ok (.iconst 0, 1) := by decide +kernel
theorem dL_undoes_49 : decode cL_undoes 49 = .ok (.istore_n 3, 1) := by decide +kernel
theorem dL_undoes_50 : decode cL_undoes 50 = .ok (.iinc 4 (-60), 3) := by decide +kernel
theorem dL_undoes_53 : decode cL_undoes 53 = .ok (.goto (-48), 3) := by decide +kernel
theorem dL_undoes_56 : decode cL_undoes 56 = .ok (.iload_n 3, 1) := by decide +kernel
theorem dL_undoes_57 : decode cL_undoes 57 = .ok (.ireturn, 1) := by decide +kernel
set_option maxRecDepth 100000 in
set_option maxHeartbeats 4000000 in
theorem c_L_alike (l : Launch) (G : GT) (n0 : Nat) (h0 : AH) (hl : l.stackTraces = false) (x q : Nat) (hx : apt x q) (σ : St) (hS0 : SC x σ h0) (hQ0 : SC q σ h0) (hI : SIs σ) (X : Nat) (hX : X < 2 ^ 31) : Ct l yL_alike cL_alike 5 (some .boolean) 11 488 2928 G n0 h0 [.ref x, .ref q, .int (nI X)] (PoT x q (nI 1) σ σ) := by
  refine Ct_ofZ mL_alike.z (Nat.le_of_ble_eq_true rfl) ?_
  intro p₀ e₀ s₀ m₀ as₀ bl₀ me₀ c₀ C
  refine V_Le (L' := [(0, .ref x), (1, .ref q), (2, .int (nI X))]) rfl ?_
  suffices H : ∀ (n : Nat) (h : AH) (hS : SC x σ h) (hQ : SC q σ h), V p₀ l e₀ (rmD 11 488 2928) s₀ m₀ as₀ bl₀ me₀ c₀ (MQ bl₀ (Po G (PoT x q (nI 1) σ σ)) as₀ s₀ 488 2928 (rg G)) G 5 0 0 n h 0 [(0, .ref x), (1, .ref q), (2, .int (nI X))] [] from H n0 h0 hS0 hQ0
  have J36 : ∀ (t9 : Nat), ∀ (k : Nat) (lim : 12 < k + t9) (hk : k ≤ 12) (n : Nat) (h : AH) (hS : SC x σ h) (hQ : SC q σ h), V p₀ l e₀ (rmD 11 488 2928) s₀ m₀ as₀ bl₀ me₀ c₀ (MQ bl₀ (Po G (PoT x q (nI 1) σ σ)) as₀ s₀ 488 2928 (rg G)) G 5 (8 + 40 * k) (48 + 240 * k) n h 36 [(0, .ref x), (1, .ref q), (2, .int (nI X)), (3, .int (nI 1)), (4, .int (nI k))] [] := by
    intro t9
    induction t9 with
    | zero => intro k lim hk n h hS hQ; exact absurd lim (by omega)
    | succ t9 ih =>
      intro k lim hk n h hS hQ
      refine V_iload 38 C dL_alike_36 rfl rfl ?_
      refine V_bipush 40 C dL_alike_38 rfl bip12 ?_
      refine V_icmp_geN 180 43 C dL_alike_40 (by decide) rfl (by omega) (by omega) (fun c40 => ?_) (fun c40 => ?_)
      · skip
        refine V_iload_n 181 C dL_alike_180 rfl rfl ?_
        refine V_ireturn C dL_alike_181 rfl nar_1 (by omega) (by omega) ?_
        exact ⟨rfl, hS, hQ⟩
      · skip
        refine V_iload_n 44 C dL_alike_43 rfl rfl ?_
        refine V_if_eqN 180 47 C dL_alike_44 (by decide) rfl (by omega) (fun c44 => by omega) (fun c44 => ?_)
        refine V_aload_n 48 C dL_alike_47 rfl rfl ?_
        refine V_iconst 49 C dL_alike_48 rfl ic2 ?_
        refine V_iload 51 C dL_alike_49 rfl rfl ?_
        refine V_iconst 52 C dL_alike_51 rfl ic0 ?_
        refine V_iconst 53 C dL_alike_52 rfl ic0 ?_
        refine V_q2 56 (8 + 40 * k + 4) (48 + 240 * k + 24) C hQ hx dL_alike_53 rfl mL_call.z tw250 (k_about l G _ _ hl x σ hS hI _ _ _ _ rfl) rfl rfl ⟨Nat.le_of_ble_eq_true rfl, Nat.le_of_ble_eq_true rfl⟩ ⟨by omega, by omega⟩ ⟨by show _ ≤ 488; omega, by show _ ≤ 2928; omega⟩ (Nat.le_of_ble_eq_true rfl) ?_
        clear hS hQ n h
        intro n h hS hQ
        refine V_aload_n 57 C dL_alike_56 rfl rfl ?_
        refine V_iconst 58 C dL_alike_57 rfl ic2 ?_
        refine V_iload 60 C dL_alike_58 rfl rfl ?_
        refine V_iconst 61 C dL_alike_60 rfl ic0 ?_
        refine V_iconst 62 C dL_alike_61 rfl ic0 ?_
        refine V_q2 65 (8 + 40 * k + 8) (48 + 240 * k + 48) C hS hx.sy dL_alike_62 rfl mL_call.z tw250 (k_about l G _ _ hl q σ hQ hI _ _ _ _ rfl) rfl rfl ⟨Nat.le_of_ble_eq_true rfl, Nat.le_of_ble_eq_true rfl⟩ ⟨by omega, by omega⟩ ⟨by show _ ≤ 488; omega, by show _ ≤ 2928; omega⟩ (Nat.le_of_ble_eq_true rfl) ?_
        clear hS hQ n h
        intro n h hQ hS
        refine V_icmp_ne 172 68 C dL_alike_65 (by decide) rfl  (fun c65 => by exact absurd rfl c65) (fun c65 => ?_)
        refine V_aload_n 69 C dL_alike_68 rfl rfl ?_
        refine V_iconst 70 C dL_alike_69 rfl ic5 ?_
        refine V_iload 72 C dL_alike_70 rfl rfl ?_
        refine V_iload_n 73 C dL_alike_72 rfl rfl ?_
        refine V_bipush 75 C dL_alike_73 rfl bip8 ?_
        refine V_iremN 76 C dL_alike_75 rfl (by omega) (by omega) (by omega) ?_
        refine V_iconst 77 C dL_alike_76 rfl ic0 ?_
        refine V_q2 80 (8 + 40 * k + 12) (48 + 240 * k + 72) C hQ hx dL_alike_77 rfl mL_call.z tw250 (k_sheet l G _ _ hl x σ hS hI _ _ _ _ rfl) rfl rfl ⟨Nat.le_of_ble_eq_true rfl, Nat.le_of_ble_eq_true rfl⟩ ⟨by omega, by omega⟩ ⟨by show _ ≤ 488; omega, by show _ ≤ 2928; omega⟩ (Nat.le_of_ble_eq_true rfl) ?_
        clear hS hQ n h
        intro n h hS hQ
        refine V_aload_n 81 C dL_alike_80 rfl rfl ?_
        refine V_iconst 82 C dL_alike_81 rfl ic5 ?_
        refine V_iload 84 C dL_alike_82 rfl rfl ?_
        refine V_iload_n 85 C dL_alike_84 rfl rfl ?_
        refine V_bipush 87 C dL_alike_85 rfl bip8 ?_
        refine V_iremN 88 C dL_alike_87 rfl (by omega) (by omega) (by omega) ?_
        refine V_iconst 89 C dL_alike_88 rfl ic0 ?_
        refine V_q2 92 (8 + 40 * k + 16) (48 + 240 * k + 96) C hS hx.sy dL_alike_89 rfl mL_call.z tw250 (k_sheet l G _ _ hl q σ hQ hI _ _ _ _ rfl) rfl rfl ⟨Nat.le_of_ble_eq_true rfl, Nat.le_of_ble_eq_true rfl⟩ ⟨by omega, by omega⟩ ⟨by show _ ≤ 488; omega, by show _ ≤ 2928; omega⟩ (Nat.le_of_ble_eq_true rfl) ?_
        clear hS hQ n h
        intro n h hQ hS
        refine V_icmp_ne 172 95 C dL_alike_92 (by decide) rfl  (fun c92 => by exact absurd rfl c92) (fun c92 => ?_)
        refine V_aload_n 96 C dL_alike_95 rfl rfl ?_
        refine V_iconst 97 C dL_alike_96 rfl ic4 ?_
        refine V_iload 99 C dL_alike_97 rfl rfl ?_
        refine V_iload_n 100 C dL_alike_99 rfl rfl ?_
        refine V_iconst 101 C dL_alike_100 rfl ic4 ?_
        refine V_iremN 102 C dL_alike_101 rfl (by omega) (by omega) (by omega) ?_
        refine V_iconst 103 C dL_alike_102 rfl ic0 ?_
        refine V_q2 106 (8 + 40 * k + 20) (48 + 240 * k + 120) C hQ hx dL_alike_103 rfl mL_call.z tw250 (k_carrier l G _ _ hl x σ hS hI _ _ _ _ rfl) rfl rfl ⟨Nat.le_of_ble_eq_true rfl, Nat.le_of_ble_eq_true rfl⟩ ⟨by omega, by omega⟩ ⟨by show _ ≤ 488; omega, by show _ ≤ 2928; omega⟩ (Nat.le_of_ble_eq_true rfl) ?_
        clear hS hQ n h
        intro n h hS hQ
        refine V_aload_n 107 C dL_alike_106 rfl rfl ?_
        refine V_iconst 108 C dL_alike_107 rfl ic4 ?_
        refine V_iload 110 C dL_alike_108 rfl rfl ?_
        refine V_iload_n 111 C dL_alike_110 rfl rfl ?_
        refine V_iconst 112 C dL_alike_111 rfl ic4 ?_
        refine V_iremN 113 C dL_alike_112 rfl (by omega) (by omega) (by omega) ?_
        refine V_iconst 114 C dL_alike_113 rfl ic0 ?_
        refine V_q2 117 (8 + 40 * k + 24) (48 + 240 * k + 144) C hS hx.sy dL_alike_114 rfl mL_call.z tw250 (k_carrier l G _ _ hl q σ hQ hI _ _ _ _ rfl) rfl rfl ⟨Nat.le_of_ble_eq_true rfl, Nat.le_of_ble_eq_true rfl⟩ ⟨by omega, by omega⟩ ⟨by show _ ≤ 488; omega, by show _ ≤ 2928; omega⟩ (Nat.le_of_ble_eq_true rfl) ?_
        clear hS hQ n h
        intro n h hQ hS
        refine V_icmp_ne 172 120 C dL_alike_117 (by decide) rfl  (fun c117 => by exact absurd rfl c117) (fun c117 => ?_)
        refine V_aload_n 121 C dL_alike_120 rfl rfl ?_
        refine V_iconst 122 C dL_alike_121 rfl ic3 ?_
        refine V_iload 124 C dL_alike_122 rfl rfl ?_
        refine V_iload_n 125 C dL_alike_124 rfl rfl ?_
        refine V_iconst 126 C dL_alike_125 rfl ic3 ?_
        refine V_iremN 127 C dL_alike_126 rfl (by omega) (by omega) (by omega) ?_
        refine V_iconst 128 C dL_alike_127 rfl ic0 ?_
        refine V_q2 131 (8 + 40 * k + 28) (48 + 240 * k + 168) C hQ hx dL_alike_128 rfl mL_call.z tw250 (k_way l G _ _ hl x σ hS hI _ _ _ _ rfl) rfl rfl ⟨Nat.le_of_ble_eq_true rfl, Nat.le_of_ble_eq_true rfl⟩ ⟨by omega, by omega⟩ ⟨by show _ ≤ 488; omega, by show _ ≤ 2928; omega⟩ (Nat.le_of_ble_eq_true rfl) ?_
        clear hS hQ n h
        intro n h hS hQ
        refine V_aload_n 132 C dL_alike_131 rfl rfl ?_
        refine V_iconst 133 C dL_alike_132 rfl ic3 ?_
        refine V_iload 135 C dL_alike_133 rfl rfl ?_
        refine V_iload_n 136 C dL_alike_135 rfl rfl ?_
        refine V_iconst 137 C dL_alike_136 rfl ic3 ?_
        refine V_iremN 138 C dL_alike_137 rfl (by omega) (by omega) (by omega) ?_
        refine V_iconst 139 C dL_alike_138 rfl ic0 ?_
        refine V_q2 142 (8 + 40 * k + 32) (48 + 240 * k + 192) C hS hx.sy dL_alike_139 rfl mL_call.z tw250 (k_way l G _ _ hl q σ hQ hI _ _ _ _ rfl) rfl rfl ⟨Nat.le_of_ble_eq_true rfl, Nat.le_of_ble_eq_true rfl⟩ ⟨by omega, by omega⟩ ⟨by show _ ≤ 488; omega, by show _ ≤ 2928; omega⟩ (Nat.le_of_ble_eq_true rfl) ?_
        clear hS hQ n h
        intro n h hQ hS
        refine V_icmp_ne 172 145 C dL_alike_142 (by decide) rfl  (fun c142 => by exact absurd rfl c142) (fun c142 => ?_)
        refine V_aload_n 146 C dL_alike_145 rfl rfl ?_
        refine V_bipush 148 C dL_alike_146 rfl bip6 ?_
        refine V_iload 150 C dL_alike_148 rfl rfl ?_
        refine V_iconst 151 C dL_alike_150 rfl ic0 ?_
        refine V_iconst 152 C dL_alike_151 rfl ic0 ?_
        refine V_q2 155 (8 + 40 * k + 36) (48 + 240 * k + 216) C hQ hx dL_alike_152 rfl mL_call.z tw250 (k_told l G _ _ hl x σ hS hI _ _ _ _ rfl) rfl rfl ⟨Nat.le_of_ble_eq_true rfl, Nat.le_of_ble_eq_true rfl⟩ ⟨by omega, by omega⟩ ⟨by show _ ≤ 488; omega, by show _ ≤ 2928; omega⟩ (Nat.le_of_ble_eq_true rfl) ?_
        clear hS hQ n h
        intro n h hS hQ
        refine V_aload_n 156 C dL_alike_155 rfl rfl ?_
        refine V_bipush 158 C dL_alike_156 rfl bip6 ?_
        refine V_iload 160 C dL_alike_158 rfl rfl ?_
        refine V_iconst 161 C dL_alike_160 rfl ic0 ?_
        refine V_iconst 162 C dL_alike_161 rfl ic0 ?_
        refine V_q2 165 (8 + 40 * k + 40) (48 + 240 * k + 240) C hS hx.sy dL_alike_162 rfl mL_call.z tw250 (k_told l G _ _ hl q σ hQ hI _ _ _ _ rfl) rfl rfl ⟨Nat.le_of_ble_eq_true rfl, Nat.le_of_ble_eq_true rfl⟩ ⟨by omega, by omega⟩ ⟨by show _ ≤ 488; omega, by show _ ≤ 2928; omega⟩ (Nat.le_of_ble_eq_true rfl) ?_
        clear hS hQ n h
        intro n h hQ hS
        refine V_icmp_ne 172 168 C dL_alike_165 (by decide) rfl  (fun c165 => by exact absurd rfl c165) (fun c165 => ?_)
        refine V_iconst 169 C dL_alike_168 rfl ic1 ?_
        refine V_goto 173 C dL_alike_169 (by decide) ?_
        refine V_istore_n 174 C dL_alike_173 rfl (by decide) (L' := [(0, _), (1, _), (2, _), (3, _), (4, _)]) rfl ?_
        refine V_iinc 177 C dL_alike_174 rfl (by decide) rfl (ii1 _) (L' := [(0, _), (1, _), (2, _), (3, _), (4, _)]) rfl ?_
        refine V_goto 36 C dL_alike_177 (by decide) ?_
        refine V_L [0, 1, 2, 3, 4] rfl ?_
        exact V_wid _ _ (by omega) (by omega) (ih (k + 1) (by omega) (by omega) _ _ hS hQ)
  intro n h hS hQ
  refine V_aload_n 1 C dL_alike_0 rfl rfl ?_
  refine V_iload_n 2 C dL_alike_1 rfl rfl ?_
  refine V_i2l 3 C dL_alike_2 rfl  ?_
  refine V_iconst 4 C dL_alike_3 rfl ic1 ?_
  refine V_iload_n 5 C dL_alike_4 rfl rfl ?_
  refine V_bipush 7 C dL_alike_5 rfl bip30 ?_
  refine V_iremN 8 C dL_alike_7 rfl (by omega) (by omega) (by omega) ?_
  refine V_iaddN 9 C dL_alike_8 rfl  ?_
  refine V_w2 12 (4) (24) C hQ hx dL_alike_9 rfl mL_doSimulate tw912 (k_doSimulate l G _ _ hl x σ hS hI _ _ _ rfl) rfl rfl ⟨Nat.le_of_ble_eq_true rfl, Nat.le_of_ble_eq_true rfl⟩ ⟨by omega, by omega⟩ ⟨by show _ ≤ 488; omega, by show _ ≤ 2928; omega⟩ (Nat.le_of_ble_eq_true rfl) ?_
  clear hS hQ n h
  intro n h hS hQ
  refine V_aload_n 13 C dL_alike_12 rfl rfl ?_
  refine V_iload_n 14 C dL_alike_13 rfl rfl ?_
  refine V_i2l 15 C dL_alike_14 rfl  ?_
  refine V_iconst 16 C dL_alike_15 rfl ic1 ?_
  refine V_iload_n 17 C dL_alike_16 rfl rfl ?_
  refine V_bipush 19 C dL_alike_17 rfl bip30 ?_
  refine V_iremN 20 C dL_alike_19 rfl (by omega) (by omega) (by omega) ?_
  refine V_iaddN 21 C dL_alike_20 rfl  ?_
  refine V_w2 24 (8) (48) C hS hx.sy dL_alike_21 rfl mL_doSimulate tw912 (k_doSimulate l G _ _ hl q σ hQ hI _ _ _ rfl) rfl rfl ⟨Nat.le_of_ble_eq_true rfl, Nat.le_of_ble_eq_true rfl⟩ ⟨by omega, by omega⟩ ⟨by show _ ≤ 488; omega, by show _ ≤ 2928; omega⟩ (Nat.le_of_ble_eq_true rfl) ?_
  clear hS hQ n h
  intro n h hQ hS
  refine V_icmp_ne 31 27 C dL_alike_24 (by decide) rfl  (fun c24 => by exact absurd rfl c24) (fun c24 => ?_)
  refine V_iconst 28 C dL_alike_27 rfl ic1 ?_
  refine V_goto 32 C dL_alike_28 (by decide) ?_
  refine V_istore_n 33 C dL_alike_32 rfl (by decide) (L' := [(0, _), (1, _), (2, _), (3, _)]) rfl ?_
  refine V_iconst 34 C dL_alike_33 rfl ic0 ?_
  refine V_istore 36 C dL_alike_34 rfl (by decide) (L' := [(0, _), (1, _), (2, _), (3, _), (4, _)]) rfl ?_
  refine V_L [0, 1, 2, 3, 4] rfl ?_
  exact V_wid _ _ (by omega) (by omega) (J36 13 0 (by omega) (by omega) _ _ hS hQ)

set_option maxRecDepth 100000 in
set_option maxHeartbeats 4000000 in
theorem c_L_waits (l : Launch) (G : GT) (n0 : Nat) (h0 : AH) (hl : l.stackTraces = false) (x q : Nat) (hx : apt x q) (σ : St) (hS0 : SC x σ h0) (hQ0 : SC q σ h0) (B : Nat) (hJ : JS B σ) (n9 : Nat) (hn : n9 ≤ 180) : Ct l yL_waits cL_waits 7 (some .boolean) 11 24 144 G n0 h0 [.ref x, .ref q, .int (nI n9)] (PoT x q (nI 1) (wts 3 n9 σ) (wts 3 n9 σ)) := by
  refine Ct_ofZ mL_waits.z (Nat.le_of_ble_eq_true rfl) ?_
  intro p₀ e₀ s₀ m₀ as₀ bl₀ me₀ c₀ C
  refine V_Le (L' := [(0, .ref x), (1, .ref q), (2, .int (nI n9))]) rfl ?_
  suffices H : ∀ (n : Nat) (h : AH) (hS : SC x σ h) (hQ : SC q σ h), V p₀ l e₀ (rmD 11 24 144) s₀ m₀ as₀ bl₀ me₀ c₀ (MQ bl₀ (Po G (PoT x q (nI 1) (wts 3 n9 σ) (wts 3 n9 σ))) as₀ s₀ 24 144 (rg G)) G 7 0 0 n h 0 [(0, .ref x), (1, .ref q), (2, .int (nI n9))] [] from H n0 h0 hS0 hQ0
  have J5 : ∀ (t9 : Nat), ∀ (f m : Nat) (v : Int32) (σ1 : St) (B1 : Nat) (lim : f < t9) (hm : m ≤ 60 * f ∧ f ≤ 3) (hw : wts f m σ1 = wts 3 n9 σ) (hJ1 : JS B1 σ1) (hv : (0 < m ∧ v = nI m) ∨ (m = 0 ∧ v ≤ 0)) (n : Nat) (h : AH) (hS : SC x σ1 h) (hQ : SC q σ1 h), V p₀ l e₀ (rmD 11 24 144) s₀ m₀ as₀ bl₀ me₀ c₀ (MQ bl₀ (Po G (PoT x q (nI 1) (wts 3 n9 σ) (wts 3 n9 σ))) as₀ s₀ 24 144 (rg G)) G 7 (8 * (3 - f)) (48 * (3 - f)) n h 5 [(0, .ref x), (1, .ref q), (2, .int (nI n9)), (3, .int (nI 1)), (4, .int v)] [] := by
    intro t9
    induction t9 with
    | zero => intro f m v σ1 B1 lim hm hw hJ1 hv n h hS hQ; exact absurd lim (by omega)
    | succ t9 ih =>
      intro f m v σ1 B1 lim hm hw hJ1 hv n h hS hQ
      rcases hv with ⟨hm0, rfl⟩ | ⟨rfl, hv0⟩
      · skip
        obtain ⟨g, hg⟩ : ∃ j, f = j + 1 := ⟨f - 1, by omega⟩
        rw [hg] at hw
        have hI1 := hJ1.si
        refine V_iload 7 C dL_waits_5 rfl rfl ?_
        refine V_if_leN 74 10 C dL_waits_7 (by decide) rfl (by omega) (fun c7 => by omega) (fun c7 => ?_)
        refine V_iload_n 11 C dL_waits_10 rfl rfl ?_
        refine V_if_eqN 74 14 C dL_waits_11 (by decide) rfl (by omega) (fun c11 => by omega) (fun c11 => ?_)
        refine V_iload 16 C dL_waits_14 rfl rfl ?_
        refine V_bipush 18 C dL_waits_16 rfl bip60 ?_
        by_cases h60 : 60 < m
        · skip
          have hp : 1 ≤ 60 ∧ 60 ≤ 60 := by omega
          have emin : min m 60 = 60 := by omega
          refine V_icmp_leN 26 21 C dL_waits_18 (by decide) rfl (by omega) (by omega) (fun c18 => by omega) (fun c18 => ?_)
          refine V_bipush 23 C dL_waits_21 rfl bip60 ?_
          refine V_goto 28 C dL_waits_23 (by decide) ?_
          refine V_istore 30 C dL_waits_28 rfl (by decide) (L' := [(0, _), (1, _), (2, _), (3, _), (4, _), (5, _)]) rfl ?_
          refine V_aload_n 31 C dL_waits_30 rfl rfl ?_
          refine V_bipush 33 C dL_waits_31 rfl bip15 ?_
          refine V_iload 35 C dL_waits_33 rfl rfl ?_
          refine V_iconst 36 C dL_waits_35 rfl ic0 ?_
          refine V_iconst 37 C dL_waits_36 rfl ic0 ?_
          refine V_q2 40 (8 * (3 - f) + 4) (48 * (3 - f) + 24) C hQ hx dL_waits_37 rfl mL_call.z tw250 (k_hours l G _ _ hl x σ1 hS hI1 _ _ _ _ (st_hr hI1.1 hp).1 _ (st_hr hI1.1 hp).2) rfl rfl ⟨Nat.le_of_ble_eq_true rfl, Nat.le_of_ble_eq_true rfl⟩ ⟨by omega, by omega⟩ ⟨by show _ ≤ 24; omega, by show _ ≤ 144; omega⟩ (Nat.le_of_ble_eq_true rfl) ?_
          clear hS hQ n h
          intro n h hS hQ
          refine V_istore 42 C dL_waits_40 rfl (by decide) (L' := [(0, _), (1, _), (2, _), (3, _), (4, _), (5, _), (6, _)]) rfl ?_
          refine V_iload 44 C dL_waits_42 rfl rfl ?_
          refine V_if_ltN 66 47 C dL_waits_44 (by decide) rfl (by have := coms_le hI1.1 60; omega) (fun c44 => by exact c44.elim) (fun c44 => ?_)
          refine V_aload_n 48 C dL_waits_47 rfl rfl ?_
          refine V_bipush 50 C dL_waits_48 rfl bip15 ?_
          refine V_iload 52 C dL_waits_50 rfl rfl ?_
          refine V_iconst 53 C dL_waits_52 rfl ic0 ?_
          refine V_iconst 54 C dL_waits_53 rfl ic0 ?_
          refine V_q2 57 (8 * (3 - f) + 8) (48 * (3 - f) + 48) C hS hx.sy dL_waits_54 rfl mL_call.z tw250 (k_hours l G _ _ hl q σ1 hQ hI1 _ _ _ _ (st_hr hI1.1 hp).1 _ (st_hr hI1.1 hp).2) rfl rfl ⟨Nat.le_of_ble_eq_true rfl, Nat.le_of_ble_eq_true rfl⟩ ⟨by omega, by omega⟩ ⟨by show _ ≤ 24; omega, by show _ ≤ 144; omega⟩ (Nat.le_of_ble_eq_true rfl) ?_
          clear hS hQ n h
          intro n h hQ hS
          refine V_iload 59 C dL_waits_57 rfl rfl ?_
          refine V_icmp_ne 66 62 C dL_waits_59 (by decide) rfl  (fun c59 => by exact absurd rfl c59) (fun c59 => ?_)
          refine V_iconst 63 C dL_waits_62 rfl ic1 ?_
          refine V_goto 67 C dL_waits_63 (by decide) ?_
          refine V_istore_n 68 C dL_waits_67 rfl (by decide) (L' := [(0, _), (1, _), (2, _), (3, _), (4, _), (5, _), (6, _)]) rfl ?_
          refine V_iinc 71 C dL_waits_68 rfl (by decide) rfl rfl (L' := [(0, _), (1, _), (2, _), (3, _), (4, _), (5, _), (6, _)]) rfl ?_
          refine V_goto 5 C dL_waits_71 (by decide) ?_
          refine V_L [0, 1, 2, 3, 4] rfl ?_
          exact V_wid _ _ (by omega) (by omega) (ih g (m - 60) _ (psh σ1 (hrs σ1.1 60)) (B1 + 60) (by omega) (by omega) (by rw [← hw, wts_s (by omega), emin]) (JS_hr hJ1 (by omega)) (Or.inl ⟨by omega, iim60 (by omega)⟩) _ _ hS hQ)
        · skip
          have hp : 1 ≤ m ∧ m ≤ 60 := by omega
          have emin : min m 60 = m := by omega
          refine V_icmp_leN 26 21 C dL_waits_18 (by decide) rfl (by omega) (by omega) (fun c18 => ?_) (fun c18 => by omega)
          refine V_iload 28 C dL_waits_26 rfl rfl ?_
          refine V_istore 30 C dL_waits_28 rfl (by decide) (L' := [(0, _), (1, _), (2, _), (3, _), (4, _), (5, _)]) rfl ?_
          refine V_aload_n 31 C dL_waits_30 rfl rfl ?_
          refine V_bipush 33 C dL_waits_31 rfl bip15 ?_
          refine V_iload 35 C dL_waits_33 rfl rfl ?_
          refine V_iconst 36 C dL_waits_35 rfl ic0 ?_
          refine V_iconst 37 C dL_waits_36 rfl ic0 ?_
          refine V_q2 40 (8 * (3 - f) + 4) (48 * (3 - f) + 24) C hQ hx dL_waits_37 rfl mL_call.z tw250 (k_hours l G _ _ hl x σ1 hS hI1 _ _ _ _ (st_hr hI1.1 hp).1 _ (st_hr hI1.1 hp).2) rfl rfl ⟨Nat.le_of_ble_eq_true rfl, Nat.le_of_ble_eq_true rfl⟩ ⟨by omega, by omega⟩ ⟨by show _ ≤ 24; omega, by show _ ≤ 144; omega⟩ (Nat.le_of_ble_eq_true rfl) ?_
          clear hS hQ n h
          intro n h hS hQ
          refine V_istore 42 C dL_waits_40 rfl (by decide) (L' := [(0, _), (1, _), (2, _), (3, _), (4, _), (5, _), (6, _)]) rfl ?_
          refine V_iload 44 C dL_waits_42 rfl rfl ?_
          refine V_if_ltN 66 47 C dL_waits_44 (by decide) rfl (by have := coms_le hI1.1 m; omega) (fun c44 => by exact c44.elim) (fun c44 => ?_)
          refine V_aload_n 48 C dL_waits_47 rfl rfl ?_
          refine V_bipush 50 C dL_waits_48 rfl bip15 ?_
          refine V_iload 52 C dL_waits_50 rfl rfl ?_
          refine V_iconst 53 C dL_waits_52 rfl ic0 ?_
          refine V_iconst 54 C dL_waits_53 rfl ic0 ?_
          refine V_q2 57 (8 * (3 - f) + 8) (48 * (3 - f) + 48) C hS hx.sy dL_waits_54 rfl mL_call.z tw250 (k_hours l G _ _ hl q σ1 hQ hI1 _ _ _ _ (st_hr hI1.1 hp).1 _ (st_hr hI1.1 hp).2) rfl rfl ⟨Nat.le_of_ble_eq_true rfl, Nat.le_of_ble_eq_true rfl⟩ ⟨by omega, by omega⟩ ⟨by show _ ≤ 24; omega, by show _ ≤ 144; omega⟩ (Nat.le_of_ble_eq_true rfl) ?_
          clear hS hQ n h
          intro n h hQ hS
          refine V_iload 59 C dL_waits_57 rfl rfl ?_
          refine V_icmp_ne 66 62 C dL_waits_59 (by decide) rfl  (fun c59 => by exact absurd rfl c59) (fun c59 => ?_)
          refine V_iconst 63 C dL_waits_62 rfl ic1 ?_
          refine V_goto 67 C dL_waits_63 (by decide) ?_
          refine V_istore_n 68 C dL_waits_67 rfl (by decide) (L' := [(0, _), (1, _), (2, _), (3, _), (4, _), (5, _), (6, _)]) rfl ?_
          refine V_iinc 71 C dL_waits_68 rfl (by decide) rfl rfl (L' := [(0, _), (1, _), (2, _), (3, _), (4, _), (5, _), (6, _)]) rfl ?_
          refine V_goto 5 C dL_waits_71 (by decide) ?_
          refine V_L [0, 1, 2, 3, 4] rfl ?_
          exact V_wid _ _ (by omega) (by omega) (ih g (m - 60) _ (psh σ1 (hrs σ1.1 m)) (B1 + 60) (by omega) (by omega) (by rw [← hw, wts_s (by omega), emin]) (JS_hr hJ1 (by omega)) (Or.inr ⟨by omega, iim60' m (by omega)⟩) _ _ hS hQ)
      · skip
        rw [wts_0] at hw
        subst hw
        refine V_iload 7 C dL_waits_5 rfl rfl ?_
        refine V_if_le 74 10 C dL_waits_7 (by decide) rfl  (fun c7 => ?_) (fun c7 => by exact absurd hv0 c7)
        refine V_iload_n 75 C dL_waits_74 rfl rfl ?_
        refine V_ireturn C dL_waits_75 rfl nar_1 (by omega) (by omega) ?_
        exact ⟨rfl, hS, hQ⟩
  intro n h hS hQ
  refine V_iconst 1 C dL_waits_0 rfl ic1 ?_
  refine V_istore_n 2 C dL_waits_1 rfl (by decide) (L' := [(0, _), (1, _), (2, _), (3, _)]) rfl ?_
  refine V_iload_n 3 C dL_waits_2 rfl rfl ?_
  refine V_istore 5 C dL_waits_3 rfl (by decide) (L' := [(0, _), (1, _), (2, _), (3, _), (4, _)]) rfl ?_
  refine V_L [0, 1, 2, 3, 4] rfl ?_
  exact V_wid _ _ (by omega) (by omega) (J5 4 3 n9 _ σ B (by omega) (by omega) rfl hJ (by by_cases e : n9 = 0; exact Or.inr ⟨e, by subst e; decide⟩; exact Or.inl ⟨by omega, rfl⟩) _ _ hS hQ)

set_option maxRecDepth 100000 in
set_option maxHeartbeats 4000000 in
theorem c_L_undoes (l : Launch) (G : GT) (n0 : Nat) (h0 : AH) (hl : l.stackTraces = false) (x q : Nat) (hx : apt x q) (σ : St) (hS0 : SC x σ h0) (hQ0 : SC q σ h0) (B n9 : Nat) (hJ : QJ B (np n9) σ) (hn : n9 ≤ 180) : Ct l yL_undoes cL_undoes 5 (some .boolean) 11 24 144 G n0 h0 [.ref x, .ref q, .int (nI n9)] (PoT x q (nI 1) (uns 3 n9 σ) (uns 3 n9 σ)) := by
  refine Ct_ofZ mL_undoes.z (Nat.le_of_ble_eq_true rfl) ?_
  intro p₀ e₀ s₀ m₀ as₀ bl₀ me₀ c₀ C
  refine V_Le (L' := [(0, .ref x), (1, .ref q), (2, .int (nI n9))]) rfl ?_
  suffices H : ∀ (n : Nat) (h : AH) (hS : SC x σ h) (hQ : SC q σ h), V p₀ l e₀ (rmD 11 24 144) s₀ m₀ as₀ bl₀ me₀ c₀ (MQ bl₀ (Po G (PoT x q (nI 1) (uns 3 n9 σ) (uns 3 n9 σ))) as₀ s₀ 24 144 (rg G)) G 5 0 0 n h 0 [(0, .ref x), (1, .ref q), (2, .int (nI n9))] [] from H n0 h0 hS0 hQ0
  have J5 : ∀ (t9 : Nat), ∀ (f m : Nat) (v : Int32) (τ : St) (lim : f < t9) (hm : m ≤ 60 * f ∧ f ≤ 3) (hw : uns f m τ = uns 3 n9 σ) (hQ1 : QJ B (np m) τ) (hv : (0 < m ∧ v = nI m) ∨ (m = 0 ∧ v ≤ 0)) (n : Nat) (h : AH) (hS : SC x τ h) (hQ : SC q τ h), V p₀ l e₀ (rmD 11 24 144) s₀ m₀ as₀ bl₀ me₀ c₀ (MQ bl₀ (Po G (PoT x q (nI 1) (uns 3 n9 σ) (uns 3 n9 σ))) as₀ s₀ 24 144 (rg G)) G 5 (8 * (3 - f)) (48 * (3 - f)) n h 5 [(0, .ref x), (1, .ref q), (2, .int (nI n9)), (3, .int (nI 1)), (4, .int v)] [] := by
    intro t9
    induction t9 with
    | zero => intro f m v τ lim hm hw hQ1 hv n h hS hQ; exact absurd lim (by omega)
    | succ t9 ih =>
      intro f m v τ lim hm hw hQ1 hv n h hS hQ
      rcases hv with ⟨hm0, rfl⟩ | ⟨rfl, hv0⟩
      · skip
        obtain ⟨g, hg⟩ : ∃ j, f = j + 1 := ⟨f - 1, by omega⟩
        rw [hg] at hw
        rw [np_s (show ¬ m = 0 by omega)] at hQ1
        have hI1 := hQ1.1.si
        have hk0 := hQ1.2.1
        have hk1 : 0 < τ.2.1 := by omega
        have hk3 := hQ1.1.2.1
        have hk2 : τ.2.1 - 1 < 2 ^ 31 := by omega
        have hvv : (0 < m - 60 ∧ nI m + Int32.ofInt (-60) = nI (m - 60)) ∨ (m - 60 = 0 ∧ nI m + Int32.ofInt (-60) ≤ 0) := by
          by_cases e : 60 < m
          · exact Or.inl ⟨by omega, iim60 (by omega)⟩
          · exact Or.inr ⟨by omega, iim60' m (by omega)⟩
        refine V_iload 7 C dL_undoes_5 rfl rfl ?_
        refine V_if_leN 56 10 C dL_undoes_7 (by decide) rfl (by omega) (fun c7 => by omega) (fun c7 => ?_)
        refine V_iload_n 11 C dL_undoes_10 rfl rfl ?_
        refine V_if_eqN 56 14 C dL_undoes_11 (by decide) rfl (by omega) (fun c11 => by omega) (fun c11 => ?_)
        refine V_aload_n 15 C dL_undoes_14 rfl rfl ?_
        refine V_bipush 17 C dL_undoes_15 rfl bip16 ?_
        refine V_iconst 18 C dL_undoes_17 rfl ic0 ?_
        refine V_iconst 19 C dL_undoes_18 rfl ic0 ?_
        refine V_iconst 20 C dL_undoes_19 rfl ic0 ?_
        refine V_q2 23 (8 * (3 - f) + 4) (48 * (3 - f) + 24) C hQ hx dL_undoes_20 rfl mL_call.z tw250 (k_undo l G _ _ hl x τ hS hI1 _ _ _ _ (st_un hk1).1 _ (st_un hk1).2) rfl rfl ⟨Nat.le_of_ble_eq_true rfl, Nat.le_of_ble_eq_true rfl⟩ ⟨by omega, by omega⟩ ⟨by show _ ≤ 24; omega, by show _ ≤ 144; omega⟩ (Nat.le_of_ble_eq_true rfl) ?_
        clear hS hQ n h
        intro n h hS hQ
        refine V_callSR 26 C dL_undoes_23 rfl mL_thrown.z tw954 (c_L_thrown l G _ _ _ (e_ne hk2).1 (e_ne hk2).2.1 (e_ne hk2).2.2) rfl rfl ⟨Nat.le_of_ble_eq_true rfl, Nat.le_of_ble_eq_true rfl⟩ ⟨by show _ ≤ 24; omega, by show _ ≤ 144; omega⟩ (Nat.le_of_ble_eq_true rfl) ?_
        rintro _ _ _ ⟨rfl, rfl, rfl⟩
        refine V_if_neN 48 29 C dL_undoes_26 (by decide) rfl (by omega) (fun c26 => by omega) (fun c26 => ?_)
        refine V_aload_n 30 C dL_undoes_29 rfl rfl ?_
        refine V_bipush 32 C dL_undoes_30 rfl bip16 ?_
        refine V_iconst 33 C dL_undoes_32 rfl ic0 ?_
        refine V_iconst 34 C dL_undoes_33 rfl ic0 ?_
        refine V_iconst 35 C dL_undoes_34 rfl ic0 ?_
        refine V_q2 38 (8 * (3 - f) + 8) (48 * (3 - f) + 48) C hS hx.sy dL_undoes_35 rfl mL_call.z tw250 (k_undo l G _ _ hl q τ hQ hI1 _ _ _ _ (st_un hk1).1 _ (st_un hk1).2) rfl rfl ⟨Nat.le_of_ble_eq_true rfl, Nat.le_of_ble_eq_true rfl⟩ ⟨by omega, by omega⟩ ⟨by show _ ≤ 24; omega, by show _ ≤ 144; omega⟩ (Nat.le_of_ble_eq_true rfl) ?_
        clear hS hQ n h
        intro n h hQ hS
        refine V_callSR 41 C dL_undoes_38 rfl mL_thrown.z tw954 (c_L_thrown l G _ _ _ (e_ne hk2).1 (e_ne hk2).2.1 (e_ne hk2).2.2) rfl rfl ⟨Nat.le_of_ble_eq_true rfl, Nat.le_of_ble_eq_true rfl⟩ ⟨by show _ ≤ 24; omega, by show _ ≤ 144; omega⟩ (Nat.le_of_ble_eq_true rfl) ?_
        rintro _ _ _ ⟨rfl, rfl, rfl⟩
        refine V_if_neN 48 44 C dL_undoes_41 (by decide) rfl (by omega) (fun c41 => by omega) (fun c41 => ?_)
        refine V_iconst 45 C dL_undoes_44 rfl ic1 ?_
        refine V_goto 49 C dL_undoes_45 (by decide) ?_
        refine V_istore_n 50 C dL_undoes_49 rfl (by decide) (L' := [(0, _), (1, _), (2, _), (3, _), (4, _)]) rfl ?_
        refine V_iinc 53 C dL_undoes_50 rfl (by decide) rfl rfl (L' := [(0, _), (1, _), (2, _), (3, _), (4, _)]) rfl ?_
        refine V_goto 5 C dL_undoes_53 (by decide) ?_
        refine V_L [0, 1, 2, 3, 4] rfl ?_
        exact V_wid _ _ (by omega) (by omega) (ih g (m - 60) _ (pop τ) (by omega) (by omega) (by rw [← hw, uns_s (by omega)]) (QJ_pop hQ1) hvv _ _ hS hQ)
      · skip
        rw [uns_0] at hw
        subst hw
        refine V_iload 7 C dL_undoes_5 rfl rfl ?_
        refine V_if_le 56 10 C dL_undoes_7 (by decide) rfl  (fun c7 => ?_) (fun c7 => by exact absurd hv0 c7)
        refine V_iload_n 57 C dL_undoes_56 rfl rfl ?_
        refine V_ireturn C dL_undoes_57 rfl nar_1 (by omega) (by omega) ?_
        exact ⟨rfl, hS, hQ⟩
  intro n h hS hQ
  refine V_iconst 1 C dL_undoes_0 rfl ic1 ?_
  refine V_istore_n 2 C dL_undoes_1 rfl (by decide) (L' := [(0, _), (1, _), (2, _), (3, _)]) rfl ?_
  refine V_iload_n 3 C dL_undoes_2 rfl rfl ?_
  refine V_istore 5 C dL_undoes_3 rfl (by decide) (L' := [(0, _), (1, _), (2, _), (3, _), (4, _)]) rfl ?_
  refine V_L [0, 1, 2, 3, 4] rfl ?_
  exact V_wid _ _ (by omega) (by omega) (J5 4 3 n9 _ σ (by omega) (by omega) rfl hJ (by by_cases e : n9 = 0; exact Or.inr ⟨e, by subst e; decide⟩; exact Or.inl ⟨by omega, rfl⟩) _ _ hS hQ)

