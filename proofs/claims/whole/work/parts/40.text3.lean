/-! THE TEXT: what its commands do -/
def ok (x : Ar) : Bool := decide (¬ x.1 < 0)
def okC (x : Ar) : Bool := decide (x.1 = 0)
/-- a command of the text: whether it can be done, and the row behind it -/
def gv (L a b c : Nat) (y : Nat → Nat) : Bool × (Nat → Nat) :=
  if L = 116 then (ok (aTw y), (aTw y).2)
  else if L = 114 then (ok (aRd y (nI a) (nI b) (nI c)), (aRd y (nI a) (nI b) (nI c)).2)
  else if L = 117 then (ok (aRu y (nI a)), (aRu y (nI a)).2)
  else if L = 119 then (ok (aWr y (nI a) (nI b) (nI c)), (aWr y (nI a) (nI b) (nI c)).2)
  else if L = 107 then (ok (aTk y (nI a) (nI b)), (aTk y (nI a) (nI b)).2)
  else if L = 108 then (ok (aLy y (nI a)), (aLy y (nI a)).2)
  else if L = 103 then (ok (aGo y (nI a) (nI b)), (aGo y (nI a) (nI b)).2)
  else if L = 99 then (okC (aCp y (nI a) (nI b)), (aCp y (nI a) (nI b)).2)
  else (ok (aHr y (nI a)), (aHr y (nI a)).2)
theorem gv_t {L a b c : Nat} {y : Nat → Nat} (h : L = 116) : gv L a b c y = (ok (aTw y), (aTw y).2) := by unfold gv; rw [if_pos h]
theorem gv_r {L a b c : Nat} {y : Nat → Nat} (h : L = 114) : gv L a b c y = (ok (aRd y (nI a) (nI b) (nI c)), (aRd y (nI a) (nI b) (nI c)).2) := by unfold gv; rw [if_neg (by omega), if_pos h]
theorem gv_u {L a b c : Nat} {y : Nat → Nat} (h : L = 117) : gv L a b c y = (ok (aRu y (nI a)), (aRu y (nI a)).2) := by unfold gv; rw [if_neg (by omega), if_neg (by omega), if_pos h]
theorem gv_w {L a b c : Nat} {y : Nat → Nat} (h : L = 119) : gv L a b c y = (ok (aWr y (nI a) (nI b) (nI c)), (aWr y (nI a) (nI b) (nI c)).2) := by unfold gv; rw [if_neg (by omega), if_neg (by omega), if_neg (by omega), if_pos h]
theorem gv_k {L a b c : Nat} {y : Nat → Nat} (h : L = 107) : gv L a b c y = (ok (aTk y (nI a) (nI b)), (aTk y (nI a) (nI b)).2) := by unfold gv; rw [if_neg (by omega), if_neg (by omega), if_neg (by omega), if_neg (by omega), if_pos h]
theorem gv_l {L a b c : Nat} {y : Nat → Nat} (h : L = 108) : gv L a b c y = (ok (aLy y (nI a)), (aLy y (nI a)).2) := by unfold gv; rw [if_neg (by omega), if_neg (by omega), if_neg (by omega), if_neg (by omega), if_neg (by omega), if_pos h]
theorem gv_g {L a b c : Nat} {y : Nat → Nat} (h : L = 103) : gv L a b c y = (ok (aGo y (nI a) (nI b)), (aGo y (nI a) (nI b)).2) := by unfold gv; rw [if_neg (by omega), if_neg (by omega), if_neg (by omega), if_neg (by omega), if_neg (by omega), if_neg (by omega), if_pos h]
theorem gv_c {L a b c : Nat} {y : Nat → Nat} (h : L = 99) : gv L a b c y = (okC (aCp y (nI a) (nI b)), (aCp y (nI a) (nI b)).2) := by unfold gv; rw [if_neg (by omega), if_neg (by omega), if_neg (by omega), if_neg (by omega), if_neg (by omega), if_neg (by omega), if_neg (by omega), if_pos h]
theorem gv_h {L a b c : Nat} {y : Nat → Nat} (h : ¬ L = 99 ∧ ¬ L = 103 ∧ ¬ L = 107 ∧ ¬ L = 108 ∧ ¬ L = 114 ∧ ¬ L = 116 ∧ ¬ L = 117 ∧ ¬ L = 119) : gv L a b c y = (ok (aHr y (nI a)), (aHr y (nI a)).2) := by unfold gv; rw [if_neg (by omega), if_neg (by omega), if_neg (by omega), if_neg (by omega), if_neg (by omega), if_neg (by omega), if_neg (by omega), if_neg (by omega)]
theorem Iv_gv {y : Nat → Nat} (hI : Iv y) (L a b c : Nat) : Iv (gv L a b c y).2 := by
  unfold gv
  repeat' split
  · exact Iv_aTw hI
  · exact Iv_aRd hI _ _ _
  · exact Iv_aRu hI _
  · exact Iv_aWr hI _ _ _
  · exact Iv_aTk hI _ _
  · exact Iv_aLy hI _
  · exact Iv_aGo hI _ _
  · exact Iv_aCp hI _ _
  · exact Iv_aHr hI _
theorem ok_t {x : Ar} (h : ¬ x.1 < 0) : ok x = true := decide_eq_true h
theorem ok_f {x : Ar} (h : x.1 < 0) : ok x = false := decide_eq_false (fun c => c h)
theorem okC_t {x : Ar} (h : x.1 = 0) : okC x = true := decide_eq_true h
theorem okC_f {x : Ar} (h : ¬ x.1 = 0) : okC x = false := decide_eq_false h
theorem bpT {b : Bool} (h : b = true) : nI (bp (b = true)) = nI 1 := by rw [bp_t h]
theorem bpF {b : Bool} (h : b = false) : nI (bp (b = true)) = nI 0 := by rw [h]; rfl
/-- all commands of the text: where it is wrong (or not), the row, how many could not be done -/
def rdt (T : Nat → Nat) (N : Nat) : Nat → Nat → (Nat → Nat) → Nat → Nat × (Nat → Nat) × Nat
  | 0, _, y, o => (NO, y, o)
  | k + 1, p, y, o => if p < N then (match (rcm T N p).1 with
      | none => ((rcm T N p).2, y, o)
      | some (a, b, c) => rdt T N k (rcm T N p).2 (gv (T p) a b c y).2 (o + bp ((gv (T p) a b c y).1 = false))) else (NO, y, o)
theorem rdt_e {T : Nat → Nat} {N k p o : Nat} {y : Nat → Nat} (h : N ≤ p) : rdt T N k p y o = (NO, y, o) := by
  cases k with
  | zero => rfl
  | succ k => simp only [rdt]; rw [if_neg (by omega)]
theorem rdt_n {T : Nat → Nat} {N k p o : Nat} {y : Nat → Nat} (hk : 0 < k) (h : p < N) (e : (rcm T N p).1 = none) : rdt T N k p y o = ((rcm T N p).2, y, o) := by
  obtain ⟨j, rfl⟩ : ∃ j, k = j + 1 := ⟨k - 1, by omega⟩
  simp only [rdt]
  rw [if_pos h, e]
theorem rdt_s {T : Nat → Nat} {N k p o a b c : Nat} {y : Nat → Nat} (hk : 0 < k) (h : p < N) (e : (rcm T N p).1 = some (a, b, c)) : rdt T N k p y o = rdt T N (k - 1) (rcm T N p).2 (gv (T p) a b c y).2 (o + bp ((gv (T p) a b c y).1 = false)) := by
  obtain ⟨j, rfl⟩ : ∃ j, k = j + 1 := ⟨k - 1, by omega⟩
  rw [Nat.add_sub_cancel]
  simp only [rdt]
  rw [if_pos h, e]
theorem bd_p {N p : Nat} {r : Option Nat × Nat} {k : Nat → Nat → Option (Nat × Nat × Nat) × Nat} (hr : p ≤ r.2 ∧ r.2 ≤ N) (hk : ∀ a q, p ≤ q → q ≤ N → p ≤ (k a q).2 ∧ (k a q).2 ≤ N) : p ≤ (bd r k).2 ∧ (bd r k).2 ≤ N := by
  unfold bd
  split
  · exact hr
  · exact hk _ _ hr.1 hr.2
theorem rn_q {T : Nat → Nat} {N lo hi k v p q : Nat} (hp : p ≤ N) (hq : q ≤ p) : q ≤ (rn T N lo hi k v p).2 ∧ (rn T N lo hi k v p).2 ≤ N := by
  have := rn_p (T := T) (lo := lo) (hi := hi) (k := k) (v := v) hp
  omega
theorem rcm_p {T : Nat → Nat} {N p : Nat} (hp : p < N) : (rcm T N p).2 ≤ N ∧ ∀ x, (rcm T N p).1 = some x → p + 1 ≤ (rcm T N p).2 := by
  have key : rcm T N p = (none, p) ∨ (p + 1 ≤ (rcm T N p).2 ∧ (rcm T N p).2 ≤ N) := by
    unfold rcm
    repeat' split
    · exact Or.inr ⟨Nat.le_refl _, hp⟩
    · exact Or.inr (bd_p (rn_q hp (Nat.le_refl _)) fun a q h1 h2 => bd_p (rn_q h2 h1) fun b q h1 h2 => bd_p (rn_q h2 h1) fun c q h1 h2 => ⟨h1, h2⟩)
    · exact Or.inr (bd_p (rn_q hp (Nat.le_refl _)) fun a q h1 h2 => ⟨h1, h2⟩)
    · exact Or.inr (bd_p (rn_q hp (Nat.le_refl _)) fun a q h1 h2 => bd_p (rn_q h2 h1) fun b q h1 h2 => bd_p (rn_q h2 h1) fun c q h1 h2 => ⟨h1, h2⟩)
    · exact Or.inr (bd_p (rn_q hp (Nat.le_refl _)) fun a q h1 h2 => bd_p (rn_q h2 h1) fun b q h1 h2 => ⟨h1, h2⟩)
    · exact Or.inr (bd_p (rn_q hp (Nat.le_refl _)) fun a q h1 h2 => ⟨h1, h2⟩)
    · exact Or.inr (bd_p (rn_q hp (Nat.le_refl _)) fun a q h1 h2 => bd_p (rn_q h2 h1) fun b q h1 h2 => ⟨h1, h2⟩)
    · exact Or.inr (bd_p (rn_q hp (Nat.le_refl _)) fun a q h1 h2 => bd_p (rn_q h2 h1) fun b q h1 h2 => ⟨h1, h2⟩)
    · exact Or.inr (bd_p (rn_q hp (Nat.le_refl _)) fun a q h1 h2 => ⟨h1, h2⟩)
    · exact Or.inl rfl
  rcases key with e | e
  · rw [e]
    exact ⟨by show p ≤ N; omega, fun x hx => by cases hx⟩
  · exact ⟨e.2, fun x _ => e.1⟩
theorem rdt_k {T : Nat → Nat} {N : Nat} : ∀ {k k' p o : Nat} {y : Nat → Nat}, N - p ≤ k → N - p ≤ k' → rdt T N k p y o = rdt T N k' p y o
  | 0, k', p, o, y, h, h' => by rw [rdt_e (by omega), rdt_e (by omega)]
  | k + 1, 0, p, o, y, h, h' => by rw [rdt_e (by omega), rdt_e (by omega)]
  | k + 1, k' + 1, p, o, y, h, h' => by
    by_cases hp : p < N
    · have h1 := rcm_p (T := T) hp
      rcases hc : (rcm T N p).1 with _ | ⟨a, b, c⟩
      · rw [rdt_n (by omega) hp hc, rdt_n (by omega) hp hc]
      · have h2 := h1.2 _ hc
        rw [rdt_s (by omega) hp hc, rdt_s (by omega) hp hc]
        exact rdt_k (by omega) (by omega)
    · rw [rdt_e (by omega), rdt_e (by omega)]
/-- where the text is wrong doesn't hang on the row -/
theorem rdt_1 {T : Nat → Nat} {N : Nat} : ∀ {k p o o' : Nat} {y y' : Nat → Nat}, (rdt T N k p y o).1 = (rdt T N k p y' o').1
  | 0, p, o, o', y, y' => rfl
  | k + 1, p, o, o', y, y' => by
    by_cases hp : p < N
    · rcases hc : (rcm T N p).1 with _ | ⟨a, b, c⟩
      · rw [rdt_n (by omega) hp hc, rdt_n (by omega) hp hc]
      · rw [rdt_s (by omega) hp hc, rdt_s (by omega) hp hc]
        exact rdt_1
    · rw [rdt_e (by omega), rdt_e (by omega)]
/-- where the text is wrong -/
def fer (T : Nat → Nat) (N : Nat) : Nat := if N = 0 ∨ ¬ T 0 = 70 then 0 else (rdt T N N 1 (fun _ => 0) 0).1
theorem rdt_b {T : Nat → Nat} {N : Nat} : ∀ {k p o : Nat} {y : Nat → Nat}, (rdt T N k p y o).1 = NO ∨ (rdt T N k p y o).1 ≤ N
  | 0, p, o, y => Or.inl rfl
  | k + 1, p, o, y => by
    by_cases hp : p < N
    · have h1 := rcm_p (T := T) hp
      rcases hc : (rcm T N p).1 with _ | ⟨a, b, c⟩
      · rw [rdt_n (by omega) hp hc]; exact Or.inr h1.1
      · rw [rdt_s (by omega) hp hc]; exact rdt_b
    · rw [rdt_e (by omega)]; exact Or.inl rfl
theorem dX0_giveCommandTo_0 : decode cX0_giveCommandTo 0 = .ok (.aload_n 0, 1) := by decide +kernel
theorem dX0_giveCommandTo_1 : decode cX0_giveCommandTo 1 = .ok (.getfield 34, 3) := by decide +kernel
theorem dX0_giveCommandTo_4 : decode cX0_giveCommandTo 4 = .ok (.tableswitch 288 99 119 #[263, 288, 288, 288, 238, 288, 288, 288, 194, 219, 288, 288, 288, 288, 288, 113, 288, 100, 144, 288, 163], 100) := by decide +kernel
theorem dX0_giveCommandTo_104 : decode cX0_giveCommandTo 104 = .ok (.aload_n 1, 1) := by decide +kernel
theorem dX0_giveCommandTo_105 : decode cX0_giveCommandTo 105 = .ok (.invokevirtual 57, 3) := by decide +kernel
theorem dX0_giveCommandTo_108 : decode cX0_giveCommandTo 108 = .ok (.ifCond .lt 7, 3) := by decide +kernel
theorem dX0_giveCommandTo_111 : decode cX0_giveCommandTo 111 = .ok (.iconst 1, 1) := by decide +kernel
theorem dX0_giveCommandTo_112 : decode cX0_giveCommandTo 112 = .ok (.goto 4, 3) := by decide +kernel
theorem dX0_giveCommandTo_115 : decode cX0_giveCommandTo 115 = .ok (.iconst 0, 1) := by decide +kernel
theorem dX0_giveCommandTo_116 : decode cX0_giveCommandTo 116 = .ok (.ireturn, 1) := by decide +kernel
theorem dX0_giveCommandTo_117 : decode cX0_giveCommandTo 117 = .ok (.aload_n 1, 1) := by decide +kernel
theorem dX0_giveCommandTo_118 : decode cX0_giveCommandTo 118 = .ok (.aload_n 0, 1) := by decide +kernel
theorem dX0_giveCommandTo_119 : decode cX0_giveCommandTo 119 = .ok (.getfield 15, 3) := by decide +kernel
theorem dX0_giveCommandTo_122 : decode cX0_giveCommandTo 122 = .ok (.iconst 0, 1) := by decide +kernel
theorem dX0_giveCommandTo_123 : decode cX0_giveCommandTo 123 = .ok (.iaload, 1) := by decide +kernel
theorem dX0_giveCommandTo_124 : decode cX0_giveCommandTo 124 = .ok (.aload_n 0, 1) := by decide +kernel
theorem dX0_giveCommandTo_125 : decode cX0_giveCommandTo 125 = .ok (.getfield 15, 3) := by decide +kernel
theorem dX0_giveCommandTo_128 : decode cX0_giveCommandTo 128 = .ok (.iconst 1, 1) := by decide +kernel
theorem dX0_giveCommandTo_129 : decode cX0_giveCommandTo 129 = .ok (.iaload, 1) := by decide +kernel
theorem dX0_giveCommandTo_130 : decode cX0_giveCommandTo 130 = .ok (.aload_n 0, 1) := by decide +kernel
theorem dX0_giveCommandTo_131 : decode cX0_giveCommandTo 131 = .ok (.getfield 15, 3) := by decide +kernel
theorem dX0_giveCommandTo_134 : decode cX0_giveCommandTo 134 = .ok (.iconst 2, 1) := by decide +kernel
theorem dX0_giveCommandTo_135 : decode cX0_giveCommandTo 135 = .ok (.iaload, 1) := by decide +kernel
theorem dX0_giveCommandTo_136 : decode cX0_giveCommandTo 136 = .ok (.invokevirtual 63, 3) := by decide +kernel
theorem dX0_giveCommandTo_139 : decode cX0_giveCommandTo 139 = .ok (.ifCond .lt 7, 3) := by decide +kernel
theorem dX0_giveCommandTo_142 : decode cX0_giveCommandTo 142 = .ok (.iconst 1, 1) := by decide +kernel
theorem dX0_giveCommandTo_143 : decode cX0_giveCommandTo 143 = .ok (.goto 4, 3) := by decide +kernel
theorem dX0_giveCommandTo_146 : decode cX0_giveCommandTo 146 = .ok (.iconst 0, 1) := by decide +kernel
theorem dX0_giveCommandTo_147 : decode cX0_giveCommandTo 147 = .ok (.ireturn, 1) := by decide +kernel
theorem dX0_giveCommandTo_148 : decode cX0_giveCommandTo 148 = .ok (.aload_n 1, 1) := by decide +kernel
theorem dX0_giveCommandTo_149 : decode cX0_giveCommandTo 149 = .ok (.aload_n 0, 1) := by decide +kernel
theorem dX0_giveCommandTo_150 : decode cX0_giveCommandTo 150 = .ok (.getfield 15, 3) := by decide +kernel
theorem dX0_giveCommandTo_153 : decode cX0_giveCommandTo 153 = .ok (.iconst 0, 1) := by decide +kernel
theorem dX0_giveCommandTo_154 : decode cX0_giveCommandTo 154 = .ok (.iaload, 1) := by decide +kernel
theorem dX0_giveCommandTo_155 : decode cX0_giveCommandTo 155 = .ok (.invokevirtual 67, 3) := by decide +kernel
theorem dX0_giveCommandTo_158 : decode cX0_giveCommandTo 158 = .ok (.ifCond .lt 7, 3) := by decide +kernel
theorem dX0_giveCommandTo_161 : decode cX0_giveCommandTo 161 = .ok (.iconst 1, 1) := by decide +kernel
theorem dX0_giveCommandTo_162 : decode cX0_giveCommandTo 162 = .ok (.goto 4, 3) := by decide +kernel
theorem dX0_giveCommandTo_165 : decode cX0_giveCommandTo 165 = .ok (.iconst 0, 1) := by decide +kernel
theorem dX0_giveCommandTo_166 : decode cX0_giveCommandTo 166 = .ok (.ireturn, 1) := by decide +kernel
theorem dX0_giveCommandTo_167 : decode cX0_giveCommandTo 167 = .ok (.aload_n 1, 1) := by decide +kernel
theorem dX0_giveCommandTo_168 : decode cX0_giveCommandTo 168 = .ok (.aload_n 0, 1) := by decide +kernel
theorem dX0_giveCommandTo_169 : decode cX0_giveCommandTo 169 = .ok (.getfield 15, 3) := by decide +kernel
theorem dX0_giveCommandTo_172 : decode cX0_giveCommandTo 172 = .ok (.iconst 0, 1) := by decide +kernel
theorem dX0_giveCommandTo_173 : decode cX0_giveCommandTo 173 = .ok (.iaload, 1) := by decide +kernel
theorem dX0_giveCommandTo_174 : decode cX0_giveCommandTo 174 = .ok (.aload_n 0, 1) := by decide +kernel
theorem dX0_giveCommandTo_175 : decode cX0_giveCommandTo 175 = .ok (.getfield 15, 3) := by decide +kernel
theorem dX0_giveCommandTo_178 : decode cX0_giveCommandTo 178 = .ok (.iconst 1, 1) := by decide +kernel
theorem dX0_giveCommandTo_179 : decode cX0_giveCommandTo 179 = .ok (.iaload, 1) := by decide +kernel
theorem dX0_giveCommandTo_180 : decode cX0_giveCommandTo 180 = .ok (.aload_n 0, 1) := by decide +kernel
theorem dX0_giveCommandTo_181 : decode cX0_giveCommandTo 181 = .ok (.getfield 15, 3) := by decide +kernel
theorem dX0_giveCommandTo_184 : decode cX0_giveCommandTo 184 = .ok (.iconst 2, 1) := by decide +kernel
theorem dX0_giveCommandTo_185 : decode cX0_giveCommandTo 185 = .ok (.iaload, 1) := by decide +kernel
theorem dX0_giveCommandTo_186 : decode cX0_giveCommandTo 186 = .ok (.invokevirtual 71, 3) := by decide +kernel
theorem dX0_giveCommandTo_189 : decode cX0_giveCommandTo 189 = .ok (.ifCond .lt 7, 3) := by decide +kernel
theorem dX0_giveCommandTo_192 : decode cX0_giveCommandTo 192 = .ok (.iconst 1, 1) := by decide +kernel
theorem dX0_giveCommandTo_193 : decode cX0_giveCommandTo 193 = .ok (.goto 4, 3) := by decide +kernel
theorem dX0_giveCommandTo_196 : decode cX0_giveCommandTo 196 = .ok (.iconst 0, 1) := by decide +kernel
theorem dX0_giveCommandTo_197 : decode cX0_giveCommandTo 197 = .ok (.ireturn, 1) := by decide +kernel
theorem dX0_giveCommandTo_198 : decode cX0_giveCommandTo 198 = .ok (.aload_n 1, 1) := by decide +kernel
theorem dX0_giveCommandTo_199 : decode cX0_giveCommandTo 199 = .ok (.aload_n 0, 1) := by decide +kernel
theorem dX0_giveCommandTo_200 : decode cX0_giveCommandTo 200 = .ok (.getfield 15, 3) := by decide +kernel
theorem dX0_giveCommandTo_203 : decode cX0_giveCommandTo 203 = .ok (.iconst 0, 1) := by decide +kernel
theorem dX0_giveCommandTo_204 : decode cX0_giveCommandTo 204 = .ok (.iaload, 1) := by decide +kernel
theorem dX0_giveCommandTo_205 : decode cX0_giveCommandTo 205 = .ok (.aload_n 0, 1) := by decide +kernel
theorem dX0_giveCommandTo_206 : decode cX0_giveCommandTo 206 = .ok (.getfield 15, 3) := by decide +kernel
theorem dX0_giveCommandTo_209 : decode cX0_giveCommandTo 209 = .ok (.iconst 1, 1) := by decide +kernel
theorem dX0_giveCommandTo_210 : decode cX0_giveCommandTo 210 = .ok (.iaload, 1) := by decide +kernel
theorem dX0_giveCommandTo_211 : decode cX0_giveCommandTo 211 = .ok (.invokevirtual 74, 3) := by decide +kernel
theorem dX0_giveCommandTo_214 : decode cX0_giveCommandTo 214 = .ok (.ifCond .lt 7, 3) := by decide +kernel
theorem dX0_giveCommandTo_217 : decode cX0_giveCommandTo 217 = .ok (.iconst 1, 1) := by decide +kernel
theorem dX0_giveCommandTo_218 : decode cX0_giveCommandTo 218 = .ok (.goto 4, 3) := by decide +kernel
theorem dX0_giveCommandTo_221 : decode cX0_giveCommandTo 221 = .ok (.iconst 0, 1) := by decide +kernel
theorem dX0_giveCommandTo_222 : decode cX0_giveCommandTo 222 = .ok (.ireturn, 1) := by decide +kernel
theorem dX0_giveCommandTo_223 : decode cX0_giveCommandTo 223 = .ok (.aload_n 1, 1) := by decide +kernel
theorem dX0_giveCommandTo_224 : decode cX0_giveCommandTo 224 = .ok (.aload_n 0, 1) := by decide +kernel
theorem dX0_giveCommandTo_225 : decode cX0_giveCommandTo 225 = .ok (.getfield 15, 3) := by decide +kernel
theorem dX0_giveCommandTo_228 : decode cX0_giveCommandTo 228 = .ok (.iconst 0, 1) := by decide +kernel
theorem dX0_giveCommandTo_229 : decode cX0_giveCommandTo 229 = .ok (.iaload, 1) := by decide +kernel
theorem dX0_giveCommandTo_230 : decode cX0_giveCommandTo 230 = .ok (.invokevirtual 78, 3) := by decide +kernel
theorem dX0_giveCommandTo_233 : decode cX0_giveCommandTo 233 = .ok (.ifCond .lt 7, 3) := by decide +kernel
theorem dX0_giveCommandTo_236 : decode cX0_giveCommandTo 236 = .ok (.iconst 1, 1) := by decide +kernel
theorem dX0_giveCommandTo_237 : decode cX0_giveCommandTo 237 = .ok (.goto 4, 3) := by decide +kernel
theorem dX0_giveCommandTo_240 : decode cX0_giveCommandTo 240 = .ok (.iconst 0, 1) := by decide +kernel
theorem dX0_giveCommandTo_241 : decode cX0_giveCommandTo 241 = .ok (.ireturn, 1) := by decide +kernel
theorem dX0_giveCommandTo_242 : decode cX0_giveCommandTo 242 = .ok (.aload_n 1, 1) := by decide +kernel
theorem dX0_giveCommandTo_243 : decode cX0_giveCommandTo 243 = .ok (.aload_n 0, 1) := by decide +kernel
theorem dX0_giveCommandTo_244 : decode cX0_giveCommandTo 244 = .ok (.getfield 15, 3) := by decide +kernel
theorem dX0_giveCommandTo_247 : decode cX0_giveCommandTo 247 = .ok (.iconst 0, 1) := by decide +kernel
theorem dX0_giveCommandTo_248 : decode cX0_giveCommandTo 248 = .ok (.iaload, 1) := by decide +kernel
theorem dX0_giveCommandTo_249 : decode cX0_giveCommandTo 249 = .ok (.aload_n 0, 1) := by decide +kernel
theorem dX0_giveCommandTo_250 : decode cX0_giveCommandTo 250 = .ok (.getfield 15, 3) := by decide +kernel
theorem dX0_giveCommandTo_253 : decode cX0_giveCommandTo 253 = .ok (.iconst 1, 1) := by decide +kernel
theorem dX0_giveCommandTo_254 : decode cX0_giveCommandTo 254 = .ok (.iaload, 1) := by decide +kernel
theorem dX0_giveCommandTo_255 : decode cX0_giveCommandTo 255 = .ok (.invokevirtual 81, 3) := by decide +kernel
theorem dX0_giveCommandTo_258 : decode cX0_giveCommandTo 258 = .ok (.ifCond .lt 7, 3) := by decide +kernel
theorem dX0_giveCommandTo_261 : decode cX0_giveCommandTo 261 = .ok (.iconst 1, 1) := by decide +kernel
theorem dX0_giveCommandTo_262 : decode cX0_giveCommandTo 262 = .ok (.goto 4, 3) := by decide +kernel
theorem dX0_giveCommandTo_265 : decode cX0_giveCommandTo 265 = .ok (.iconst 0, 1) := by decide +kernel
theorem dX0_giveCommandTo_266 : decode cX0_giveCommandTo 266 = .ok (.ireturn, 1) := by decide +kernel
theorem dX0_giveCommandTo_267 : decode cX0_giveCommandTo 267 = .ok (.aload_n 1, 1) := by decide +kernel
theorem dX0_giveCommandTo_268 : decode cX0_giveCommandTo 268 = .ok (.aload_n 0, 1) := by decide +kernel
theorem dX0_giveCommandTo_269 : decode cX0_giveCommandTo 269 = .ok (.getfield 15, 3) := by decide +kernel
theorem dX0_giveCommandTo_272 : decode cX0_giveCommandTo 272 = .ok (.iconst 0, 1) := by decide +kernel
theorem dX0_giveCommandTo_273 : decode cX0_giveCommandTo 273 = .ok (.iaload, 1) := by decide +kernel
theorem dX0_giveCommandTo_274 : decode cX0_giveCommandTo 274 = .ok (.aload_n 0, 1) := by decide +kernel
theorem dX0_giveCommandTo_275 : decode cX0_giveCommandTo 275 = .ok (.getfield 15, 3) := by decide +kernel
theorem dX0_giveCommandTo_278 : decode cX0_giveCommandTo 278 = .ok (.iconst 1, 1) := by decide +kernel
theorem dX0_giveCommandTo_279 : decode cX0_giveCommandTo 279 = .ok (.iaload, 1) := by decide +kernel
theorem dX0_giveCommandTo_280 : decode cX0_giveCommandTo 280 = .ok (.invokevirtual 84, 3) := by decide +kernel
theorem dX0_giveCommandTo_283 : decode cX0_giveCommandTo 283 = .ok (.ifCond .ne 7, 3) := by decide +kernel
theorem dX0_giveCommandTo_286 : decode cX0_giveCommandTo 286 = .ok (.iconst 1, 1) := by decide +kernel
theorem dX0_giveCommandTo_287 : decode cX0_giveCommandTo 287 = .ok (.goto 4, 3) := by decide +kernel
theorem dX0_giveCommandTo_290 : decode cX0_giveCommandTo 290 = .ok (.iconst 0, 1) := by decide +kernel
theorem dX0_giveCommandTo_291 : decode cX0_giveCommandTo 291 = .ok (.ireturn, 1) := by decide +kernel
theorem dX0_giveCommandTo_292 : decode cX0_giveCommandTo 292 = .ok (.aload_n 1, 1) := by decide +kernel
theorem dX0_giveCommandTo_293 : decode cX0_giveCommandTo 293 = .ok (.aload_n 0, 1) := by decide +kernel
theorem dX0_giveCommandTo_294 : decode cX0_giveCommandTo 294 = .ok (.getfield 15, 3) := by decide +kernel
theorem dX0_giveCommandTo_297 : decode cX0_giveCommandTo 297 = .ok (.iconst 0, 1) := by decide +kernel
theorem dX0_giveCommandTo_298 : decode cX0_giveCommandTo 298 = .ok (.iaload, 1) := by decide +kernel
theorem dX0_giveCommandTo_299 : decode cX0_giveCommandTo 299 = .ok (.invokevirtual 87, 3) := by decide +kernel
theorem dX0_giveCommandTo_302 : decode cX0_giveCommandTo 302 = .ok (.ifCond .lt 7, 3) := by decide +kernel
theorem dX0_giveCommandTo_305 : decode cX0_giveCommandTo 305 = .ok (.iconst 1, 1) := by decide +kernel
theorem dX0_giveCommandTo_306 : decode cX0_giveCommandTo 306 = .ok (.goto 4, 3) := by decide +kernel
theorem dX0_giveCommandTo_309 : decode cX0_giveCommandTo 309 = .ok (.iconst 0, 1) := by decide +kernel
theorem dX0_giveCommandTo_310 : decode cX0_giveCommandTo 310 = .ok (.ireturn, 1) := by decide +kernel
set_option maxRecDepth 100000 in
set_option maxHeartbeats 4000000 in
theorem c_X0_giveCommandTo (l : Launch) (G : GT) (n : Nat) (h : AH) (X N p Lt : Nat) (T : Nat → Nat) (f g : Nat → Int32) (hT : tx X T N p (nI Lt) f g h) (q : Nat) (y : Nat → Nat) (hC : cty q y h) (hI : Iv y) (hd : q + 32 ≤ X ∨ X + 3 ≤ q) (a b cc : Nat) (ha : agr (ar Lt) g a b cc) (hL : Lt = 116 ∨ Lt = 114 ∨ Lt = 117 ∨ Lt = 119 ∨ Lt = 107 ∨ Lt = 108 ∨ Lt = 103 ∨ Lt = 99 ∨ Lt = 104) : Ct l yX0_giveCommandTo cX0_giveCommandTo 2 (some .boolean) 7 0 0 G n h [.ref X, .ref q] (Ri (nI (bp ((gv Lt a b cc y).1 = true))) n (fun h' => cty q (gv Lt a b cc y).2 h' ∧ FR q h h')) := by
  obtain ⟨⟨hN, hpN⟩, hX, hf, hg, hch⟩ := id hT
  refine Ct_of mX0_giveCommandTo.1 (Nat.le_of_ble_eq_true rfl) ?_
  intro p₀ e₀ s₀ m₀ as₀ bl₀ me₀ c₀ C hin
  refine V_Le (L' := [(0, .ref X), (1, .ref q)]) rfl ?_
  refine V_aload_n 1 C dX0_giveCommandTo_0 rfl rfl ?_
  refine V_get (k := 4) 4 C dX0_giveCommandTo_1 rfl fcX0 tw216 (by decide) rfl hX rfl ?_
  refine V_case 99 (fun c4_99 => ?_) (fun n4_99 => ?_)
  · refine V_tsI 267 C dX0_giveCommandTo_4 c4_99 (by decide) (by decide) (by decide) rfl (by decide) ?_
    have har : ar Lt = 2 := by rw [c4_99]; rfl
    rw [har] at ha
    refine V_aload_n 268 C dX0_giveCommandTo_267 rfl rfl ?_
    refine V_aload_n 269 C dX0_giveCommandTo_268 rfl rfl ?_
    refine V_get (k := 1) 272 C dX0_giveCommandTo_269 rfl fcX0 tw213 (by decide) rfl hX rfl ?_
    refine V_iconst 273 C dX0_giveCommandTo_272 rfl ic0 ?_
    refine V_iald (j := 0) 274 C dX0_giveCommandTo_273 rfl hg rfl (by omega) (by omega) ?_
    rw [ha.1 (by omega)]
    refine V_aload_n 275 C dX0_giveCommandTo_274 rfl rfl ?_
    refine V_get (k := 1) 278 C dX0_giveCommandTo_275 rfl fcX0 tw213 (by decide) rfl hX rfl ?_
    refine V_iconst 279 C dX0_giveCommandTo_278 rfl ic1 ?_
    refine V_iald (j := 1) 280 C dX0_giveCommandTo_279 rfl hg rfl (by omega) (by omega) ?_
    rw [ha.2.1 (by omega)]
    refine V_callV 283 C dX0_giveCommandTo_280 rfl mX1_addCopy tw492 fcX1 hC.1 (c_X1_addCopy l G _ _ q y hC hI (nI a) (nI b)) rfl rfl (by decide) ⟨by omega, by omega⟩ (Nat.le_of_ble_eq_true rfl) ?_
    rintro _ _ h2 ⟨rfl, rfl, hC2, hF2⟩
    refine V_if_ne 290 286 C dX0_giveCommandTo_283 (by decide) rfl  (fun c283 => ?_) (fun c283 => ?_)
    · have eg := gv_c (a := a) (b := b) (c := cc) (y := y) c4_99
      rw [← show (gv Lt a b cc y).2 = (aCp y (nI a) (nI b)).2 from by rw [eg]] at hC2
      have hz : some (Value.int (nI 0)) = some (Value.int (nI (bp ((gv Lt a b cc y).1 = true)))) := by rw [bpF (show (gv Lt a b cc y).1 = false from by rw [eg]; exact okC_f c283)]
      refine V_iconst 291 C dX0_giveCommandTo_290 rfl ic0 ?_
      refine V_ireturn C dX0_giveCommandTo_291 rfl (by decide) (by omega) (by omega) ?_
      exact ⟨hz, rfl, hC2, hF2⟩
    · have eg := gv_c (a := a) (b := b) (c := cc) (y := y) c4_99
      rw [← show (gv Lt a b cc y).2 = (aCp y (nI a) (nI b)).2 from by rw [eg]] at hC2
      have hz : some (Value.int (nI 1)) = some (Value.int (nI (bp ((gv Lt a b cc y).1 = true)))) := by rw [bpT (show (gv Lt a b cc y).1 = true from by rw [eg]; exact okC_t c283)]
      refine V_iconst 287 C dX0_giveCommandTo_286 rfl ic1 ?_
      refine V_goto 291 C dX0_giveCommandTo_287 (by decide) ?_
      refine V_ireturn C dX0_giveCommandTo_291 rfl (by decide) (by omega) (by omega) ?_
      exact ⟨hz, rfl, hC2, hF2⟩
  · skip
    refine V_case 103 (fun c4_103 => ?_) (fun n4_103 => ?_)
    · refine V_tsI 242 C dX0_giveCommandTo_4 c4_103 (by decide) (by decide) (by decide) rfl (by decide) ?_
      have har : ar Lt = 2 := by rw [c4_103]; rfl
      rw [har] at ha
      refine V_aload_n 243 C dX0_giveCommandTo_242 rfl rfl ?_
      refine V_aload_n 244 C dX0_giveCommandTo_243 rfl rfl ?_
      refine V_get (k := 1) 247 C dX0_giveCommandTo_244 rfl fcX0 tw213 (by decide) rfl hX rfl ?_
      refine V_iconst 248 C dX0_giveCommandTo_247 rfl ic0 ?_
      refine V_iald (j := 0) 249 C dX0_giveCommandTo_248 rfl hg rfl (by omega) (by omega) ?_
      rw [ha.1 (by omega)]
      refine V_aload_n 250 C dX0_giveCommandTo_249 rfl rfl ?_
      refine V_get (k := 1) 253 C dX0_giveCommandTo_250 rfl fcX0 tw213 (by decide) rfl hX rfl ?_
      refine V_iconst 254 C dX0_giveCommandTo_253 rfl ic1 ?_
      refine V_iald (j := 1) 255 C dX0_giveCommandTo_254 rfl hg rfl (by omega) (by omega) ?_
      rw [ha.2.1 (by omega)]
      refine V_callV 258 C dX0_giveCommandTo_255 rfl mX1_send tw476 fcX1 hC.1 (c_X1_send l G _ _ q y hC hI (nI a) (nI b)) rfl rfl (by decide) ⟨by omega, by omega⟩ (Nat.le_of_ble_eq_true rfl) ?_
      rintro _ _ h2 ⟨rfl, rfl, hC2, hF2⟩
      refine V_if_lt 265 261 C dX0_giveCommandTo_258 (by decide) rfl  (fun c258 => ?_) (fun c258 => ?_)
      · have eg := gv_g (a := a) (b := b) (c := cc) (y := y) c4_103
        rw [← show (gv Lt a b cc y).2 = (aGo y (nI a) (nI b)).2 from by rw [eg]] at hC2
        have hz : some (Value.int (nI 0)) = some (Value.int (nI (bp ((gv Lt a b cc y).1 = true)))) := by rw [bpF (show (gv Lt a b cc y).1 = false from by rw [eg]; exact ok_f c258)]
        refine V_iconst 266 C dX0_giveCommandTo_265 rfl ic0 ?_
        refine V_ireturn C dX0_giveCommandTo_266 rfl (by decide) (by omega) (by omega) ?_
        exact ⟨hz, rfl, hC2, hF2⟩
      · have eg := gv_g (a := a) (b := b) (c := cc) (y := y) c4_103
        rw [← show (gv Lt a b cc y).2 = (aGo y (nI a) (nI b)).2 from by rw [eg]] at hC2
        have hz : some (Value.int (nI 1)) = some (Value.int (nI (bp ((gv Lt a b cc y).1 = true)))) := by rw [bpT (show (gv Lt a b cc y).1 = true from by rw [eg]; exact ok_t c258)]
        refine V_iconst 262 C dX0_giveCommandTo_261 rfl ic1 ?_
        refine V_goto 266 C dX0_giveCommandTo_262 (by decide) ?_
        refine V_ireturn C dX0_giveCommandTo_266 rfl (by decide) (by omega) (by omega) ?_
        exact ⟨hz, rfl, hC2, hF2⟩
    · skip
      refine V_case 107 (fun c4_107 => ?_) (fun n4_107 => ?_)
      · refine V_tsI 198 C dX0_giveCommandTo_4 c4_107 (by decide) (by decide) (by decide) rfl (by decide) ?_
        have har : ar Lt = 2 := by rw [c4_107]; rfl
        rw [har] at ha
        refine V_aload_n 199 C dX0_giveCommandTo_198 rfl rfl ?_
        refine V_aload_n 200 C dX0_giveCommandTo_199 rfl rfl ?_
        refine V_get (k := 1) 203 C dX0_giveCommandTo_200 rfl fcX0 tw213 (by decide) rfl hX rfl ?_
        refine V_iconst 204 C dX0_giveCommandTo_203 rfl ic0 ?_
        refine V_iald (j := 0) 205 C dX0_giveCommandTo_204 rfl hg rfl (by omega) (by omega) ?_
        rw [ha.1 (by omega)]
        refine V_aload_n 206 C dX0_giveCommandTo_205 rfl rfl ?_
        refine V_get (k := 1) 209 C dX0_giveCommandTo_206 rfl fcX0 tw213 (by decide) rfl hX rfl ?_
        refine V_iconst 210 C dX0_giveCommandTo_209 rfl ic1 ?_
        refine V_iald (j := 1) 211 C dX0_giveCommandTo_210 rfl hg rfl (by omega) (by omega) ?_
        rw [ha.2.1 (by omega)]
        refine V_callV 214 C dX0_giveCommandTo_211 rfl mX1_handOver tw446 fcX1 hC.1 (c_X1_handOver l G _ _ q y hC hI (nI a) (nI b)) rfl rfl (by decide) ⟨by omega, by omega⟩ (Nat.le_of_ble_eq_true rfl) ?_
        rintro _ _ h2 ⟨rfl, rfl, hC2, hF2⟩
        refine V_if_lt 221 217 C dX0_giveCommandTo_214 (by decide) rfl  (fun c214 => ?_) (fun c214 => ?_)
        · have eg := gv_k (a := a) (b := b) (c := cc) (y := y) c4_107
          rw [← show (gv Lt a b cc y).2 = (aTk y (nI a) (nI b)).2 from by rw [eg]] at hC2
          have hz : some (Value.int (nI 0)) = some (Value.int (nI (bp ((gv Lt a b cc y).1 = true)))) := by rw [bpF (show (gv Lt a b cc y).1 = false from by rw [eg]; exact ok_f c214)]
          refine V_iconst 222 C dX0_giveCommandTo_221 rfl ic0 ?_
          refine V_ireturn C dX0_giveCommandTo_222 rfl (by decide) (by omega) (by omega) ?_
          exact ⟨hz, rfl, hC2, hF2⟩
        · have eg := gv_k (a := a) (b := b) (c := cc) (y := y) c4_107
          rw [← show (gv Lt a b cc y).2 = (aTk y (nI a) (nI b)).2 from by rw [eg]] at hC2
          have hz : some (Value.int (nI 1)) = some (Value.int (nI (bp ((gv Lt a b cc y).1 = true)))) := by rw [bpT (show (gv Lt a b cc y).1 = true from by rw [eg]; exact ok_t c214)]
          refine V_iconst 218 C dX0_giveCommandTo_217 rfl ic1 ?_
          refine V_goto 222 C dX0_giveCommandTo_218 (by decide) ?_
          refine V_ireturn C dX0_giveCommandTo_222 rfl (by decide) (by omega) (by omega) ?_
          exact ⟨hz, rfl, hC2, hF2⟩
      · skip
        refine V_case 108 (fun c4_108 => ?_) (fun n4_108 => ?_)
        · refine V_tsI 223 C dX0_giveCommandTo_4 c4_108 (by decide) (by decide) (by decide) rfl (by decide) ?_
          have har : ar Lt = 1 := by rw [c4_108]; rfl
          rw [har] at ha
          refine V_aload_n 224 C dX0_giveCommandTo_223 rfl rfl ?_
          refine V_aload_n 225 C dX0_giveCommandTo_224 rfl rfl ?_
          refine V_get (k := 1) 228 C dX0_giveCommandTo_225 rfl fcX0 tw213 (by decide) rfl hX rfl ?_
          refine V_iconst 229 C dX0_giveCommandTo_228 rfl ic0 ?_
          refine V_iald (j := 0) 230 C dX0_giveCommandTo_229 rfl hg rfl (by omega) (by omega) ?_
          rw [ha.1 (by omega)]
          refine V_callV 233 C dX0_giveCommandTo_230 rfl mX1_layDown tw472 fcX1 hC.1 (c_X1_layDown l G _ _ q y hC hI (nI a)) rfl rfl (by decide) ⟨by omega, by omega⟩ (Nat.le_of_ble_eq_true rfl) ?_
          rintro _ _ h2 ⟨rfl, rfl, hC2, hF2⟩
          refine V_if_lt 240 236 C dX0_giveCommandTo_233 (by decide) rfl  (fun c233 => ?_) (fun c233 => ?_)
          · have eg := gv_l (a := a) (b := b) (c := cc) (y := y) c4_108
            rw [← show (gv Lt a b cc y).2 = (aLy y (nI a)).2 from by rw [eg]] at hC2
            have hz : some (Value.int (nI 0)) = some (Value.int (nI (bp ((gv Lt a b cc y).1 = true)))) := by rw [bpF (show (gv Lt a b cc y).1 = false from by rw [eg]; exact ok_f c233)]
            refine V_iconst 241 C dX0_giveCommandTo_240 rfl ic0 ?_
            refine V_ireturn C dX0_giveCommandTo_241 rfl (by decide) (by omega) (by omega) ?_
            exact ⟨hz, rfl, hC2, hF2⟩
          · have eg := gv_l (a := a) (b := b) (c := cc) (y := y) c4_108
            rw [← show (gv Lt a b cc y).2 = (aLy y (nI a)).2 from by rw [eg]] at hC2
            have hz : some (Value.int (nI 1)) = some (Value.int (nI (bp ((gv Lt a b cc y).1 = true)))) := by rw [bpT (show (gv Lt a b cc y).1 = true from by rw [eg]; exact ok_t c233)]
            refine V_iconst 237 C dX0_giveCommandTo_236 rfl ic1 ?_
            refine V_goto 241 C dX0_giveCommandTo_237 (by decide) ?_
            refine V_ireturn C dX0_giveCommandTo_241 rfl (by decide) (by omega) (by omega) ?_
            exact ⟨hz, rfl, hC2, hF2⟩
        · skip
          refine V_case 114 (fun c4_114 => ?_) (fun n4_114 => ?_)
          · refine V_tsI 117 C dX0_giveCommandTo_4 c4_114 (by decide) (by decide) (by decide) rfl (by decide) ?_
            have har : ar Lt = 3 := by rw [c4_114]; rfl
            rw [har] at ha
            refine V_aload_n 118 C dX0_giveCommandTo_117 rfl rfl ?_
            refine V_aload_n 119 C dX0_giveCommandTo_118 rfl rfl ?_
            refine V_get (k := 1) 122 C dX0_giveCommandTo_119 rfl fcX0 tw213 (by decide) rfl hX rfl ?_
            refine V_iconst 123 C dX0_giveCommandTo_122 rfl ic0 ?_
            refine V_iald (j := 0) 124 C dX0_giveCommandTo_123 rfl hg rfl (by omega) (by omega) ?_
            rw [ha.1 (by omega)]
            refine V_aload_n 125 C dX0_giveCommandTo_124 rfl rfl ?_
            refine V_get (k := 1) 128 C dX0_giveCommandTo_125 rfl fcX0 tw213 (by decide) rfl hX rfl ?_
            refine V_iconst 129 C dX0_giveCommandTo_128 rfl ic1 ?_
            refine V_iald (j := 1) 130 C dX0_giveCommandTo_129 rfl hg rfl (by omega) (by omega) ?_
            rw [ha.2.1 (by omega)]
            refine V_aload_n 131 C dX0_giveCommandTo_130 rfl rfl ?_
            refine V_get (k := 1) 134 C dX0_giveCommandTo_131 rfl fcX0 tw213 (by decide) rfl hX rfl ?_
            refine V_iconst 135 C dX0_giveCommandTo_134 rfl ic2 ?_
            refine V_iald (j := 2) 136 C dX0_giveCommandTo_135 rfl hg rfl (by omega) (by omega) ?_
            rw [ha.2.2 (by omega)]
            refine V_callV 139 C dX0_giveCommandTo_136 rfl mX1_addRoad tw424 fcX1 hC.1 (c_X1_addRoad l G _ _ q y hC hI (nI a) (nI b) (nI cc)) rfl rfl (by decide) ⟨by omega, by omega⟩ (Nat.le_of_ble_eq_true rfl) ?_
            rintro _ _ h2 ⟨rfl, rfl, hC2, hF2⟩
            refine V_if_lt 146 142 C dX0_giveCommandTo_139 (by decide) rfl  (fun c139 => ?_) (fun c139 => ?_)
            · have eg := gv_r (a := a) (b := b) (c := cc) (y := y) c4_114
              rw [← show (gv Lt a b cc y).2 = (aRd y (nI a) (nI b) (nI cc)).2 from by rw [eg]] at hC2
              have hz : some (Value.int (nI 0)) = some (Value.int (nI (bp ((gv Lt a b cc y).1 = true)))) := by rw [bpF (show (gv Lt a b cc y).1 = false from by rw [eg]; exact ok_f c139)]
              refine V_iconst 147 C dX0_giveCommandTo_146 rfl ic0 ?_
              refine V_ireturn C dX0_giveCommandTo_147 rfl (by decide) (by omega) (by omega) ?_
              exact ⟨hz, rfl, hC2, hF2⟩
            · have eg := gv_r (a := a) (b := b) (c := cc) (y := y) c4_114
              rw [← show (gv Lt a b cc y).2 = (aRd y (nI a) (nI b) (nI cc)).2 from by rw [eg]] at hC2
              have hz : some (Value.int (nI 1)) = some (Value.int (nI (bp ((gv Lt a b cc y).1 = true)))) := by rw [bpT (show (gv Lt a b cc y).1 = true from by rw [eg]; exact ok_t c139)]
              refine V_iconst 143 C dX0_giveCommandTo_142 rfl ic1 ?_
              refine V_goto 147 C dX0_giveCommandTo_143 (by decide) ?_
              refine V_ireturn C dX0_giveCommandTo_147 rfl (by decide) (by omega) (by omega) ?_
              exact ⟨hz, rfl, hC2, hF2⟩
          · skip
            refine V_case 116 (fun c4_116 => ?_) (fun n4_116 => ?_)
            · refine V_tsI 104 C dX0_giveCommandTo_4 c4_116 (by decide) (by decide) (by decide) rfl (by decide) ?_
              have har : ar Lt = 0 := by rw [c4_116]; rfl
              rw [har] at ha
              refine V_aload_n 105 C dX0_giveCommandTo_104 rfl rfl ?_
              refine V_callV 108 C dX0_giveCommandTo_105 rfl mX1_addTown tw420 fcX1 hC.1 (c_X1_addTown l G _ _ q y hC hI) rfl rfl (by decide) ⟨by omega, by omega⟩ (Nat.le_of_ble_eq_true rfl) ?_
              rintro _ _ h2 ⟨rfl, rfl, hC2, hF2⟩
              refine V_if_lt 115 111 C dX0_giveCommandTo_108 (by decide) rfl  (fun c108 => ?_) (fun c108 => ?_)
              · have eg := gv_t (a := a) (b := b) (c := cc) (y := y) c4_116
                rw [← show (gv Lt a b cc y).2 = (aTw y).2 from by rw [eg]] at hC2
                have hz : some (Value.int (nI 0)) = some (Value.int (nI (bp ((gv Lt a b cc y).1 = true)))) := by rw [bpF (show (gv Lt a b cc y).1 = false from by rw [eg]; exact ok_f c108)]
                refine V_iconst 116 C dX0_giveCommandTo_115 rfl ic0 ?_
                refine V_ireturn C dX0_giveCommandTo_116 rfl (by decide) (by omega) (by omega) ?_
                exact ⟨hz, rfl, hC2, hF2⟩
              · have eg := gv_t (a := a) (b := b) (c := cc) (y := y) c4_116
                rw [← show (gv Lt a b cc y).2 = (aTw y).2 from by rw [eg]] at hC2
                have hz : some (Value.int (nI 1)) = some (Value.int (nI (bp ((gv Lt a b cc y).1 = true)))) := by rw [bpT (show (gv Lt a b cc y).1 = true from by rw [eg]; exact ok_t c108)]
                refine V_iconst 112 C dX0_giveCommandTo_111 rfl ic1 ?_
                refine V_goto 116 C dX0_giveCommandTo_112 (by decide) ?_
                refine V_ireturn C dX0_giveCommandTo_116 rfl (by decide) (by omega) (by omega) ?_
                exact ⟨hz, rfl, hC2, hF2⟩
            · skip
              refine V_case 117 (fun c4_117 => ?_) (fun n4_117 => ?_)
              · refine V_tsI 148 C dX0_giveCommandTo_4 c4_117 (by decide) (by decide) (by decide) rfl (by decide) ?_
                have har : ar Lt = 1 := by rw [c4_117]; rfl
                rw [har] at ha
                refine V_aload_n 149 C dX0_giveCommandTo_148 rfl rfl ?_
                refine V_aload_n 150 C dX0_giveCommandTo_149 rfl rfl ?_
                refine V_get (k := 1) 153 C dX0_giveCommandTo_150 rfl fcX0 tw213 (by decide) rfl hX rfl ?_
                refine V_iconst 154 C dX0_giveCommandTo_153 rfl ic0 ?_
                refine V_iald (j := 0) 155 C dX0_giveCommandTo_154 rfl hg rfl (by omega) (by omega) ?_
                rw [ha.1 (by omega)]
                refine V_callV 158 C dX0_giveCommandTo_155 rfl mX1_addRunner tw433 fcX1 hC.1 (c_X1_addRunner l G _ _ q y hC hI (nI a)) rfl rfl (by decide) ⟨by omega, by omega⟩ (Nat.le_of_ble_eq_true rfl) ?_
                rintro _ _ h2 ⟨rfl, rfl, hC2, hF2⟩
                refine V_if_lt 165 161 C dX0_giveCommandTo_158 (by decide) rfl  (fun c158 => ?_) (fun c158 => ?_)
                · have eg := gv_u (a := a) (b := b) (c := cc) (y := y) c4_117
                  rw [← show (gv Lt a b cc y).2 = (aRu y (nI a)).2 from by rw [eg]] at hC2
                  have hz : some (Value.int (nI 0)) = some (Value.int (nI (bp ((gv Lt a b cc y).1 = true)))) := by rw [bpF (show (gv Lt a b cc y).1 = false from by rw [eg]; exact ok_f c158)]
                  refine V_iconst 166 C dX0_giveCommandTo_165 rfl ic0 ?_
                  refine V_ireturn C dX0_giveCommandTo_166 rfl (by decide) (by omega) (by omega) ?_
                  exact ⟨hz, rfl, hC2, hF2⟩
                · have eg := gv_u (a := a) (b := b) (c := cc) (y := y) c4_117
                  rw [← show (gv Lt a b cc y).2 = (aRu y (nI a)).2 from by rw [eg]] at hC2
                  have hz : some (Value.int (nI 1)) = some (Value.int (nI (bp ((gv Lt a b cc y).1 = true)))) := by rw [bpT (show (gv Lt a b cc y).1 = true from by rw [eg]; exact ok_t c158)]
                  refine V_iconst 162 C dX0_giveCommandTo_161 rfl ic1 ?_
                  refine V_goto 166 C dX0_giveCommandTo_162 (by decide) ?_
                  refine V_ireturn C dX0_giveCommandTo_166 rfl (by decide) (by omega) (by omega) ?_
                  exact ⟨hz, rfl, hC2, hF2⟩
              · skip
                refine V_case 119 (fun c4_119 => ?_) (fun n4_119 => ?_)
                · refine V_tsI 167 C dX0_giveCommandTo_4 c4_119 (by decide) (by decide) (by decide) rfl (by decide) ?_
                  have har : ar Lt = 3 := by rw [c4_119]; rfl
                  rw [har] at ha
                  refine V_aload_n 168 C dX0_giveCommandTo_167 rfl rfl ?_
                  refine V_aload_n 169 C dX0_giveCommandTo_168 rfl rfl ?_
                  refine V_get (k := 1) 172 C dX0_giveCommandTo_169 rfl fcX0 tw213 (by decide) rfl hX rfl ?_
                  refine V_iconst 173 C dX0_giveCommandTo_172 rfl ic0 ?_
                  refine V_iald (j := 0) 174 C dX0_giveCommandTo_173 rfl hg rfl (by omega) (by omega) ?_
                  rw [ha.1 (by omega)]
                  refine V_aload_n 175 C dX0_giveCommandTo_174 rfl rfl ?_
                  refine V_get (k := 1) 178 C dX0_giveCommandTo_175 rfl fcX0 tw213 (by decide) rfl hX rfl ?_
                  refine V_iconst 179 C dX0_giveCommandTo_178 rfl ic1 ?_
                  refine V_iald (j := 1) 180 C dX0_giveCommandTo_179 rfl hg rfl (by omega) (by omega) ?_
                  rw [ha.2.1 (by omega)]
                  refine V_aload_n 181 C dX0_giveCommandTo_180 rfl rfl ?_
                  refine V_get (k := 1) 184 C dX0_giveCommandTo_181 rfl fcX0 tw213 (by decide) rfl hX rfl ?_
                  refine V_iconst 185 C dX0_giveCommandTo_184 rfl ic2 ?_
                  refine V_iald (j := 2) 186 C dX0_giveCommandTo_185 rfl hg rfl (by omega) (by omega) ?_
                  rw [ha.2.2 (by omega)]
                  refine V_callV 189 C dX0_giveCommandTo_186 rfl mX1_addMessage tw437 fcX1 hC.1 (c_X1_addMessage l G _ _ q y hC hI (nI a) (nI b) (nI cc)) rfl rfl (by decide) ⟨by omega, by omega⟩ (Nat.le_of_ble_eq_true rfl) ?_
                  rintro _ _ h2 ⟨rfl, rfl, hC2, hF2⟩
                  refine V_if_lt 196 192 C dX0_giveCommandTo_189 (by decide) rfl  (fun c189 => ?_) (fun c189 => ?_)
                  · have eg := gv_w (a := a) (b := b) (c := cc) (y := y) c4_119
                    rw [← show (gv Lt a b cc y).2 = (aWr y (nI a) (nI b) (nI cc)).2 from by rw [eg]] at hC2
                    have hz : some (Value.int (nI 0)) = some (Value.int (nI (bp ((gv Lt a b cc y).1 = true)))) := by rw [bpF (show (gv Lt a b cc y).1 = false from by rw [eg]; exact ok_f c189)]
                    refine V_iconst 197 C dX0_giveCommandTo_196 rfl ic0 ?_
                    refine V_ireturn C dX0_giveCommandTo_197 rfl (by decide) (by omega) (by omega) ?_
                    exact ⟨hz, rfl, hC2, hF2⟩
                  · have eg := gv_w (a := a) (b := b) (c := cc) (y := y) c4_119
                    rw [← show (gv Lt a b cc y).2 = (aWr y (nI a) (nI b) (nI cc)).2 from by rw [eg]] at hC2
                    have hz : some (Value.int (nI 1)) = some (Value.int (nI (bp ((gv Lt a b cc y).1 = true)))) := by rw [bpT (show (gv Lt a b cc y).1 = true from by rw [eg]; exact ok_t c189)]
                    refine V_iconst 193 C dX0_giveCommandTo_192 rfl ic1 ?_
                    refine V_goto 197 C dX0_giveCommandTo_193 (by decide) ?_
                    refine V_ireturn C dX0_giveCommandTo_197 rfl (by decide) (by omega) (by omega) ?_
                    exact ⟨hz, rfl, hC2, hF2⟩
                · skip
                  refine V_tsD 292 [99, 103, 107, 108, 114, 116, 117, 119] C dX0_giveCommandTo_4 (lo' := 99) rfl rfl (by omega) ⟨n4_99, n4_103, n4_107, n4_108, n4_114, n4_116, n4_117, n4_119, trivial⟩ (by decide) (by decide) ?_
                  have har : ar Lt = 1 := by rw [show Lt = 104 from by omega]; rfl
                  rw [har] at ha
                  refine V_aload_n 293 C dX0_giveCommandTo_292 rfl rfl ?_
                  refine V_aload_n 294 C dX0_giveCommandTo_293 rfl rfl ?_
                  refine V_get (k := 1) 297 C dX0_giveCommandTo_294 rfl fcX0 tw213 (by decide) rfl hX rfl ?_
                  refine V_iconst 298 C dX0_giveCommandTo_297 rfl ic0 ?_
                  refine V_iald (j := 0) 299 C dX0_giveCommandTo_298 rfl hg rfl (by omega) (by omega) ?_
                  rw [ha.1 (by omega)]
                  refine V_callV 302 C dX0_giveCommandTo_299 rfl mX1_passHours tw523 fcX1 hC.1 (c_X1_passHours l G _ _ q y hC hI (nI a)) rfl rfl (by decide) ⟨by omega, by omega⟩ (Nat.le_of_ble_eq_true rfl) ?_
                  rintro _ _ h2 ⟨rfl, rfl, hC2, hF2⟩
                  refine V_if_lt 309 305 C dX0_giveCommandTo_302 (by decide) rfl  (fun c302 => ?_) (fun c302 => ?_)
                  · have eg := gv_h (a := a) (b := b) (c := cc) (y := y) ⟨n4_99, n4_103, n4_107, n4_108, n4_114, n4_116, n4_117, n4_119⟩
                    rw [← show (gv Lt a b cc y).2 = (aHr y (nI a)).2 from by rw [eg]] at hC2
                    have hz : some (Value.int (nI 0)) = some (Value.int (nI (bp ((gv Lt a b cc y).1 = true)))) := by rw [bpF (show (gv Lt a b cc y).1 = false from by rw [eg]; exact ok_f c302)]
                    refine V_iconst 310 C dX0_giveCommandTo_309 rfl ic0 ?_
                    refine V_ireturn C dX0_giveCommandTo_310 rfl (by decide) (by omega) (by omega) ?_
                    exact ⟨hz, rfl, hC2, hF2⟩
                  · have eg := gv_h (a := a) (b := b) (c := cc) (y := y) ⟨n4_99, n4_103, n4_107, n4_108, n4_114, n4_116, n4_117, n4_119⟩
                    rw [← show (gv Lt a b cc y).2 = (aHr y (nI a)).2 from by rw [eg]] at hC2
                    have hz : some (Value.int (nI 1)) = some (Value.int (nI (bp ((gv Lt a b cc y).1 = true)))) := by rw [bpT (show (gv Lt a b cc y).1 = true from by rw [eg]; exact ok_t c302)]
                    refine V_iconst 306 C dX0_giveCommandTo_305 rfl ic1 ?_
                    refine V_goto 310 C dX0_giveCommandTo_306 (by decide) ?_
                    refine V_ireturn C dX0_giveCommandTo_310 rfl (by decide) (by omega) (by omega) ?_
                    exact ⟨hz, rfl, hC2, hF2⟩

