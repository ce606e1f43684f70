/-! THE ACTIONS, as functions of the row: the answer (or why not) and the row behind it -/
def z (t : Int32) : Nat := t.toInt.toNat
theorem zn {j : Nat} (h : j < 2 ^ 31) : z (nI j) = j := by unfold z; rw [nI_toInt h]; rfl
def cN : Int32 := nI 4294967294
def cR : Int32 := nI 4294967293
def cW : Int32 := nI 4294967292
abbrev Ar : Type := Int32 × (Nat → Nat)
def aTw (y : Nat → Nat) : Ar := if y 0 < 6 then (nI (y 0), twOn y) else (cW, y)
def aRd (y : Nat → Nat) (a b w : Int32) : Ar := if ix a (y 0) ∧ ix b (y 0) then (if a = b ∨ ¬ (1 ≤ w.toInt ∧ w.toInt ≤ 20) then (cR, y) else if y 1 < 10 then (nI (y 1), rdOn y (z a) (z b) (z w)) else (cW, y)) else (cN, y)
def aRu (y : Nat → Nat) (t : Int32) : Ar := if ix t (y 0) then (if y 2 < 5 then (nI (y 2), ruOn y (z t)) else (cW, y)) else (cN, y)
def aWr (y : Nat → Nat) (t d f : Int32) : Ar := if ix t (y 0) then (if ix d 1000000 ∧ ix f 10 then (if y 3 < 6 ∧ y 4 < 12 then (nI (y 3), wrOn y (z t) (z d) (z f)) else (cW, y)) else (cR, y)) else (cN, y)
def canT (y : Nat → Nat) (r s : Nat) : Prop := ¬ tof y r = NO ∧ pof y s = tof y r ∧ ¬ y (58 + 6 * s + 4) = r ∧ car y r < 3
def canL (y : Nat → Nat) (s : Nat) : Prop := ¬ pof y s = NO ∧ ¬ y (58 + 6 * s + 4) = NO
def canG (y : Nat → Nat) (r w : Nat) : Prop := ¬ tof y r = NO ∧ (y (7 + 3 * w) = tof y r ∨ y (7 + 3 * w + 1) = tof y r)
theorem dT (y : Nat → Nat) (r s : Nat) : canT y r s ∨ ¬ canT y r s := Classical.em _
def aTk (y : Nat → Nat) (r s : Int32) : Ar := if ix r (y 2) ∧ ix s (y 4) then (if ¬ tof y (z r) = NO ∧ pof y (z s) = tof y (z r) ∧ ¬ y (58 + 6 * z s + 4) = z r ∧ car y (z r) < 3 then (nI (car y (z r) + 1), tkOn y (z r) (z s)) else (cW, y)) else (cN, y)
def aLy (y : Nat → Nat) (s : Int32) : Ar := if ix s (y 4) then (if ¬ pof y (z s) = NO ∧ ¬ y (58 + 6 * z s + 4) = NO then (nI (pof y (z s)), lyOn y (z s)) else (cW, y)) else (cN, y)
def aGo (y : Nat → Nat) (r w : Int32) : Ar := if ix r (y 2) ∧ ix w (y 1) then (if ¬ tof y (z r) = NO ∧ (y (7 + 3 * z w) = tof y (z r) ∨ y (7 + 3 * z w + 1) = tof y (z r)) then (nI (goT y (z r) (z w)), gOn y (z r) (z w)) else (cW, y)) else (cN, y)
/-- a copy, which counts nothing -/
def cpC (y : Nat → Nat) (s f : Nat) : Nat → Nat := if crs y s = 0 then shOn y (y (58 + 6 * s)) (rof y s) f (pof y s) else y
def prC (y : Nat → Nat) (a b c f : Nat) : Nat → Nat := if prs y a b c = 0 then shOn y (y (58 + 6 * a)) (mj (rof y a) (rof y b) (rof y c)) f (pof y a) else y
def aCp (y : Nat → Nat) (s f : Int32) : Ar := if ix s (y 4) then (if ix f 10 then (nI (crs y (z s)), cpC y (z s) (z f)) else (cR, y)) else (cN, y)
def aPr (y : Nat → Nat) (a b c f : Int32) : Ar := if ix a (y 4) ∧ ix b (y 4) ∧ ix c (y 4) then (if (¬ z a = z b ∧ ¬ z a = z c ∧ ¬ z b = z c ∧ y (58 + 6 * z a) = y (58 + 6 * z b) ∧ y (58 + 6 * z a) = y (58 + 6 * z c)) ∧ ix f 10 then (nI (prs y (z a) (z b) (z c)), prC y (z a) (z b) (z c) (z f)) else (cR, y)) else (cN, y)
def aHr (y : Nat → Nat) (k : Int32) : Ar := if 1 ≤ k.toInt ∧ k.toInt ≤ 60 then (nI (coms y (z k)), hrs y (z k)) else (cR, y)
/-- what an action of the class at q does -/
def AP (q n : Nat) (h : AH) (x : Ar) : Option Value → Nat → AH → Prop := fun v n' h' => v = some (.int x.1) ∧ n = n' ∧ cty q x.2 h' ∧ FR q h h'
theorem AP_mk {q n : Nat} {h h' : AH} {x : Ar} {r : Int32} {y' : Nat → Nat} (e : x = (r, y')) (hC : cty q y' h') (hF : FR q h h') : AP q n h x (some (.int r)) n h' := by rw [e]; exact ⟨rfl, rfl, hC, hF⟩
theorem cty_addRoad {q a b c : Nat} {y : Nat → Nat} {h : AH} (hC : cty q y h) (h1 : y 1 < 10) (h3 : y 3 ≤ 6) : cty q (rdOn y a b c) (up (up h (q + 2 + y 1) (c3 4 a b c)) q (obj q (rdOn y a b c))) := by
  have e1 : y3 y (7 + 3 * y 1) a b c 1 = y 1 := y3_n (by omega)
  refine cty_c1 (y := y3 y (7 + 3 * y 1) a b c) (cty_rdp hC h1 h3 (fun j hj => y3_n (by omega)) (y3_0 _ _ _ _ _) (y3_1 _ _ _ _ _) (y3_2 _ _ _ _ _)) ?_
  rw [e1, y3_0, y3_1, y3_2]
  exact up_s _ _ _
theorem cty_addRunner {q t : Nat} {y : Nat → Nat} {h : AH} (hC : cty q y h) (h2 : y 2 < 5) (h3 : y 3 ≤ 6) : cty q (ruOn y t) (up (up h (q + 13 + y 2) (c3 5 t 0 0)) q (obj q (ruOn y t))) := by
  have e1 : y3 y (37 + 3 * y 2) t 0 0 2 = y 2 := y3_n (by omega)
  refine cty_c2 (y := y3 y (37 + 3 * y 2) t 0 0) (cty_rup hC h2 h3 (fun j hj => y3_n (by omega)) (y3_0 _ _ _ _ _) (y3_1 _ _ _ _ _) (y3_2 _ _ _ _ _)) ?_
  rw [e1, y3_0, y3_1, y3_2]
  exact up_s _ _ _
theorem cty_addSheet {q m d f t : Nat} {y : Nat → Nat} {h : AH} (hC : cty q y h) (h1 : y 1 ≤ 10) (h2 : y 2 ≤ 5) (h3 : y 3 ≤ 6) (h4 : y 4 < 12) : cty q (shOn y m d f t) (up (up h (q + 20 + y 4) (c6 m d 99 f NO t)) q (obj q (shOn y m d f t))) := by
  have e1 : s6 y (58 + 6 * y 4) m d f t 4 = y 4 := s6_n (by omega)
  obtain ⟨g0, g1, g2, g3, g4, g5⟩ := s6_at y (58 + 6 * y 4) m d f t
  refine cty_c4 (y := s6 y (58 + 6 * y 4) m d f t) (cty_shp hC h4 h1 h2 h3 (fun j hj => s6_n (by omega)) g0 g1 g2 g3 g4 g5) ?_
  rw [e1, g0, g1, g2, g3, g4, g5]
  exact up_s _ _ _
theorem cty_addMsg {q d : Nat} {y : Nat → Nat} {h : AH} {f : Nat → Int32} (hC : cty q y h) (h1 : y 1 ≤ 10) (h2 : y 2 ≤ 5) (h3 : y 3 < 6) (h4 : y 4 ≤ 12) (hf : h (q + 18) = some (.inl (0, 6, .inl f))) : cty q (wrP y d) (up (up h (q + 18) (.inl (0, 6, .inl (upd f (y 3) (nI d))))) q (obj q (wrP y d))) := by
  have e3 : ys y (52 + y 3) d 3 = y 3 := ys_n _ (by omega)
  refine cty_c3 (y := ys y (52 + y 3) d) (f := upd f (y 3) (nI d)) ?_ (up_s _ _ _) (by rw [e3, pk_us, ys_s])
  obtain ⟨hob, ⟨fR, hfR, hR⟩, ⟨fU, hfU, hU⟩, ⟨fS, hfS, hS⟩, ⟨fM, hfM, hM⟩, hRd, hRu, hSh⟩ := hC
  rw [hf] at hfM
  cases hfM
  have eo : obj q (ys y (52 + y 3) d) = obj q y := by unfold obj; rw [ys_n _ (by omega), ys_n _ (by omega), ys_n _ (by omega), ys_n _ (by omega), ys_n _ (by omega), ys_n _ (by omega), ys_n _ (by omega)]
  refine ⟨by rw [up_n _ (by omega), eo]; exact hob, ⟨fR, by rw [up_n _ (by omega)]; exact hfR, hR⟩, ⟨fU, by rw [up_n _ (by omega)]; exact hfU, hU⟩, ⟨fS, by rw [up_n _ (by omega)]; exact hfS, hS⟩, ⟨_, up_s _ _ _, fun k hk => ?_⟩, fun k hk => ?_, fun k hk => ?_, fun k hk => ?_⟩
  · rw [e3] at hk
    rw [ys_n _ (by omega), pk_un (by omega)]
    exact hM k hk
  · obtain ⟨u, v, w, g, e⟩ := hRd k hk
    exact ⟨u, v, w, by rw [up_n _ (by omega)]; exact g, fun zz => by rw [ys_n _ (by omega)] at zz; rw [ys_n _ (by omega), ys_n _ (by omega), ys_n _ (by omega)]; exact e zz⟩
  · obtain ⟨u, v, w, g, e⟩ := hRu k hk
    exact ⟨u, v, w, by rw [up_n _ (by omega)]; exact g, fun zz => by rw [ys_n _ (by omega)] at zz; rw [ys_n _ (by omega), ys_n _ (by omega), ys_n _ (by omega)]; exact e zz⟩
  · obtain ⟨u, v, w, d1, e, g, g1, g2⟩ := hSh k hk
    exact ⟨u, v, w, d1, e, g, by rw [up_n _ (by omega)]; exact g1, fun zz => by rw [ys_n _ (by omega)] at zz; rw [ys_n _ (by omega), ys_n _ (by omega), ys_n _ (by omega), ys_n _ (by omega), ys_n _ (by omega), ys_n _ (by omega)]; exact g2 zz⟩
/-- the set of sheets that a runner carries; the set of runners in towns -/
def cbk (y : Nat → Nat) (r : Nat) : Nat → Nat
  | 0 => 0
  | k + 1 => cbk y r k + bp (y (58 + 6 * k + 4) = r) * 2 ^ k
def rtk (y : Nat → Nat) : Nat → Nat
  | 0 => 0
  | k + 1 => rtk y k + bp (y (37 + 3 * k + 1) = 0) * 2 ^ k
theorem cbk_lt (y : Nat → Nat) (r : Nat) : ∀ k, cbk y r k < 2 ^ k
  | 0 => by simp [cbk]
  | k + 1 => by
    have := cbk_lt y r k
    have := bp_le (P := y (58 + 6 * k + 4) = r)
    simp only [cbk, Nat.pow_succ]
    rcases (by omega : bp (y (58 + 6 * k + 4) = r) = 0 ∨ bp (y (58 + 6 * k + 4) = r) = 1) with e | e <;> rw [e] <;> omega
theorem rtk_lt (y : Nat → Nat) : ∀ k, rtk y k < 2 ^ k
  | 0 => by simp [rtk]
  | k + 1 => by
    have := rtk_lt y k
    have := bp_le (P := y (37 + 3 * k + 1) = 0)
    simp only [rtk, Nat.pow_succ]
    rcases (by omega : bp (y (37 + 3 * k + 1) = 0) = 0 ∨ bp (y (37 + 3 * k + 1) = 0) = 1) with e | e <;> rw [e] <;> omega
theorem shl1 {k : Nat} (h : k < 12) : nI 1 <<< (nI k &&& 31) = nI (2 ^ k) := by
  match k, h with
  | 0, _ => decide
  | 1, _ => decide
  | 2, _ => decide
  | 3, _ => decide
  | 4, _ => decide
  | 5, _ => decide
  | 6, _ => decide
  | 7, _ => decide
  | 8, _ => decide
  | 9, _ => decide
  | 10, _ => decide
  | 11, _ => decide
theorem orN {a b : Nat} (ha : a < 2 ^ 32) (hb : b < 2 ^ 32) : nI a ||| nI b = nI (a ||| b) := by
  apply Int32.toBitVec_inj.mp
  apply BitVec.eq_of_toNat_eq
  have h1 : (nI a ||| nI b).toBitVec = (nI a).toBitVec ||| (nI b).toBitVec := by first | rfl | exact Int32.toBitVec_or _ _
  rw [h1, BitVec.toNat_or, pk_tn ha, pk_tn hb, pk_tn (Nat.or_lt_two_pow ha hb)]
theorem orbit {x k : Nat} (hk : k < 12) (hx : x < 2 ^ k) : nI x ||| (nI 1 <<< (nI k &&& 31)) = nI (x + 2 ^ k) := by
  have hp : 2 ^ k ≤ 2 ^ 12 := Nat.pow_le_pow_right (by decide) (by omega)
  rw [shl1 hk, orN (by omega) (by omega)]
  have := Nat.two_pow_add_eq_or_of_lt hx 1
  rw [Nat.mul_one] at this
  rw [Nat.or_comm, ← this, Nat.add_comm]
/-- the best sheet of a message among the first k -/
def bestk (y : Nat → Nat) (m : Nat) : Nat → Nat
  | 0 => 4294967295
  | k + 1 => if y (58 + 6 * k) = m ∧ (bestk y m k = 4294967295 ∨ (ers y k 0 < ers y (bestk y m k) 0 ∨ (ers y k 0 = ers y (bestk y m k) 0 ∧ y (58 + 6 * bestk y m k + 2) < y (58 + 6 * k + 2)))) then k else bestk y m k
theorem bestk_b (y : Nat → Nat) (m : Nat) : ∀ k, bestk y m k = NO ∨ bestk y m k < k
  | 0 => Or.inl rfl
  | k + 1 => by
    have h := bestk_b y m k
    simp only [bestk]
    split
    · omega
    · omega
theorem obj_rd (q : Nat) (y : Nat → Nat) (a b c : Nat) : obj q (rdOn y a b c) = .inr (1, [.int (nI (y 0)), .int (nI (y 1 + 1)), .int (nI (y 2)), .int (nI (y 3)), .int (nI (y 4)), .int (nI (y 5)), .int (nI (y 6)), .ref (q + 1), .ref (q + 12), .ref (q + 18), .ref (q + 19)]) := by
  unfold obj rdOn
  rw [ys_s, ys_n _ (by omega), ys_n _ (by omega), ys_n _ (by omega), ys_n _ (by omega), ys_n _ (by omega), ys_n _ (by omega), y3_n (by omega), y3_n (by omega), y3_n (by omega), y3_n (by omega), y3_n (by omega), y3_n (by omega), y3_n (by omega)]
theorem obj_ru (q : Nat) (y : Nat → Nat) (t : Nat) : obj q (ruOn y t) = .inr (1, [.int (nI (y 0)), .int (nI (y 1)), .int (nI (y 2 + 1)), .int (nI (y 3)), .int (nI (y 4)), .int (nI (y 5)), .int (nI (y 6)), .ref (q + 1), .ref (q + 12), .ref (q + 18), .ref (q + 19)]) := by
  unfold obj ruOn
  rw [ys_s, ys_n _ (by omega), ys_n _ (by omega), ys_n _ (by omega), ys_n _ (by omega), ys_n _ (by omega), ys_n _ (by omega), y3_n (by omega), y3_n (by omega), y3_n (by omega), y3_n (by omega), y3_n (by omega), y3_n (by omega), y3_n (by omega)]
theorem obj_sh (q : Nat) (y : Nat → Nat) (m d f t : Nat) : obj q (shOn y m d f t) = .inr (1, [.int (nI (y 0)), .int (nI (y 1)), .int (nI (y 2)), .int (nI (y 3)), .int (nI (y 4 + 1)), .int (nI (y 5)), .int (nI (y 6)), .ref (q + 1), .ref (q + 12), .ref (q + 18), .ref (q + 19)]) := by
  unfold obj shOn
  rw [ys_s, ys_n _ (by omega), ys_n _ (by omega), ys_n _ (by omega), ys_n _ (by omega), ys_n _ (by omega), ys_n _ (by omega), s6_n (by omega), s6_n (by omega), s6_n (by omega), s6_n (by omega), s6_n (by omega), s6_n (by omega), s6_n (by omega)]
theorem obj_wr (q : Nat) (y : Nat → Nat) (d : Nat) : obj q (wrP y d) = .inr (1, [.int (nI (y 0)), .int (nI (y 1)), .int (nI (y 2)), .int (nI (y 3 + 1)), .int (nI (y 4)), .int (nI (y 5)), .int (nI (y 6)), .ref (q + 1), .ref (q + 12), .ref (q + 18), .ref (q + 19)]) := by
  unfold obj wrP
  rw [ys_s, ys_n _ (by omega), ys_n _ (by omega), ys_n _ (by omega), ys_n _ (by omega), ys_n _ (by omega), ys_n _ (by omega), ys_n _ (by omega), ys_n _ (by omega), ys_n _ (by omega), ys_n _ (by omega), ys_n _ (by omega), ys_n _ (by omega), ys_n _ (by omega)]
/-- how many of the lowest k bits are set -/
def popk : Nat → Nat → Nat
  | 0, _ => 0
  | k + 1, x => x % 2 + popk k (x / 2)
theorem popk_0 : ∀ k, popk k 0 = 0
  | 0 => rfl
  | k + 1 => by simp only [popk]; rw [show 0 / 2 = 0 from rfl, popk_0 k]
theorem popk_add : ∀ (k n x b : Nat), b ≤ 1 → x < 2 ^ k → k < n → popk n (x + b * 2 ^ k) = popk n x + b
  | 0, n + 1, x, b, hb, hx, hn => by
    have hx0 : x = 0 := by simp at hx; exact hx
    subst hx0
    simp only [popk]
    rw [show (0 + b * 2 ^ 0) / 2 = 0 from by rw [Nat.pow_zero]; omega, show (0 + b * 2 ^ 0) % 2 = b from by rw [Nat.pow_zero]; omega, show 0 / 2 = 0 from rfl, popk_0]
    omega
  | k + 1, n + 1, x, b, hb, hx, hn => by
    simp only [popk]
    have h2 : b * 2 ^ (k + 1) = 2 * (b * 2 ^ k) := by rw [Nat.pow_succ, ← Nat.mul_assoc, Nat.mul_comm]
    rw [h2, show (x + 2 * (b * 2 ^ k)) / 2 = x / 2 + b * 2 ^ k from by omega, show (x + 2 * (b * 2 ^ k)) % 2 = x % 2 from by omega, popk_add k n (x / 2) b hb (by rw [Nat.pow_succ] at hx; omega) (by omega)]
    omega
theorem popk_cbk (y : Nat → Nat) (r : Nat) : ∀ k, k ≤ 12 → popk 12 (cbk y r k) = cark y r k
  | 0, _ => popk_0 12
  | k + 1, h => by
    simp only [cbk, cark]
    rw [popk_add k 12 _ _ bp_le (cbk_lt y r k) (by omega), popk_cbk y r k (by omega)]
def bcI (x : Int32) : Int32 :=
  let x1 := x - ((x.toUInt32 >>> ((nI 1).toUInt32 &&& Int32.toUInt32 31)).toInt32 &&& 1431655765)
  let x2 := (x1 &&& 858993459) + ((x1.toUInt32 >>> ((nI 2).toUInt32 &&& Int32.toUInt32 31)).toInt32 &&& 858993459)
  let x3 := (x2 + (x2.toUInt32 >>> ((nI 4).toUInt32 &&& Int32.toUInt32 31)).toInt32) &&& 252645135
  let x4 := x3 + (x3.toUInt32 >>> ((nI 8).toUInt32 &&& Int32.toUInt32 31)).toInt32
  let x5 := x4 + (x4.toUInt32 >>> ((nI 16).toUInt32 &&& Int32.toUInt32 31)).toInt32
  x5 &&& nI 63
theorem bcI_all : (List.range 4096).all (fun x => decide (bcI (nI x) = nI (popk 12 x))) = true := by decide +kernel
theorem bcI_of {x : Nat} (h : x < 4096) : bcI (nI x) = nI (popk 12 x) := of_decide_eq_true (List.all_eq_true.mp bcI_all x (List.mem_range.mpr h))
/-- a country of which only some are right as yet -/
def ctyK (q : Nat) (y : Nat → Nat) (k1 k2 k3 k4 : Nat) (h : AH) : Prop :=
  h q = some (obj q y) ∧
  (∃ f : Nat → Option Nat, h (q + 1) = some (.inl (5, 10, .inr (.inr (.inr (.inr f))))) ∧ ∀ i, i < 10 → f i = some (q + 2 + i)) ∧
  (∃ f : Nat → Option Nat, h (q + 12) = some (.inl (6, 5, .inr (.inr (.inr (.inr f))))) ∧ ∀ i, i < 5 → f i = some (q + 13 + i)) ∧
  (∃ f : Nat → Option Nat, h (q + 19) = some (.inl (7, 12, .inr (.inr (.inr (.inr f))))) ∧ ∀ i, i < 12 → f i = some (q + 20 + i)) ∧
  (∃ f : Nat → Int32, h (q + 18) = some (.inl (0, 6, .inl f)) ∧ ∀ i, i < k3 → f i = nI (y (52 + i))) ∧
  (∀ i, i < 10 → ∃ a b c : Int32, h (q + 2 + i) = some (.inr (4, [.int a, .int b, .int c])) ∧ (i < k1 → a = nI (y (7 + 3 * i)) ∧ b = nI (y (7 + 3 * i + 1)) ∧ c = nI (y (7 + 3 * i + 2)))) ∧
  (∀ i, i < 5 → ∃ a b c : Int32, h (q + 13 + i) = some (.inr (5, [.int a, .int b, .int c])) ∧ (i < k2 → a = nI (y (37 + 3 * i)) ∧ b = nI (y (37 + 3 * i + 1)) ∧ c = nI (y (37 + 3 * i + 2)))) ∧
  (∀ i, i < 12 → ∃ a b c d e g : Int32, h (q + 20 + i) = some (.inr (6, [.int a, .int b, .int c, .int d, .int e, .int g])) ∧ (i < k4 → a = nI (y (58 + 6 * i)) ∧ b = nI (y (58 + 6 * i + 1)) ∧ c = nI (y (58 + 6 * i + 2)) ∧ d = nI (y (58 + 6 * i + 3)) ∧ e = nI (y (58 + 6 * i + 4)) ∧ g = nI (y (58 + 6 * i + 5))))
theorem ctyK_0 {q : Nat} {x y : Nat → Nat} {h : AH} (hC : cty q x h) : ctyK q y 0 0 0 0 (up h q (obj q y)) := by
  obtain ⟨hob, ⟨fR, hfR, hR⟩, ⟨fU, hfU, hU⟩, ⟨fS, hfS, hS⟩, ⟨fM, hfM, hM⟩, hRd, hRu, hSh⟩ := hC
  refine ⟨up_s _ _ _, ⟨fR, by rw [up_n _ (by omega)]; exact hfR, hR⟩, ⟨fU, by rw [up_n _ (by omega)]; exact hfU, hU⟩, ⟨fS, by rw [up_n _ (by omega)]; exact hfS, hS⟩, ⟨fM, by rw [up_n _ (by omega)]; exact hfM, fun i hi => absurd hi (by omega)⟩, fun i hi => ?_, fun i hi => ?_, fun i hi => ?_⟩
  · obtain ⟨a, b, c, g, e⟩ := hRd i hi
    exact ⟨a, b, c, by rw [up_n _ (by omega)]; exact g, fun z => absurd z (by omega)⟩
  · obtain ⟨a, b, c, g, e⟩ := hRu i hi
    exact ⟨a, b, c, by rw [up_n _ (by omega)]; exact g, fun z => absurd z (by omega)⟩
  · obtain ⟨a, b, c, d, e, g, g1, g2⟩ := hSh i hi
    exact ⟨a, b, c, d, e, g, by rw [up_n _ (by omega)]; exact g1, fun z => absurd z (by omega)⟩
theorem ctyK_1 {q k1 k2 k3 k4 : Nat} {y : Nat → Nat} {h : AH} (hC : ctyK q y k1 k2 k3 k4 h) (h1 : k1 < 10) : ctyK q y (k1 + 1) k2 k3 k4 (up h (q + 2 + k1) (c3 4 (y (7 + 3 * k1)) (y (7 + 3 * k1 + 1)) (y (7 + 3 * k1 + 2)))) := by
  obtain ⟨hob, ⟨fR, hfR, hR⟩, ⟨fU, hfU, hU⟩, ⟨fS, hfS, hS⟩, ⟨fM, hfM, hM⟩, hRd, hRu, hSh⟩ := hC
  refine ⟨by rw [up_n _ (by omega)]; exact hob, ⟨fR, by rw [up_n _ (by omega)]; exact hfR, hR⟩, ⟨fU, by rw [up_n _ (by omega)]; exact hfU, hU⟩, ⟨fS, by rw [up_n _ (by omega)]; exact hfS, hS⟩, ⟨fM, by rw [up_n _ (by omega)]; exact hfM, hM⟩, fun i hi => ?_, fun i hi => ?_, fun i hi => ?_⟩
  · by_cases e : i = k1
    · subst e
      exact ⟨_, _, _, up_s _ _ _, fun _ => ⟨rfl, rfl, rfl⟩⟩
    · obtain ⟨a, b, c, g, e2⟩ := hRd i hi
      exact ⟨a, b, c, by rw [up_n _ (by omega)]; exact g, fun z => e2 (by omega)⟩
  · obtain ⟨a, b, c, g, e⟩ := hRu i hi
    exact ⟨a, b, c, by rw [up_n _ (by omega)]; exact g, e⟩
  · obtain ⟨a, b, c, d, e, g, g1, g2⟩ := hSh i hi
    exact ⟨a, b, c, d, e, g, by rw [up_n _ (by omega)]; exact g1, g2⟩
theorem ctyK_2 {q k1 k2 k3 k4 : Nat} {y : Nat → Nat} {h : AH} (hC : ctyK q y k1 k2 k3 k4 h) (h1 : k2 < 5) : ctyK q y k1 (k2 + 1) k3 k4 (up h (q + 13 + k2) (c3 5 (y (37 + 3 * k2)) (y (37 + 3 * k2 + 1)) (y (37 + 3 * k2 + 2)))) := by
  obtain ⟨hob, ⟨fR, hfR, hR⟩, ⟨fU, hfU, hU⟩, ⟨fS, hfS, hS⟩, ⟨fM, hfM, hM⟩, hRd, hRu, hSh⟩ := hC
  refine ⟨by rw [up_n _ (by omega)]; exact hob, ⟨fR, by rw [up_n _ (by omega)]; exact hfR, hR⟩, ⟨fU, by rw [up_n _ (by omega)]; exact hfU, hU⟩, ⟨fS, by rw [up_n _ (by omega)]; exact hfS, hS⟩, ⟨fM, by rw [up_n _ (by omega)]; exact hfM, hM⟩, fun i hi => ?_, fun i hi => ?_, fun i hi => ?_⟩
  · obtain ⟨a, b, c, g, e⟩ := hRd i hi
    exact ⟨a, b, c, by rw [up_n _ (by omega)]; exact g, e⟩
  · by_cases e : i = k2
    · subst e
      exact ⟨_, _, _, up_s _ _ _, fun _ => ⟨rfl, rfl, rfl⟩⟩
    · obtain ⟨a, b, c, g, e2⟩ := hRu i hi
      exact ⟨a, b, c, by rw [up_n _ (by omega)]; exact g, fun z => e2 (by omega)⟩
  · obtain ⟨a, b, c, d, e, g, g1, g2⟩ := hSh i hi
    exact ⟨a, b, c, d, e, g, by rw [up_n _ (by omega)]; exact g1, g2⟩
theorem ctyK_3 {q k1 k2 k3 k4 : Nat} {y : Nat → Nat} {h : AH} {f : Nat → Int32} (hC : ctyK q y k1 k2 k3 k4 h) (hf : h (q + 18) = some (.inl (0, 6, .inl f))) : ctyK q y k1 k2 (k3 + 1) k4 (up h (q + 18) (.inl (0, 6, .inl (upd f k3 (nI (y (52 + k3))))))) := by
  obtain ⟨hob, ⟨fR, hfR, hR⟩, ⟨fU, hfU, hU⟩, ⟨fS, hfS, hS⟩, ⟨fM, hfM, hM⟩, hRd, hRu, hSh⟩ := hC
  rw [hf] at hfM
  cases hfM
  refine ⟨by rw [up_n _ (by omega)]; exact hob, ⟨fR, by rw [up_n _ (by omega)]; exact hfR, hR⟩, ⟨fU, by rw [up_n _ (by omega)]; exact hfU, hU⟩, ⟨fS, by rw [up_n _ (by omega)]; exact hfS, hS⟩, ⟨_, up_s _ _ _, fun i hi => ?_⟩, fun i hi => ?_, fun i hi => ?_, fun i hi => ?_⟩
  · by_cases e : i = k3
    · subst e; exact pk_us
    · rw [pk_un e]; exact hM i (by omega)
  · obtain ⟨a, b, c, g, e⟩ := hRd i hi
    exact ⟨a, b, c, by rw [up_n _ (by omega)]; exact g, e⟩
  · obtain ⟨a, b, c, g, e⟩ := hRu i hi
    exact ⟨a, b, c, by rw [up_n _ (by omega)]; exact g, e⟩
  · obtain ⟨a, b, c, d, e, g, g1, g2⟩ := hSh i hi
    exact ⟨a, b, c, d, e, g, by rw [up_n _ (by omega)]; exact g1, g2⟩
theorem ctyK_4 {q k1 k2 k3 k4 : Nat} {y : Nat → Nat} {h : AH} (hC : ctyK q y k1 k2 k3 k4 h) (h1 : k4 < 12) : ctyK q y k1 k2 k3 (k4 + 1) (up h (q + 20 + k4) (c6 (y (58 + 6 * k4)) (y (58 + 6 * k4 + 1)) (y (58 + 6 * k4 + 2)) (y (58 + 6 * k4 + 3)) (y (58 + 6 * k4 + 4)) (y (58 + 6 * k4 + 5)))) := by
  obtain ⟨hob, ⟨fR, hfR, hR⟩, ⟨fU, hfU, hU⟩, ⟨fS, hfS, hS⟩, ⟨fM, hfM, hM⟩, hRd, hRu, hSh⟩ := hC
  refine ⟨by rw [up_n _ (by omega)]; exact hob, ⟨fR, by rw [up_n _ (by omega)]; exact hfR, hR⟩, ⟨fU, by rw [up_n _ (by omega)]; exact hfU, hU⟩, ⟨fS, by rw [up_n _ (by omega)]; exact hfS, hS⟩, ⟨fM, by rw [up_n _ (by omega)]; exact hfM, hM⟩, fun i hi => ?_, fun i hi => ?_, fun i hi => ?_⟩
  · obtain ⟨a, b, c, g, e⟩ := hRd i hi
    exact ⟨a, b, c, by rw [up_n _ (by omega)]; exact g, e⟩
  · obtain ⟨a, b, c, g, e⟩ := hRu i hi
    exact ⟨a, b, c, by rw [up_n _ (by omega)]; exact g, e⟩
  · by_cases e : i = k4
    · subst e
      exact ⟨_, _, _, _, _, _, up_s _ _ _, fun _ => ⟨rfl, rfl, rfl, rfl, rfl, rfl⟩⟩
    · obtain ⟨a, b, c, d, e1, g, g1, g2⟩ := hSh i hi
      exact ⟨a, b, c, d, e1, g, by rw [up_n _ (by omega)]; exact g1, fun z => g2 (by omega)⟩
theorem ctyK_cty {q : Nat} {y : Nat → Nat} {h : AH} (hC : ctyK q y (y 1) (y 2) (y 3) (y 4) h) : cty q y h := hC

