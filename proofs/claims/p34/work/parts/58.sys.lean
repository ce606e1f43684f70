/-! THE TWO SYSTEMS -/
abbrev obC (x : Nat) : AE := .inr (7, [.ref (x + 1), .ref (x + 33), .ref (x + 65), .ref (x + 547), .ref (x + 550), .ref (x + 553), .ref (x + 618)])
/-- the class at x: its state y, the remembered ones D, the saved ones S, the text T -/
def SysC (x : Nat) (y : Nat → Nat) (k : Nat) (D S : Nat → Nat → Nat) (sv : Nat → Bool) (N : Nat) (T : Nat → Nat) (h : AH) : Prop :=
  h x = some (obC x) ∧ cty (x + 1) y h ∧ (∃ z, cty (x + 33) z h) ∧ (∃ fi, pst (x + 65) fi k D h) ∧ (∃ f g, pln (x + 547) f g h) ∧ (∃ a0 lt f g, tx0 (x + 550) T N a0 lt f g h) ∧
  (∃ f : Nat → Option Nat, h (x + 553) = some (.inl (4, 2, .inr (.inr (.inr (.inr f))))) ∧ ∀ i, i < 2 → f i = some (x + 554 + 32 * i)) ∧ (∀ i, i < 2 → ∃ z, cty (x + 554 + 32 * i) z h) ∧
  (∀ i, i < 2 → sv i = true → cty (x + 554 + 32 * i) (S i) h) ∧ ∃ g : Nat → Int32, h (x + 618) = some (.inl (1, 2, .inl g)) ∧ ∀ i, i < 2 → g i = nI (sv i).toNat
def FX (x : Nat) (h h' : AH) : Prop := ∀ a, (a < x ∨ x + 619 ≤ a) → h' a = h a
theorem FX.rf {x : Nat} {h : AH} : FX x h h := fun _ _ => rfl
theorem FX.tr {x : Nat} {h h1 h2 : AH} (a : FX x h h1) (b : FX x h1 h2) : FX x h h2 := fun q hq => (b q hq).trans (a q hq)
/-- what always holds -/
def SI (y : Nat → Nat) (k : Nat) (D S : Nat → Nat → Nat) (sv : Nat → Bool) (N : Nat) (T : Nat → Nat) : Prop := Iv y ∧ k ≤ 14 ∧ (∀ i, i < k → Iv (D i)) ∧ (∀ i, i < 2 → sv i = true → Iv (S i)) ∧ N ≤ 120 ∧ ∀ i, i < N → T i < 256
/-- what a public method of the class answers, and what it throws -/
def PoC (x : Nat) (h : AH) (kk : Nat) (ans : Int32) (y : Nat → Nat) (k : Nat) (D S : Nat → Nat → Nat) (sv : Nat → Bool) (N : Nat) (T : Nat → Nat) : Option Value → Nat → AH → Prop := fun v _ h' => kk = 0 ∧ v = some (.int ans) ∧ SysC x y k D S sv N T h' ∧ FX x h h'
def PxC (x : Nat) (h : AH) (kk : Nat) (Es : List String) (y : Nat → Nat) (k : Nat) (D S : Nat → Nat → Nat) (sv : Nat → Bool) (N : Nat) (T : Nat → Nat) : String → AH → Prop := fun E h' => kk ≠ 0 ∧ Es[kk - 1]? = some E ∧ SysC x y k D S sv N T h' ∧ FX x h h'
theorem PoC_mk {x kk n : Nat} {h h' : AH} {a ans : Int32} {y : Nat → Nat} {k : Nat} {D S : Nat → Nat → Nat} {sv : Nat → Bool} {N : Nat} {T : Nat → Nat} (e : kk = 0) (ea : a = ans) (hS : SysC x y k D S sv N T h') (hF : FX x h h') : PoC x h kk ans y k D S sv N T (some (.int a)) n h' := ⟨e, by rw [ea], hS, hF⟩
theorem PxC_mk {x kk : Nat} {h h' : AH} {Es : List String} {E : String} {y : Nat → Nat} {k : Nat} {D S : Nat → Nat → Nat} {sv : Nat → Bool} {N : Nat} {T : Nat → Nat} (j : Nat) (e : kk = j) (hj : j ≠ 0) (hE : Es[j - 1]? = some E) (hS : SysC x y k D S sv N T h') (hF : FX x h h') : PxC x h kk Es y k D S sv N T E h' := ⟨by rw [e]; exact hj, by rw [e]; exact hE, hS, hF⟩
theorem SysC.fr {x : Nat} {h h' : AH} {y : Nat → Nat} {k : Nat} {D S : Nat → Nat → Nat} {sv : Nat → Bool} {N : Nat} {T : Nat → Nat}  (hS : SysC x y k D S sv N T h) (hF : ∀ a, (x ≤ a ∧ a < x + 619) → h' a = h a) : SysC x y k D S sv N T h' := by
  obtain ⟨c0, c1, ⟨z2, c2⟩, ⟨fi, c3⟩, ⟨pf, pg, c4⟩, ⟨tp, tlt, tf, tg, c5⟩, ⟨f6, c6, d6⟩, c7, c8, ⟨g9, c9, d9⟩⟩ := id hS
  exact ⟨by rw [hF _ (by omega)]; exact c0, c1.fr (fun a _ _ => hF a (by omega)), ⟨z2, c2.fr (fun a _ _ => hF a (by omega))⟩, ⟨fi, c3.fr (fun a _ _ => hF a (by omega))⟩, ⟨pf, pg, pln_fr c4 (fun a _ _ => hF a (by omega))⟩, ⟨tp, tlt, tf, tg, tx0_fr c5 (fun a _ _ => hF a (by omega))⟩, ⟨f6, by rw [hF _ (by omega)]; exact c6, d6⟩, fun i hi => by obtain ⟨z, hz⟩ := c7 i hi; exact ⟨z, hz.fr (fun a _ _ => hF a (by omega))⟩, fun i hi hs => (c8 i hi hs).fr (fun a _ _ => hF a (by omega)), ⟨g9, by rw [hF _ (by omega)]; exact c9, d9⟩⟩
theorem SysC.now {x : Nat} {h h' : AH} {y : Nat → Nat} {k : Nat} {D S : Nat → Nat → Nat} {sv : Nat → Bool} {N : Nat} {T : Nat → Nat} {y' : Nat → Nat} (hS : SysC x y k D S sv N T h) (hC : cty (x + 1) y' h') (hF : FR (x + 1) h h') : SysC x y' k D S sv N T h' := by
  obtain ⟨c0, c1, ⟨z2, c2⟩, ⟨fi, c3⟩, ⟨pf, pg, c4⟩, ⟨tp, tlt, tf, tg, c5⟩, ⟨f6, c6, d6⟩, c7, c8, ⟨g9, c9, d9⟩⟩ := id hS
  exact ⟨by rw [hF _ (by omega)]; exact c0, hC, ⟨z2, c2.fr (fun a _ _ => hF a (by omega))⟩, ⟨fi, c3.fr (fun a _ _ => hF a (by omega))⟩, ⟨pf, pg, pln_fr c4 (fun a _ _ => hF a (by omega))⟩, ⟨tp, tlt, tf, tg, tx0_fr c5 (fun a _ _ => hF a (by omega))⟩, ⟨f6, by rw [hF _ (by omega)]; exact c6, d6⟩, fun i hi => by obtain ⟨z, hz⟩ := c7 i hi; exact ⟨z, hz.fr (fun a _ _ => hF a (by omega))⟩, fun i hi hs => (c8 i hi hs).fr (fun a _ _ => hF a (by omega)), ⟨g9, by rw [hF _ (by omega)]; exact c9, d9⟩⟩
theorem SysC.tri {x : Nat} {h h' : AH} {y : Nat → Nat} {k : Nat} {D S : Nat → Nat → Nat} {sv : Nat → Bool} {N : Nat} {T : Nat → Nat} {z' : Nat → Nat} (hS : SysC x y k D S sv N T h) (hC : cty (x + 33) z' h') (hF : FR (x + 33) h h') : SysC x y k D S sv N T h' := by
  obtain ⟨c0, c1, ⟨z2, c2⟩, ⟨fi, c3⟩, ⟨pf, pg, c4⟩, ⟨tp, tlt, tf, tg, c5⟩, ⟨f6, c6, d6⟩, c7, c8, ⟨g9, c9, d9⟩⟩ := id hS
  exact ⟨by rw [hF _ (by omega)]; exact c0, c1.fr (fun a _ _ => hF a (by omega)), ⟨z', hC⟩, ⟨fi, c3.fr (fun a _ _ => hF a (by omega))⟩, ⟨pf, pg, pln_fr c4 (fun a _ _ => hF a (by omega))⟩, ⟨tp, tlt, tf, tg, tx0_fr c5 (fun a _ _ => hF a (by omega))⟩, ⟨f6, by rw [hF _ (by omega)]; exact c6, d6⟩, fun i hi => by obtain ⟨z, hz⟩ := c7 i hi; exact ⟨z, hz.fr (fun a _ _ => hF a (by omega))⟩, fun i hi hs => (c8 i hi hs).fr (fun a _ _ => hF a (by omega)), ⟨g9, by rw [hF _ (by omega)]; exact c9, d9⟩⟩
theorem SysC.trp {x : Nat} {h h' : AH} {y : Nat → Nat} {k : Nat} {D S : Nat → Nat → Nat} {sv : Nat → Bool} {N : Nat} {T : Nat → Nat} {z' : Nat → Nat} {f' g' : Nat → Int32} (hS : SysC x y k D S sv N T h) (hC : cty (x + 33) z' h') (hP : pln (x + 547) f' g' h') (hF : ∀ a, ((a < x + 33 ∨ x + 33 + 32 ≤ a) ∧ (a < x + 547 ∨ x + 547 + 3 ≤ a)) → h' a = h a) : SysC x y k D S sv N T h' := by
  obtain ⟨c0, c1, ⟨z2, c2⟩, ⟨fi, c3⟩, ⟨pf, pg, c4⟩, ⟨tp, tlt, tf, tg, c5⟩, ⟨f6, c6, d6⟩, c7, c8, ⟨g9, c9, d9⟩⟩ := id hS
  exact ⟨by rw [hF _ (by omega)]; exact c0, c1.fr (fun a _ _ => hF a (by omega)), ⟨z', hC⟩, ⟨fi, c3.fr (fun a _ _ => hF a (by omega))⟩, ⟨f', g', hP⟩, ⟨tp, tlt, tf, tg, tx0_fr c5 (fun a _ _ => hF a (by omega))⟩, ⟨f6, by rw [hF _ (by omega)]; exact c6, d6⟩, fun i hi => by obtain ⟨z, hz⟩ := c7 i hi; exact ⟨z, hz.fr (fun a _ _ => hF a (by omega))⟩, fun i hi hs => (c8 i hi hs).fr (fun a _ _ => hF a (by omega)), ⟨g9, by rw [hF _ (by omega)]; exact c9, d9⟩⟩
theorem SysC.past {x : Nat} {h h' : AH} {y : Nat → Nat} {k : Nat} {D S : Nat → Nat → Nat} {sv : Nat → Bool} {N : Nat} {T : Nat → Nat} {fi' k' : Nat} {D' : Nat → Nat → Nat} (hS : SysC x y k D S sv N T h) (hP : pst (x + 65) fi' k' D' h') (hF : FP (x + 65) h h') : SysC x y k' D' S sv N T h' := by
  obtain ⟨c0, c1, ⟨z2, c2⟩, ⟨fi, c3⟩, ⟨pf, pg, c4⟩, ⟨tp, tlt, tf, tg, c5⟩, ⟨f6, c6, d6⟩, c7, c8, ⟨g9, c9, d9⟩⟩ := id hS
  exact ⟨by rw [hF _ (by omega)]; exact c0, c1.fr (fun a _ _ => hF a (by omega)), ⟨z2, c2.fr (fun a _ _ => hF a (by omega))⟩, ⟨fi', hP⟩, ⟨pf, pg, pln_fr c4 (fun a _ _ => hF a (by omega))⟩, ⟨tp, tlt, tf, tg, tx0_fr c5 (fun a _ _ => hF a (by omega))⟩, ⟨f6, by rw [hF _ (by omega)]; exact c6, d6⟩, fun i hi => by obtain ⟨z, hz⟩ := c7 i hi; exact ⟨z, hz.fr (fun a _ _ => hF a (by omega))⟩, fun i hi hs => (c8 i hi hs).fr (fun a _ _ => hF a (by omega)), ⟨g9, by rw [hF _ (by omega)]; exact c9, d9⟩⟩
theorem SysC.pnow {x : Nat} {h h' : AH} {y : Nat → Nat} {k : Nat} {D S : Nat → Nat → Nat} {sv : Nat → Bool} {N : Nat} {T : Nat → Nat} {fi' k' : Nat} {D' : Nat → Nat → Nat} {y' : Nat → Nat} (hS : SysC x y k D S sv N T h) (hC : cty (x + 1) y' h') (hP : pst (x + 65) fi' k' D' h') (hF : ∀ a, ((a < x + 1 ∨ x + 33 ≤ a) ∧ (a < x + 65 ∨ x + 65 + 482 ≤ a)) → h' a = h a) : SysC x y' k' D' S sv N T h' := by
  obtain ⟨c0, c1, ⟨z2, c2⟩, ⟨fi, c3⟩, ⟨pf, pg, c4⟩, ⟨tp, tlt, tf, tg, c5⟩, ⟨f6, c6, d6⟩, c7, c8, ⟨g9, c9, d9⟩⟩ := id hS
  exact ⟨by rw [hF _ (by omega)]; exact c0, hC, ⟨z2, c2.fr (fun a _ _ => hF a (by omega))⟩, ⟨fi', hP⟩, ⟨pf, pg, pln_fr c4 (fun a _ _ => hF a (by omega))⟩, ⟨tp, tlt, tf, tg, tx0_fr c5 (fun a _ _ => hF a (by omega))⟩, ⟨f6, by rw [hF _ (by omega)]; exact c6, d6⟩, fun i hi => by obtain ⟨z, hz⟩ := c7 i hi; exact ⟨z, hz.fr (fun a _ _ => hF a (by omega))⟩, fun i hi hs => (c8 i hi hs).fr (fun a _ _ => hF a (by omega)), ⟨g9, by rw [hF _ (by omega)]; exact c9, d9⟩⟩
theorem SysC.pln {x : Nat} {h h' : AH} {y : Nat → Nat} {k : Nat} {D S : Nat → Nat → Nat} {sv : Nat → Bool} {N : Nat} {T : Nat → Nat} {f' g' : Nat → Int32} (hS : SysC x y k D S sv N T h) (hP : pln (x + 547) f' g' h') (hF : ∀ a, (a < x + 547 ∨ x + 547 + 3 ≤ a) → h' a = h a) : SysC x y k D S sv N T h' := by
  obtain ⟨c0, c1, ⟨z2, c2⟩, ⟨fi, c3⟩, ⟨pf, pg, c4⟩, ⟨tp, tlt, tf, tg, c5⟩, ⟨f6, c6, d6⟩, c7, c8, ⟨g9, c9, d9⟩⟩ := id hS
  exact ⟨by rw [hF _ (by omega)]; exact c0, c1.fr (fun a _ _ => hF a (by omega)), ⟨z2, c2.fr (fun a _ _ => hF a (by omega))⟩, ⟨fi, c3.fr (fun a _ _ => hF a (by omega))⟩, ⟨f', g', hP⟩, ⟨tp, tlt, tf, tg, tx0_fr c5 (fun a _ _ => hF a (by omega))⟩, ⟨f6, by rw [hF _ (by omega)]; exact c6, d6⟩, fun i hi => by obtain ⟨z, hz⟩ := c7 i hi; exact ⟨z, hz.fr (fun a _ _ => hF a (by omega))⟩, fun i hi hs => (c8 i hi hs).fr (fun a _ _ => hF a (by omega)), ⟨g9, by rw [hF _ (by omega)]; exact c9, d9⟩⟩
theorem SysC.txt {x : Nat} {h h' : AH} {y : Nat → Nat} {k : Nat} {D S : Nat → Nat → Nat} {sv : Nat → Bool} {N : Nat} {T : Nat → Nat} {N' : Nat} {T' : Nat → Nat} {a' lt' : Int32} {f' g' : Nat → Int32} (hS : SysC x y k D S sv N T h) (hT : tx0 (x + 550) T' N' a' lt' f' g' h') (hF : ∀ a, (a < x + 550 ∨ x + 550 + 3 ≤ a) → h' a = h a) : SysC x y k D S sv N' T' h' := by
  obtain ⟨c0, c1, ⟨z2, c2⟩, ⟨fi, c3⟩, ⟨pf, pg, c4⟩, ⟨tp, tlt, tf, tg, c5⟩, ⟨f6, c6, d6⟩, c7, c8, ⟨g9, c9, d9⟩⟩ := id hS
  exact ⟨by rw [hF _ (by omega)]; exact c0, c1.fr (fun a _ _ => hF a (by omega)), ⟨z2, c2.fr (fun a _ _ => hF a (by omega))⟩, ⟨fi, c3.fr (fun a _ _ => hF a (by omega))⟩, ⟨pf, pg, pln_fr c4 (fun a _ _ => hF a (by omega))⟩, ⟨a', lt', f', g', hT⟩, ⟨f6, by rw [hF _ (by omega)]; exact c6, d6⟩, fun i hi => by obtain ⟨z, hz⟩ := c7 i hi; exact ⟨z, hz.fr (fun a _ _ => hF a (by omega))⟩, fun i hi hs => (c8 i hi hs).fr (fun a _ _ => hF a (by omega)), ⟨g9, by rw [hF _ (by omega)]; exact c9, d9⟩⟩
theorem SysC.flg {x : Nat} {h h' : AH} {y : Nat → Nat} {k : Nat} {D S : Nat → Nat → Nat} {sv : Nat → Bool} {N : Nat} {T : Nat → Nat} {sv' : Nat → Bool} {g' : Nat → Int32} (hS : SysC x y k D S sv N T h) (hG : h' (x + 618) = some (.inl (1, 2, .inl g'))) (hg : ∀ i, i < 2 → g' i = nI (sv' i).toNat) (hsv : ∀ i, i < 2 → sv' i = true → sv i = true) (hF : ∀ a, ¬ a = x + 618 → h' a = h a) : SysC x y k D S sv' N T h' := by
  obtain ⟨c0, c1, ⟨z2, c2⟩, ⟨fi, c3⟩, ⟨pf, pg, c4⟩, ⟨tp, tlt, tf, tg, c5⟩, ⟨f6, c6, d6⟩, c7, c8, ⟨g9, c9, d9⟩⟩ := id hS
  exact ⟨by rw [hF _ (by omega)]; exact c0, c1.fr (fun a _ _ => hF a (by omega)), ⟨z2, c2.fr (fun a _ _ => hF a (by omega))⟩, ⟨fi, c3.fr (fun a _ _ => hF a (by omega))⟩, ⟨pf, pg, pln_fr c4 (fun a _ _ => hF a (by omega))⟩, ⟨tp, tlt, tf, tg, tx0_fr c5 (fun a _ _ => hF a (by omega))⟩, ⟨f6, by rw [hF _ (by omega)]; exact c6, d6⟩, fun i hi => by obtain ⟨z, hz⟩ := c7 i hi; exact ⟨z, hz.fr (fun a _ _ => hF a (by omega))⟩, fun i hi hs => (c8 i hi (hsv i hi hs)).fr (fun a _ _ => hF a (by omega)), ⟨g', hG, hg⟩⟩
theorem SysC.tnow {x : Nat} {h h' : AH} {y : Nat → Nat} {k : Nat} {D S : Nat → Nat → Nat} {sv : Nat → Bool} {N : Nat} {T : Nat → Nat} {a' lt' : Int32} {f' g' : Nat → Int32} {y' : Nat → Nat} (hS : SysC x y k D S sv N T h) (hC : cty (x + 1) y' h') (hT : tx0 (x + 550) T N a' lt' f' g' h') (hF : ∀ a, ((a < x + 1 ∨ x + 33 ≤ a) ∧ (a < x + 550 ∨ x + 550 + 3 ≤ a)) → h' a = h a) : SysC x y' k D S sv N T h' := by
  obtain ⟨c0, c1, ⟨z2, c2⟩, ⟨fi, c3⟩, ⟨pf, pg, c4⟩, ⟨tp, tlt, tf, tg, c5⟩, ⟨f6, c6, d6⟩, c7, c8, ⟨g9, c9, d9⟩⟩ := id hS
  exact ⟨by rw [hF _ (by omega)]; exact c0, hC, ⟨z2, c2.fr (fun a _ _ => hF a (by omega))⟩, ⟨fi, c3.fr (fun a _ _ => hF a (by omega))⟩, ⟨pf, pg, pln_fr c4 (fun a _ _ => hF a (by omega))⟩, ⟨a', lt', f', g', hT⟩, ⟨f6, by rw [hF _ (by omega)]; exact c6, d6⟩, fun i hi => by obtain ⟨z, hz⟩ := c7 i hi; exact ⟨z, hz.fr (fun a _ _ => hF a (by omega))⟩, fun i hi hs => (c8 i hi hs).fr (fun a _ _ => hF a (by omega)), ⟨g9, by rw [hF _ (by omega)]; exact c9, d9⟩⟩
theorem SysC.sav {x : Nat} {h h' : AH} {y : Nat → Nat} {k : Nat} {D S : Nat → Nat → Nat} {sv : Nat → Bool} {N : Nat} {T : Nat → Nat} {j : Nat} {y0 : Nat → Nat} {g' : Nat → Int32} (hS : SysC x y k D S sv N T h) (hj : j < 2) (hC : cty (x + 554 + 32 * j) y0 h') (hG : h' (x + 618) = some (.inl (1, 2, .inl g'))) (hg : ∀ i, i < 2 → g' i = nI (if i = j then true else sv i).toNat) (hF : ∀ a, ((a < x + 554 + 32 * j ∨ x + 554 + 32 * j + 32 ≤ a) ∧ ¬ a = x + 618) → h' a = h a) : SysC x y k D (fun i => if i = j then y0 else S i) (fun i => if i = j then true else sv i) N T h' := by
  obtain ⟨c0, c1, ⟨z2, c2⟩, ⟨fi, c3⟩, ⟨pf, pg, c4⟩, ⟨tp, tlt, tf, tg, c5⟩, ⟨f6, c6, d6⟩, c7, c8, ⟨g9, c9, d9⟩⟩ := id hS
  exact ⟨by rw [hF _ (by omega)]; exact c0, c1.fr (fun a _ _ => hF a (by omega)), ⟨z2, c2.fr (fun a _ _ => hF a (by omega))⟩, ⟨fi, c3.fr (fun a _ _ => hF a (by omega))⟩, ⟨pf, pg, pln_fr c4 (fun a _ _ => hF a (by omega))⟩, ⟨tp, tlt, tf, tg, tx0_fr c5 (fun a _ _ => hF a (by omega))⟩, ⟨f6, by rw [hF _ (by omega)]; exact c6, d6⟩, fun i hi => by
    by_cases e : i = j
    · subst e; exact ⟨y0, hC⟩
    · obtain ⟨z, hz⟩ := c7 i hi
      exact ⟨z, hz.fr (fun a _ _ => hF a (by omega))⟩, fun i hi hs => by
    by_cases e : i = j
    · subst e
      show cty _ (if i = i then y0 else S i) _
      rw [if_pos rfl]; exact hC
    · have hs2 : sv i = true := (if_neg e).symm.trans hs
      show cty _ (if i = j then y0 else S i) _
      rw [if_neg e]; exact (c8 i hi hs2).fr (fun a _ _ => hF a (by omega)), ⟨g', hG, hg⟩⟩
theorem dst_bd {y : Nat → Nat} (hI : Iv y) {a : Nat} : ∀ k t, t < 6 → rkk (dst y a) t 6 ≤ k → dst y a t = FAR ∨ dst y a t ≤ 20 * k
  | 0, t, ht, hk => by
    by_cases e : t = a
    · rw [e, (Sol_dst y a).z]; exact Or.inr (Nat.le_refl _)
    · by_cases eF : dst y a t = FAR
      · exact Or.inl eF
      · have hl := dst_le y a t
        obtain ⟨i, d, hi, e1, e2⟩ := (Sol_dst y a).ti t e (by omega)
        have hw := (Rds_Iv hI).w i hi
        have h6 := (Rds_Iv hI).a i d hi
        have := rkk_lt (D := dst y a) (p := rda y i d) (t := t) (by omega) 6 h6
        omega
  | k + 1, t, ht, hk => by
    by_cases e : t = a
    · rw [e, (Sol_dst y a).z]; exact Or.inr (Nat.zero_le _)
    · by_cases eF : dst y a t = FAR
      · exact Or.inl eF
      · have hl := dst_le y a t
        obtain ⟨i, d, hi, e1, e2⟩ := (Sol_dst y a).ti t e (by omega)
        have hw := (Rds_Iv hI).w i hi
        have h6 := (Rds_Iv hI).a i d hi
        have h1 := rkk_lt (D := dst y a) (p := rda y i d) (t := t) (by omega) 6 h6
        rcases dst_bd (a := a) hI k (rda y i d) h6 (by omega) with g | g
        · omega
        · exact Or.inr (by omega)
theorem dst_100 {y : Nat → Nat} (hI : Iv y) {a t : Nat} (ht : t < 6) : dst y a t = FAR ∨ dst y a t ≤ 100 := by
  have h := rkk_max (dst y a) t 6 ht
  exact dst_bd hI 5 t ht (by omega)

