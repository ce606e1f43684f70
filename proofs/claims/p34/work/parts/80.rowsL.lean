/-! THE LAW'S BODY: rows of a room R of its own -/
section VLROWS
variable {p : Program} {l : Launch} {e : Env} {R : Room} {s : State} {m : MethodId} {args : Array Value} {below : List Frame} {meth : Method} {c : Code} {Q : State → Prop} {G : GT} {nL cells slots n : Nat} {h : AH} {pc : Nat} {L L' : List (Nat × Value)} {st st' : List Value} {cc : ByteArray} {own : String} {ret : Option FieldType}
theorem cb_ofR {args : Array Value} {s : State} {y : MethodName} {b : ByteArray} {mL na ix d' mc' ms' : Nat} {ret : Option FieldType} {own : String} (ht : ∀ w ∈ TB, w.before args s = true) (M : MB y b mL ret na) (hl : Cond.methodLink own ix y ∈ TB) (hd : d' + 1 ≤ R.frames ∧ 36 * (d' + 1) ≤ R.locals) : CallB R s args own ix y b mL ret (Cond.code y b mL ret :: TB) (rmD d' mc' ms') mc' ms' na := by
  obtain ⟨m1, m2, m3, m4, m5, -⟩ := M
  refine ⟨rfl, rfl, hd.1, ?_, tb_pay ht m1, List.mem_cons_self, ht _ m1, ht _ m2, m3, fun sig h => ?_, ht _ hl⟩
  · show 8 + (mL + 11) + 36 * d' ≤ R.locals
    omega
  · rw [h] at m4
    exact (Option.some.inj m4).symm
theorem V_callVR (pc' : Nat) (C : Cx p s m args meth c cc nL own ret G) {ix mL na d' mc' ms' ci N a : Nat} {y : MethodName} {b : ByteArray} {rt : Option FieldType} {As stk fs : List Value} {T : u_T} {ty : Nat → FieldType} {post : Option Value → Nat → AH → Prop} (d : decode cc pc = .ok (.invokevirtual ix, 3)) (hp : pc + 3 = pc') (M : MV y b mL rt na) (hl : Cond.methodLink own ix y ∈ TB) (F : FC ci y.cls T N ty) (hh : h a = some (.inr (ci, fs))) (K : Ct l y b mL rt d' mc' ms' G n h (.ref a :: As) post) (hn : As.length = na) (hst : stk = As.reverse ++ .ref a :: st) (hd : d' + 1 ≤ R.frames ∧ 36 * (d' + 1) ≤ R.locals) (hm : cells + mc' ≤ R.cells ∧ slots + ms' ≤ R.slots) (hro : (st.map fun v => v.category).sum ≤ 8)
    (kk : ∀ (v : Option Value) (n' : Nat) (h' : AH), post v n' h' → V p l e R s m args below meth c Q G nL (cells + mc') (slots + ms') n' h' pc' L (vcons v st)) : V p l e R s m args below meth c Q G nL cells slots n h pc L stk := fun H locs ls h1 h2 h3 h4 => by
  subst hp; subst hst
  have hts := C.2.2.2.2.1
  obtain ⟨z1, z2⟩ := wd_pre (As := .ref a :: As) C h1 h2 h3
  exact V_run (n2 := n) (h2' := h) (va_runV ⟨C.1, C.2.1, C.2.2.1, C.2.2.2.1, hts⟩ K ⟨cb_ofR hts M.1 hl hd, hts _ M.2.1, hts _ M.2.2⟩ ⟨z1, va_recv (q0 := 0) (fs := fs) C.2.2.2.2.2.1.1 (h2.one hh) F.1 rfl, z2⟩ rfl hn h4.1 rfl (lv_room hro) d hm) h3 h4 kk
theorem V_callIR (pc' : Nat) (C : Cx p s m args meth c cc nL own ret G) {ix mL na d' mc' ms' a : Nat} {y : MethodName} {b : ByteArray} {As stk : List Value} {post : Option Value → Nat → AH → Prop} (d : decode cc pc = .ok (.invokespecial ix, 3)) (hp : pc + 3 = pc') (hy : y.name = "<init>") (M : MI y b mL na) (hl : Cond.methodLink own ix y ∈ TB) (K : Ct l y b mL none d' mc' ms' G n h (.ref a :: As) post) (hn : As.length = na) (hst : stk = As.reverse ++ .ref a :: st) (hd : d' + 1 ≤ R.frames ∧ 36 * (d' + 1) ≤ R.locals) (hm : cells + mc' ≤ R.cells ∧ slots + ms' ≤ R.slots) (hro : (st.map fun v => v.category).sum ≤ 8)
    (kk : ∀ (v : Option Value) (n' : Nat) (h' : AH), post v n' h' → V p l e R s m args below meth c Q G nL (cells + mc') (slots + ms') n' h' pc' L (vcons v st)) : V p l e R s m args below meth c Q G nL cells slots n h pc L stk := fun H locs ls h1 h2 h3 h4 => by
  subst hp; subst hst
  have hts := C.2.2.2.2.1
  exact V_run (n2 := n) (h2' := h) (va_runI ⟨C.1, C.2.1, C.2.2.1, C.2.2.2.1, hts⟩ K ⟨cb_ofR hts M.1 hl hd, hy, hts _ M.2⟩ (wd_pre C h1 h2 h3) rfl hn h4.1 rfl (lv_room hro) d hm) h3 h4 kk
theorem tb_payW {args : Array Value} {s : State} {y : MethodName} {b : ByteArray} {mL : Nat} {ret : Option FieldType} {hh : List (Nat × Nat × Nat × Nat)} (ht : ∀ w ∈ TB, w.before args s = true) (hc : Cond.codeWith y b mL ret hh ∈ TB) : ∀ w ∈ Cond.codeWith y b mL ret hh :: TB, ∀ (a' : Array Value) (U : State), s.WarmedH U.vm → w.before a' U = true := by
  intro w hw a' U hW
  have hm : w ∈ TB := by
    rcases List.mem_cons.mp hw with h | h
    · rw [h]; exact hc
    · exact h
  exact word_at hW (tb_good hm) (ht w hm)
theorem V_callSWR (pc' : Nat) (C : Cx p s m args meth c cc nL own ret G) {ix mL na d' mc' ms' : Nat} {y : MethodName} {b : ByteArray} {rt : Option FieldType} {hh : List (Nat × Nat × Nat × Nat)} {As stk : List Value} {post : Option Value → Nat → AH → Prop} (d : decode cc pc = .ok (.invokestatic ix, 3)) (hp : pc + 3 = pc') (M : MW y b mL rt hh na) (hl : Cond.methodLink own ix y ∈ TB) (K : CW l y b mL rt hh d' mc' ms' G n h As post) (hn : As.length = na) (hst : stk = As.reverse ++ st) (hd : d' + 1 ≤ R.frames ∧ 36 * (d' + 1) ≤ R.locals) (hm : cells + mc' ≤ R.cells ∧ slots + ms' ≤ R.slots) (hro : (st.map fun v => v.category).sum ≤ 8)
    (kk : ∀ (v : Option Value) (n' : Nat) (h' : AH), post v n' h' → V p l e R s m args below meth c Q G nL (cells + mc') (slots + ms') n' h' pc' L (vcons v st)) : V p l e R s m args below meth c Q G nL cells slots n h pc L stk := fun H locs ls h1 h2 h3 h4 => by
  subst hp; subst hst
  have hts := C.2.2.2.2.1
  obtain ⟨m1, m2, m3, m4, m5, -, m7⟩ := M
  refine V_run (n2 := n) (h2' := h) (vx_runSW ⟨C.1, C.2.1, C.2.2.1, C.2.2.2.1, hts⟩ K ⟨⟨rfl, rfl, hd.1, ?_, tb_payW hts m1, List.mem_cons_self⟩, hts _ m1, hts _ m2, m3, fun sig h => ?_, hts _ hl, hts _ m7⟩ (wd_pre C h1 h2 h3) rfl hn h4.1 rfl (lv_room hro) d hm) h3 h4 kk
  · show 8 + (mL + 11) + 36 * d' ≤ R.locals
    omega
  · rw [h] at m4
    exact (Option.some.inj m4).symm
/-- the script, which lies outside of all that is known -/
theorem V_sld (pc' : Nat) (C : Cx p s m args meth c cc nL own ret G) {b LL : Nat} {xs : Nat → Int32} (hX : va_X b LL xs s s.heap) (hb : b < s.heap.size ∧ ¬ rg G b) {i : Int32} (j : Nat) (d : decode cc pc = .ok (.iaload, 1)) (hp : pc + 1 = pc') (hi : i = nI j) (hj : j < LL) (hL : LL < 2 ^ 31) (kk : V p l e R s m args below meth c Q G nL cells slots n h pc' L (.int (xs j) :: st)) : V p l e R s m args below meth c Q G nL cells slots n h pc L (.int i :: .ref b :: st) := fun H locs ls h1 h2 h3 h4 => by
  subst hp; subst hi
  obtain ⟨v1, v2⟩ := nI_vp hj hL
  exact va_sld C.1 C.2.1 hX hb.1 hb.2 h3 v1 d (by rw [v2]; exact kk H locs ls h1 h2 h3 h4)
theorem V_slen (pc' : Nat) (C : Cx p s m args meth c cc nL own ret G) {b LL : Nat} {xs : Nat → Int32} (hX : va_X b LL xs s s.heap) (hb : b < s.heap.size ∧ ¬ rg G b) (d : decode cc pc = .ok (.arraylength, 1)) (hp : pc + 1 = pc') (kk : V p l e R s m args below meth c Q G nL cells slots n h pc' L (.int (nI LL) :: st)) : V p l e R s m args below meth c Q G nL cells slots n h pc L (.ref b :: st) := fun H locs ls h1 h2 h3 h4 => by
  subst hp
  exact va_slen C.1 C.2.1 hX hb.1 hb.2 h3 d (kk H locs ls h1 h2 h3 h4)
end VLROWS

