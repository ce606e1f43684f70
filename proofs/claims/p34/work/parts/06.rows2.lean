section VROWS2
variable {p : Program} {l : Launch} {e : Env} {R : Room} {s : State} {m : MethodId} {args : Array Value} {below : List Frame} {meth : Method} {c : Code} {Q : State → Prop} {G : GT} {nL cells slots n : Nat} {h : AH} {pc : Nat} {L L' : List (Nat × Value)} {st st' : List Value} {cc : ByteArray} {own : String} {ret : Option FieldType}
theorem V_mmax (pc' : Nat) (C : Cx p s m args meth c cc nL own ret G) {d0 mc ms ix : Nat} {x y : Int32} (d : decode cc pc = .ok (.invokestatic ix, 3)) (hp : pc + 3 = pc') (hl : Cond.methodLink own ix yJ9_max_7cf53 ∈ TB) (hd : 1 ≤ d0) (hm : cells ≤ mc ∧ slots ≤ ms) (hro : (st.map fun v => v.category).sum ≤ 8) (hT : Cond.static yJ9_max_7cf53 ∈ TB ∧ Cond.initialized RJ9 ∈ TB ∧ Cond.code yJ9_max_7cf53 cJ9_max_7cf53 2 (some .int) ∈ TB)
    (kk : V p l e (rmD d0 mc ms) s m args below meth c Q G nL cells slots n h pc' L (.int (if x < y then y else x) :: st)) : V p l e (rmD d0 mc ms) s m args below meth c Q G nL cells slots n h pc L (.int y :: .int x :: st) := fun H locs ls h1 h2 h3 h4 => by
  subst hp
  have hts := C.2.2.2.2.1
  exact va_mmax C.1 C.2.1 (C.2.2.1.trans h4.1.symm) C.2.2.2.1 (hts _ hl) (hts _ hT.1) (hts _ hT.2.1) (hts _ hT.2.2) hd (by show _ + 13 ≤ 36 * d0; omega) hm.1 hm.2 d (kk H locs ls h1 h2 h3 h4)
theorem V_callSN (pc' : Nat) (C : Cx p s m args meth c cc nL own ret G) {d0 mc ms ix mL na d' mc' ms' : Nat} {y : MethodName} {b : ByteArray} {rt : Option FieldType} {host : String} {As stk : List Value} {post : Option Value → Nat → AH → Prop} (d : decode cc pc = .ok (.invokestatic ix, 3)) (hp : pc + 3 = pc') (M : MS y b mL rt na) (hl : (own, ix, y, host) ∈ nstL) (K : Ct l y b mL rt d' mc' ms' G n h As post) (hn : As.length = na) (hst : stk = As.reverse ++ st) (hd : d' + 1 ≤ d0) (hm : cells + mc' ≤ mc ∧ slots + ms' ≤ ms) (hro : (st.map fun v => v.category).sum ≤ 8)
    (kk : ∀ (v : Option Value) (n' : Nat) (h' : AH), post v n' h' → V p l e (rmD d0 mc ms) s m args below meth c Q G nL (cells + mc') (slots + ms') n' h' pc' L (vcons v st)) : V p l e (rmD d0 mc ms) s m args below meth c Q G nL cells slots n h pc L stk := fun H locs ls h1 h2 h3 h4 => by
  subst hp; subst hst
  have hts := C.2.2.2.2.1
  obtain ⟨m1, m2, m3, m4, m5, -⟩ := M.1
  have hN := C.2.2.2.2.2.1.2.1 _ hl
  refine V_run (n2 := n) (h2' := h) (va_runSN ⟨C.1, C.2.1, C.2.2.1, C.2.2.2.1, hts⟩ K ⟨⟨⟨rfl, rfl, hd, ?_, tb_pay hts m1, List.mem_cons_self⟩, hts _ m1, hts _ m2, m3, fun sig hg => ?_, va_Nw.use rfl hN⟩, hts _ M.2, trivial⟩ (wd_pre C h1 h2 h3) rfl hn h4.1 rfl (lv_room hro) d hm) h3 h4 kk
  · show 8 + (mL + 11) + 36 * d' ≤ 36 * d0
    omega
  · rw [hg] at m4
    exact (Option.some.inj m4).symm
end VROWS2

