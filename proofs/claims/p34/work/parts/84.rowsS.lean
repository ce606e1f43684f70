/-! THE LAW'S OWN METHODS: the state in one piece, rows of calls -/
abbrev St : Type := (Nat → Nat) × Nat × (Nat → Nat → Nat) × (Nat → Nat → Nat) × (Nat → Bool)
def SC (x : Nat) (σ : St) (h : AH) : Prop := SysC x σ.1 σ.2.1 σ.2.2.1 σ.2.2.2.1 σ.2.2.2.2 0 (fun _ => 0) h
def SIs (σ : St) : Prop := SI σ.1 σ.2.1 σ.2.2.1 σ.2.2.2.1 σ.2.2.2.2 0 (fun _ => 0)
/-- what a method over one country answers and leaves -/
def PoS (x : Nat) (h : AH) (v : Int32) (σ : St) : Option Value → Nat → AH → Prop := fun r _ h' => r = some (.int v) ∧ SC x σ h' ∧ FX x h h'
/-- what a method over two leaves -/
def PoT (x q : Nat) (v : Int32) (σ τ : St) : Option Value → Nat → AH → Prop := fun r _ h' => r = some (.int v) ∧ SC x σ h' ∧ SC q τ h'
def apt (x q : Nat) : Prop := x + 619 ≤ q ∨ q + 619 ≤ x
theorem apt.sy {x q : Nat} (h : apt x q) : apt q x := h.elim Or.inr Or.inl
theorem SC.fx {x q : Nat} {τ : St} {h h' : AH} (hQ : SC q τ h) (hF : FX x h h') (hd : apt x q) : SC q τ h' := SysC.fr hQ (fun a ha => hF a (by unfold apt at hd; omega))
/-- what the tables say of a static method, of any number of locals -/
def MZ (y : MethodName) (b : ByteArray) (mL : Nat) (ret : Option FieldType) (na : Nat) : Prop := (Cond.code y b mL ret ∈ TB ∧ Cond.initialized y.cls ∈ TB ∧ (y.cls ≠ "java/lang/invoke/MethodHandle" ∧ y.cls ≠ "java/lang/invoke/VarHandle") ∧ (parseMethodDescriptor y.desc).map (fun d => d.parameters.length) = some na ∧ plainName y.cls = true) ∧ Cond.static y ∈ TB
theorem MS.z {y : MethodName} {b : ByteArray} {mL na : Nat} {ret : Option FieldType} (M : MS y b mL ret na) : MZ y b mL ret na := ⟨⟨M.1.1, M.1.2.1, M.1.2.2.1, M.1.2.2.2.1, M.1.2.2.2.2.2⟩, M.2⟩
theorem Ct_ofZ {l : Launch} {y : MethodName} {b : ByteArray} {mL na : Nat} {ret : Option FieldType} (M : MZ y b mL ret na) {d mc ms : Nat} {G : GT} {n : Nat} {h : AH} {av : List Value} {post : Option Value → Nat → AH → Prop} (hfit : (lg_sl av).length ≤ mL)
    (body : ∀ (p : Program) (e : Env) (s : State) (m : MethodId) (args : Array Value) (below : List Frame) (meth : Method) (c : Code), Cx p s m args meth c b mL y.cls ret G → V p l e (rmD d mc ms) s m args below meth c (MQ below (Po G post) args s mc ms (rg G)) G mL 0 0 n h 0 (lv_args 0 av) []) : Ct l y b mL ret d mc ms G n h av post := by
  refine Met.ofW (cc := b) (maxL := mL) (ret := ret) M.1.2.2.2.2 rfl ?_
  intro p e s m args below meth c s₁ B hml hv
  obtain ⟨rfl, hz, hR, hK, hZ, hb⟩ := hv
  have hts := atoms_spec (ws := Cond.code y b mL ret :: TB) B.pre
  have hl := lv_entry av (n := mL) hfit
  rw [lg_entry_eq]
  exact body p e s m av.toArray below meth c ⟨B.exec, B.bytes, hml, findClass_of_methodNamed B.named, fun w hw => hts w (List.mem_cons_of_mem _ hw), hK, B.returns, B.notSynchronized, hZ, hb⟩ s.heap [] _ hz hR va_S.rf hl
section VSROWS
variable {p : Program} {l : Launch} {e : Env} {R : Room} {s : State} {m : MethodId} {args : Array Value} {below : List Frame} {meth : Method} {c : Code} {Q : State → Prop} {G : GT} {nL cells slots n : Nat} {h : AH} {pc : Nat} {L L' : List (Nat × Value)} {st st' : List Value} {cc : ByteArray} {own : String} {ret : Option FieldType}
theorem V_wid (c' s' : Nat) (hc : cells ≤ c') (hs : slots ≤ s') (kk : V p l e R s m args below meth c Q G nL c' s' n h pc L st) : V p l e R s m args below meth c Q G nL cells slots n h pc L st := fun H locs ls h1 h2 h3 h4 => W.widen hc hs (kk H locs ls h1 h2 h3 h4)
theorem cb_ofZ {args : Array Value} {s : State} {y : MethodName} {b : ByteArray} {mL na ix d' mc' ms' : Nat} {ret : Option FieldType} {own : String} (ht : ∀ w ∈ TB, w.before args s = true) (M : MZ y b mL ret na) (hl : Cond.methodLink own ix y ∈ TB) (hd : d' + 1 ≤ R.frames ∧ 8 + (mL + 11) + 36 * d' ≤ R.locals) : CallB R s args own ix y b mL ret (Cond.code y b mL ret :: TB) (rmD d' mc' ms') mc' ms' na := by
  obtain ⟨⟨m1, m2, m3, m4, -⟩, -⟩ := M
  refine ⟨rfl, rfl, hd.1, hd.2, tb_pay ht m1, List.mem_cons_self, ht _ m1, ht _ m2, m3, fun sig h => ?_, ht _ hl⟩
  rw [h] at m4
  exact (Option.some.inj m4).symm
theorem V_callSR (pc' : Nat) (C : Cx p s m args meth c cc nL own ret G) {ix mL na d' mc' ms' : Nat} {y : MethodName} {b : ByteArray} {rt : Option FieldType} {As stk : List Value} {post : Option Value → Nat → AH → Prop} (d : decode cc pc = .ok (.invokestatic ix, 3)) (hp : pc + 3 = pc') (M : MZ y b mL rt na) (hl : Cond.methodLink own ix y ∈ TB) (K : Ct l y b mL rt d' mc' ms' G n h As post) (hn : As.length = na) (hst : stk = As.reverse ++ st) (hd : d' + 1 ≤ R.frames ∧ 8 + (mL + 11) + 36 * d' ≤ R.locals) (hm : cells + mc' ≤ R.cells ∧ slots + ms' ≤ R.slots) (hro : (st.map fun v => v.category).sum ≤ 8)
    (kk : ∀ (v : Option Value) (n' : Nat) (h' : AH), post v n' h' → V p l e R s m args below meth c Q G nL (cells + mc') (slots + ms') n' h' pc' L (vcons v st)) : V p l e R s m args below meth c Q G nL cells slots n h pc L stk := fun H locs ls h1 h2 h3 h4 => by
  subst hp; subst hst
  have hts := C.2.2.2.2.1
  exact V_run (n2 := n) (h2' := h) (va_runS ⟨C.1, C.2.1, C.2.2.1, C.2.2.2.1, hts⟩ K ⟨cb_ofZ hts M hl hd, hts _ M.2⟩ (wd_pre C h1 h2 h3) rfl hn h4.1 rfl (lv_room hro) d hm) h3 h4 kk
/-- a call over one country, in a method over one -/
theorem V_q1 (pc' c' s' : Nat) (C : Cx p s m args meth c cc nL own ret G) {ix mL na d' mc' ms' x : Nat} {y : MethodName} {b : ByteArray} {rt : Option FieldType} {As stk : List Value} {v : Int32} {σ' : St} {h0 : AH} (hF : FX x h0 h) (d : decode cc pc = .ok (.invokestatic ix, 3)) (hp : pc + 3 = pc') (M : MZ y b mL rt na) (hl : Cond.methodLink own ix y ∈ TB) (K : Ct l y b mL rt d' mc' ms' G n h As (PoS x h v σ')) (hn : As.length = na) (hst : stk = As.reverse ++ st) (hd : d' + 1 ≤ R.frames ∧ 8 + (mL + 11) + 36 * d' ≤ R.locals) (hc : cells + mc' ≤ c' ∧ slots + ms' ≤ s') (hm : c' ≤ R.cells ∧ s' ≤ R.slots) (hro : (st.map fun v => v.category).sum ≤ 8)
    (kk : ∀ (n' : Nat) (h' : AH), SC x σ' h' → FX x h0 h' → V p l e R s m args below meth c Q G nL c' s' n' h' pc' L (.int v :: st)) : V p l e R s m args below meth c Q G nL cells slots n h pc L stk :=
  V_callSR pc' C d hp M hl K hn hst hd ⟨Nat.le_trans hc.1 hm.1, Nat.le_trans hc.2 hm.2⟩ hro (by
    rintro _ n' h' ⟨rfl, g1, g2⟩
    exact V_wid c' s' hc.1 hc.2 (kk n' h' g1 (hF.tr g2)))
/-- .. in a method over two -/
theorem V_q2 (pc' c' s' : Nat) (C : Cx p s m args meth c cc nL own ret G) {ix mL na d' mc' ms' x q : Nat} {y : MethodName} {b : ByteArray} {rt : Option FieldType} {As stk : List Value} {v : Int32} {σ' τ : St} (hQ : SC q τ h) (hx : apt x q) (d : decode cc pc = .ok (.invokestatic ix, 3)) (hp : pc + 3 = pc') (M : MZ y b mL rt na) (hl : Cond.methodLink own ix y ∈ TB) (K : Ct l y b mL rt d' mc' ms' G n h As (PoS x h v σ')) (hn : As.length = na) (hst : stk = As.reverse ++ st) (hd : d' + 1 ≤ R.frames ∧ 8 + (mL + 11) + 36 * d' ≤ R.locals) (hc : cells + mc' ≤ c' ∧ slots + ms' ≤ s') (hm : c' ≤ R.cells ∧ s' ≤ R.slots) (hro : (st.map fun v => v.category).sum ≤ 8)
    (kk : ∀ (n' : Nat) (h' : AH), SC x σ' h' → SC q τ h' → V p l e R s m args below meth c Q G nL c' s' n' h' pc' L (.int v :: st)) : V p l e R s m args below meth c Q G nL cells slots n h pc L stk :=
  V_callSR pc' C d hp M hl K hn hst hd ⟨Nat.le_trans hc.1 hm.1, Nat.le_trans hc.2 hm.2⟩ hro (by
    rintro _ n' h' ⟨rfl, g1, g2⟩
    exact V_wid c' s' hc.1 hc.2 (kk n' h' g1 (hQ.fx g2 hx)))
/-- a call over two -/
theorem V_q3 (pc' c' s' : Nat) (C : Cx p s m args meth c cc nL own ret G) {ix mL na d' mc' ms' x q : Nat} {y : MethodName} {b : ByteArray} {rt : Option FieldType} {As stk : List Value} {v : Int32} {σ' τ' : St} (d : decode cc pc = .ok (.invokestatic ix, 3)) (hp : pc + 3 = pc') (M : MZ y b mL rt na) (hl : Cond.methodLink own ix y ∈ TB) (K : Ct l y b mL rt d' mc' ms' G n h As (PoT x q v σ' τ')) (hn : As.length = na) (hst : stk = As.reverse ++ st) (hd : d' + 1 ≤ R.frames ∧ 8 + (mL + 11) + 36 * d' ≤ R.locals) (hc : cells + mc' ≤ c' ∧ slots + ms' ≤ s') (hm : c' ≤ R.cells ∧ s' ≤ R.slots) (hro : (st.map fun v => v.category).sum ≤ 8)
    (kk : ∀ (n' : Nat) (h' : AH), SC x σ' h' → SC q τ' h' → V p l e R s m args below meth c Q G nL c' s' n' h' pc' L (.int v :: st)) : V p l e R s m args below meth c Q G nL cells slots n h pc L stk :=
  V_callSR pc' C d hp M hl K hn hst hd ⟨Nat.le_trans hc.1 hm.1, Nat.le_trans hc.2 hm.2⟩ hro (by
    rintro _ n' h' ⟨rfl, g1, g2⟩
    exact V_wid c' s' hc.1 hc.2 (kk n' h' g1 g2))
/-- a call of a wrapper that has handlers, over one country, in a method over one -/
theorem V_w1 (pc' c' s' : Nat) (C : Cx p s m args meth c cc nL own ret G) {ix mL na d' mc' ms' x : Nat} {y : MethodName} {b : ByteArray} {rt : Option FieldType} {hh : List (Nat × Nat × Nat × Nat)} {As stk : List Value} {v : Int32} {σ' : St} {h0 : AH} (hF : FX x h0 h) (d : decode cc pc = .ok (.invokestatic ix, 3)) (hp : pc + 3 = pc') (M : MW y b mL rt hh na) (hl : Cond.methodLink own ix y ∈ TB) (K : CW l y b mL rt hh d' mc' ms' G n h As (PoS x h v σ')) (hn : As.length = na) (hst : stk = As.reverse ++ st) (hd : d' + 1 ≤ R.frames ∧ 36 * (d' + 1) ≤ R.locals) (hc : cells + mc' ≤ c' ∧ slots + ms' ≤ s') (hm : c' ≤ R.cells ∧ s' ≤ R.slots) (hro : (st.map fun v => v.category).sum ≤ 8)
    (kk : ∀ (n' : Nat) (h' : AH), SC x σ' h' → FX x h0 h' → V p l e R s m args below meth c Q G nL c' s' n' h' pc' L (.int v :: st)) : V p l e R s m args below meth c Q G nL cells slots n h pc L stk :=
  V_callSWR pc' C d hp M hl K hn hst hd ⟨Nat.le_trans hc.1 hm.1, Nat.le_trans hc.2 hm.2⟩ hro (by
    rintro _ n' h' ⟨rfl, g1, g2⟩
    exact V_wid c' s' hc.1 hc.2 (kk n' h' g1 (hF.tr g2)))
theorem V_w2 (pc' c' s' : Nat) (C : Cx p s m args meth c cc nL own ret G) {ix mL na d' mc' ms' x q : Nat} {y : MethodName} {b : ByteArray} {rt : Option FieldType} {hh : List (Nat × Nat × Nat × Nat)} {As stk : List Value} {v : Int32} {σ' τ : St} (hQ : SC q τ h) (hx : apt x q) (d : decode cc pc = .ok (.invokestatic ix, 3)) (hp : pc + 3 = pc') (M : MW y b mL rt hh na) (hl : Cond.methodLink own ix y ∈ TB) (K : CW l y b mL rt hh d' mc' ms' G n h As (PoS x h v σ')) (hn : As.length = na) (hst : stk = As.reverse ++ st) (hd : d' + 1 ≤ R.frames ∧ 36 * (d' + 1) ≤ R.locals) (hc : cells + mc' ≤ c' ∧ slots + ms' ≤ s') (hm : c' ≤ R.cells ∧ s' ≤ R.slots) (hro : (st.map fun v => v.category).sum ≤ 8)
    (kk : ∀ (n' : Nat) (h' : AH), SC x σ' h' → SC q τ h' → V p l e R s m args below meth c Q G nL c' s' n' h' pc' L (.int v :: st)) : V p l e R s m args below meth c Q G nL cells slots n h pc L stk :=
  V_callSWR pc' C d hp M hl K hn hst hd ⟨Nat.le_trans hc.1 hm.1, Nat.le_trans hc.2 hm.2⟩ hro (by
    rintro _ n' h' ⟨rfl, g1, g2⟩
    exact V_wid c' s' hc.1 hc.2 (kk n' h' g1 (hQ.fx g2 hx)))
theorem V_ishr (pc' : Nat) (C : Cx p s m args meth c cc nL own ret G) {x y : Int32} (d : decode cc pc = .ok (.ishr, 1)) (hp : pc + 1 = pc')  (kk : V p l e R s m args below meth c Q G nL cells slots n h pc' L (.int (x >>> (y &&& 31)) :: st)) : V p l e R s m args below meth c Q G nL cells slots n h pc L (.int y :: .int x :: st) := fun H locs ls h1 h2 h3 h4 => by subst hp; exact lv_ishr C.1 C.2.1 d (kk H locs ls h1 h2 h3 h4)
end VSROWS
