/-! THE LAW'S WRAPPERS: contracts of methods with handlers -/
def CW (l : Launch) (y : MethodName) (b : ByteArray) (mL : Nat) (ret : Option FieldType) (hh : List (Nat × Nat × Nat × Nat)) (d mc ms : Nat) (G : GT) (n : Nat) (h : AH) (av : List Value) (post : Option Value → Nat → AH → Prop) : Prop :=
  Met l y (Cond.codeWith y b mL ret hh :: TB) (rmD d mc ms) (va_Pc av (Wd G n h)) (Po G post) mc ms (rg G)
def MW (y : MethodName) (b : ByteArray) (mL : Nat) (ret : Option FieldType) (hh : List (Nat × Nat × Nat × Nat)) (na : Nat) : Prop := Cond.codeWith y b mL ret hh ∈ TB ∧ Cond.initialized y.cls ∈ TB ∧ (y.cls ≠ "java/lang/invoke/MethodHandle" ∧ y.cls ≠ "java/lang/invoke/VarHandle") ∧ (parseMethodDescriptor y.desc).map (fun d => d.parameters.length) = some na ∧ mL ≤ 17 ∧ plainName y.cls = true ∧ Cond.static y ∈ TB
theorem Met_ofWH {l : Launch} {y : MethodName} {ws ws' : List Cond} {rm : Room} {Pc : Array Value → State → Prop} {Qc : Array Value → State → Outcome → State → Prop} {mc ms : Nat} {free : Addr → Prop} {cc : ByteArray} {maxL : Nat} {ret : Option FieldType} {hh : List (Nat × Nat × Nat × Nat)}
    (hy : plainName y.cls = true) (hw : ws = Cond.codeWith y cc maxL ret hh :: ws')
    (body : ∀ p e s m args below meth c s₁, BodyLoose p l y (headSpec ws rm) cc maxL ret e s m args below meth c s₁ → c.maxLocals = maxL → Pc args s →
      W p l e (headSpec ws rm).room s m args below meth c s.heap [] 0 0 (MQ below Qc args s mc ms free) (entryFrame m args maxL)) : Met l y ws rm Pc Qc mc ms free := by
  refine MetFree.of_bodyS (code := cc) (maxLocals := maxL) (ret := ret) hy ?_ ?_
  · intro args s m h hn
    obtain ⟨m9, meth, c, hn9, h1, h2, h3, h4, -, h5, h6, -⟩ := Cond.codeWith_spec (atoms_spec (ws := ws) h _ (by rw [hw]; exact List.mem_cons_self))
    cases hn.symm.trans hn9
    exact ⟨meth, c, h1, h2, h3, h4, h5, h6⟩
  · intro p e s m args below meth c s₁ B hml hP _
    have hh0 : s₁.heap = s.heap := by rw [B.state]; rfl
    obtain ⟨t, a1, o, b1, b2, b3⟩ := body p e s m args below meth c s₁ B hml hP s₁ hh0 (Stand.of_body B)
    exact ⟨t, o, a1, b1, b2, b3⟩
theorem CW_of {l : Launch} {y : MethodName} {b : ByteArray} {mL na : Nat} {ret : Option FieldType} {hh : List (Nat × Nat × Nat × Nat)} (M : MW y b mL ret hh na) {d mc ms : Nat} {G : GT} {n : Nat} {h : AH} {av : List Value} {post : Option Value → Nat → AH → Prop} (hfit : (lg_sl av).length ≤ mL)
    (body : ∀ (p : Program) (e : Env) (s : State) (m : MethodId) (args : Array Value) (below : List Frame) (meth : Method) (c : Code), Cx p s m args meth c b mL y.cls ret G → c.exceptionTable.toList = tableOf hh → V p l e (rmD d mc ms) s m args below meth c (MQ below (Po G post) args s mc ms (rg G)) G mL 0 0 n h 0 (lv_args 0 av) []) : CW l y b mL ret hh d mc ms G n h av post := by
  refine Met_ofWH (cc := b) (maxL := mL) (ret := ret) (hh := hh) M.2.2.2.2.2.1 rfl ?_
  intro p e s m args below meth c s₁ B hml hv
  obtain ⟨rfl, hz, hR, hK, hZ, hb⟩ := hv
  have hts := atoms_spec (ws := Cond.codeWith y b mL ret hh :: TB) B.pre
  have hT := vx_table (x := y) B (hts _ List.mem_cons_self)
  have hl := lv_entry av (n := mL) hfit
  rw [lg_entry_eq]
  exact body p e s m av.toArray below meth c ⟨B.exec, B.bytes, hml, findClass_of_methodNamed B.named, fun w hw => hts w (List.mem_cons_of_mem _ hw), hK, B.returns, B.notSynchronized, hZ, hb⟩ hT s.heap [] _ hz hR va_S.rf hl
/-- E, thrown at pc, is caught at j -/
def HX (hh : List (Nat × Nat × Nat × Nat)) (own : String) (pc : Nat) (E : String) (j : Nat) : Prop := ∃ (pre : List (Nat × Nat × Nat × Nat)) (x : Nat × Nat × Nat × Nat) (suf : List (Nat × Nat × Nat × Nat)), hh = pre ++ x :: suf ∧ (∀ z ∈ pre, z.2.2.2 ≠ 0 ∧ ∃ nm : String, Cond.classLink own z.2.2.2 nm ∈ TB ∧ (E, nm) ∈ ncL) ∧ covers ⟨x.1, x.2.1, x.2.2.1, x.2.2.2⟩ pc = true ∧ x.2.2.2 ≠ 0 ∧ Cond.classLink own x.2.2.2 E ∈ TB ∧ Cond.castable E E ∈ xwL ∧ x.2.2.1 = j
section VWROWS
variable {p : Program} {l : Launch} {e : Env} {R : Room} {s : State} {m : MethodId} {args : Array Value} {below : List Frame} {meth : Method} {c : Code} {Q : State → Prop} {G : GT} {nL cells slots n : Nat} {h : AH} {pc : Nat} {L L' : List (Nat × Value)} {st st' : List Value} {cc : ByteArray} {own : String} {ret : Option FieldType}
variable {post post0 : Option Value → Nat → AH → Prop} {px px0 : String → AH → Prop}
theorem V_callVXH (pc' : Nat) (C : Cx p s m args meth c cc nL own ret G) {hh0 : List (Nat × Nat × Nat × Nat)} (hT : c.exceptionTable.toList = tableOf hh0) {d0 mc ms ix mL na d' mc' ms' ci N a : Nat} {y : MethodName} {b : ByteArray} {rt : Option FieldType} {As stk fs : List Value} {T : u_T} {ty : Nat → FieldType} (d : decode cc pc = .ok (.invokevirtual ix, 3)) (hp : pc + 3 = pc') (M : MV y b mL rt na) (hl : Cond.methodLink own ix y ∈ TB) (F : FC ci y.cls T N ty) (hh : h a = some (.inr (ci, fs))) (K : CX l y b mL rt d' mc' ms' G n h (.ref a :: As) post px) (hn : As.length = na) (hst : stk = As.reverse ++ .ref a :: st) (hd : d' + 1 ≤ d0) (hm : cells + mc' ≤ mc ∧ slots + ms' ≤ ms) (hro : (st.map fun v => v.category).sum ≤ 8)
    (kx : ∀ E h', px E h' → ∃ j, HX hh0 own pc E j ∧ ∀ n' q, V p l e (rmD d0 mc ms) s m args below meth c Q G nL (cells + mc') (slots + ms') n' h' j L [.ref q])
    (kk : ∀ (v : Option Value) (n' : Nat) (h' : AH), post v n' h' → V p l e (rmD d0 mc ms) s m args below meth c Q G nL (cells + mc') (slots + ms') n' h' pc' L (vcons v st)) : V p l e (rmD d0 mc ms) s m args below meth c Q G nL cells slots n h pc L stk := fun H locs ls h1 h2 h3 h4 => by
  subst hp; subst hst
  have hts := C.2.2.2.2.1
  obtain ⟨z1, z2⟩ := wd_pre (As := .ref a :: As) C h1 h2 h3
  refine V_runX (vx_runV ⟨C.1, C.2.1, C.2.2.1, C.2.2.2.1, hts⟩ K ⟨cb_of hts M.1 hl hd, hts _ M.2.1, hts _ M.2.2⟩ ⟨z1, va_recv (q0 := 0) (fs := fs) C.2.2.2.2.2.1.1 (h2.one hh) F.1 rfl, z2⟩ rfl hn h4.1 rfl (lv_room hro) d hm) h3 h4 (fun E ce q9 h' H1 locs1 hp hR hS hc hv hcl => ?_) kk
  obtain ⟨j, ⟨pre, x, suf, g1, g2, g3, g4, g5, g6, rfl⟩, kj⟩ := kx E h' hp
  refine vx_catch (own := own) (name := E) C.2.2.2.1 (tableOf pre) ⟨x.1, x.2.1, x.2.2.1, x.2.2.2⟩ (tableOf suf) (by rw [hT, g1]; simp [tableOf]) (fun z hz => ?_) g3 g4 (hts _ g5) (va_tabs (xw_kinds _ g6).2 rfl (C.2.2.2.2.2.1.2.2.2.2.1 _ g6)) hc hv hcl (kj H1.size q9 H1 locs1 ls rfl hR hS h4)
  obtain ⟨z0, hz0, rfl⟩ := List.mem_map.mp hz
  obtain ⟨k1, nm, k2, k3⟩ := g2 z0 hz0
  exact Or.inr ⟨k1, nm, hts _ k2, C.2.2.2.2.2.1.2.2.2.2.2 _ k3⟩
end VWROWS
/-- what a wrapper leaves: the number of the refusal; the answer in the cell o -/
def PoW (x o : Nat) (h : AH) (kk : Nat) (ans : Int32) (y : Nat → Nat) (k : Nat) (D S : Nat → Nat → Nat) (sv : Nat → Bool) (N : Nat) (T : Nat → Nat) : Option Value → Nat → AH → Prop := fun v _ h' => v = some (.int (nI kk)) ∧ SysC x y k D S sv N T h' ∧ (∃ f : Nat → Int64, h' o = some (.inl (3, 1, .inr (.inl f))) ∧ (kk = 0 → f 0 = ans.toInt64)) ∧ ∀ a, (a < x ∨ x + 619 ≤ a) → ¬ a = o → h' a = h a
theorem ex_1 {E E1 : String} {k : Nat} (h0 : k ≠ 0) (h : [E1][k - 1]? = some E) : k = 1 ∧ E1 = E := by
  match k, h0, h with
  | 1, _, h => exact ⟨rfl, Option.some.inj h⟩
  | k + 2, _, h => simp at h
theorem ex_2 {E E1 E2 : String} {k : Nat} (h0 : k ≠ 0) (h : [E1, E2][k - 1]? = some E) : (k = 1 ∧ E1 = E) ∨ (k = 2 ∧ E2 = E) := by
  match k, h0, h with
  | 1, _, h => exact Or.inl ⟨rfl, Option.some.inj h⟩
  | 2, _, h => exact Or.inr ⟨rfl, Option.some.inj h⟩
  | k + 3, _, h => simp at h
theorem ex_3 {E E1 E2 E3 : String} {k : Nat} (h0 : k ≠ 0) (h : [E1, E2, E3][k - 1]? = some E) : (k = 1 ∧ E1 = E) ∨ (k = 2 ∧ E2 = E) ∨ (k = 3 ∧ E3 = E) := by
  match k, h0, h with
  | 1, _, h => exact Or.inl ⟨rfl, Option.some.inj h⟩
  | 2, _, h => exact Or.inr (Or.inl ⟨rfl, Option.some.inj h⟩)
  | 3, _, h => exact Or.inr (Or.inr ⟨rfl, Option.some.inj h⟩)
  | k + 4, _, h => simp at h
theorem PoW_x {x o n kk j : Nat} {h h1 : AH} {ans : Int32} {y : Nat → Nat} {k : Nat} {D S : Nat → Nat → Nat} {sv : Nat → Bool} {N : Nat} {T : Nat → Nat} {f : Nat → Int64} (hj : kk = j) (h0 : kk ≠ 0) (hS : SysC x y k D S sv N T h1) (hF : FX x h h1) (hof : h o = some (.inl (3, 1, .inr (.inl f)))) (ho : o < x ∨ x + 619 ≤ o) : PoW x o h kk ans y k D S sv N T (some (.int (nI j))) n h1 := ⟨by rw [hj], hS, ⟨f, (hF o ho).trans hof, fun e => absurd e h0⟩, fun a ha _ => hF a ha⟩
theorem PoW_0 {x o n kk : Nat} {h h1 : AH} {ans : Int32} {y : Nat → Nat} {k : Nat} {D S : Nat → Nat → Nat} {sv : Nat → Bool} {N : Nat} {T : Nat → Nat} {f : Nat → Int64} (h0 : kk = 0) (hS : SysC x y k D S sv N T h1) (hF : FX x h h1) (ho : o < x ∨ x + 619 ≤ o) : PoW x o h kk ans y k D S sv N T (some (.int (nI 0))) n (up h1 o (.inl (3, 1, .inr (.inl (vp_updL f 0 ans.toInt64))))) := ⟨by rw [h0], hS.fr (fun a ha => up_n _ (by omega)), ⟨_, up_s _ _ _, fun _ => if_pos rfl⟩, fun a ha hn => (up_n _ hn).trans (hF a ha)⟩

