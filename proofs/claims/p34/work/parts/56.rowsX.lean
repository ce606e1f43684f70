/-! THROWS: contracts of methods that return or throw -/
def PX (G : GT) (px : String → AH → Prop) : String → State → State → Prop := fun E st t => ∃ h : AH, px E h ∧ RP G h t.heap ∧ va_F (rg G) st t
def CX (l : Launch) (y : MethodName) (b : ByteArray) (mL : Nat) (ret : Option FieldType) (d mc ms : Nat) (G : GT) (n : Nat) (h : AH) (av : List Value) (post : Option Value → Nat → AH → Prop) (px : String → AH → Prop) : Prop :=
  vx_Met l y (Cond.code y b mL ret :: TB) (rmD d mc ms) (va_Pc av (Wd G n h)) (Po G post) (PX G px) mc ms (rg G)
def iaE : String := "java/lang/IllegalArgumentException"
def isE : String := "java/lang/IllegalStateException"
def ioE : String := "java/lang/IndexOutOfBoundsException"
def nms : List String := ["java/lang/RuntimeException", "java/lang/Exception"]
/-- what the tables say of 'new E(text)' in the class -/
def TH (E : String) (ik ic : Nat) : Prop := Bundle.fit E = true ∧ Cond.classLink RX9 ik E ∈ TB ∧ Cond.initialized E ∈ TB ∧ (∀ w ∈ vx_atS RX9 ic E nms, w ∈ TB ∨ w ∈ xwL) ∧ (∀ w ∈ Cond.classLink RX9 ik E :: Cond.initialized E :: vx_atS RX9 ic E nms, vx_ot w = true)
theorem th_at {E : String} {ic : Nat} (h : (vx_atS RX9 ic E nms).all (fun w => (goodWord w && decide (w ∈ lw_tbl)) || decide (w ∈ xwL)) = true) : ∀ w ∈ vx_atS RX9 ic E nms, w ∈ TB ∨ w ∈ xwL := by
  intro w hw
  have h1 := List.all_eq_true.mp h w hw
  simp only [Bool.or_eq_true, Bool.and_eq_true, decide_eq_true_eq] at h1
  rcases h1 with ⟨g, hm⟩ | hm
  · exact Or.inl (List.mem_filter.mpr ⟨hm, g⟩)
  · exact Or.inr hm
theorem th_ot {E : String} {ik ic : Nat} (h : (Cond.classLink RX9 ik E :: Cond.initialized E :: vx_atS RX9 ic E nms).all vx_ot = true) : ∀ w ∈ Cond.classLink RX9 ik E :: Cond.initialized E :: vx_atS RX9 ic E nms, vx_ot w = true := fun w hw => List.all_eq_true.mp h w hw
theorem thIA : TH iaE 117 121 := ⟨by decide +kernel, tw268, tw12, th_at (by decide +kernel), th_ot (by decide +kernel)⟩
theorem thIS : TH isE 56 60 := ⟨by decide +kernel, tw340, tw13, th_at (by decide +kernel), th_ot (by decide +kernel)⟩
theorem thIO : TH ioE 313 317 := ⟨by decide +kernel, tw576, tw17, th_at (by decide +kernel), th_ot (by decide +kernel)⟩
theorem nms_fit : ∀ n ∈ nms, Bundle.fit n = true := fun n hn => List.all_eq_true.mp (show nms.all Bundle.fit = true from by decide +kernel) n hn
section VXROWS
variable {p : Program} {l : Launch} {e : Env} {R : Room} {s : State} {m : MethodId} {args : Array Value} {below : List Frame} {meth : Method} {c : Code} {Q : State → Prop} {G : GT} {nL cells slots n : Nat} {h : AH} {pc : Nat} {L L' : List (Nat × Value)} {st st' : List Value} {cc : ByteArray} {own : String} {ret : Option FieldType}
variable {post post0 : Option Value → Nat → AH → Prop} {px px0 : String → AH → Prop}
theorem V_x {mc ms : Nat} (k : V p l e R s m args below meth c (MQ below (Po G post) args s mc ms (rg G)) G nL cells slots n h pc L st) : V p l e R s m args below meth c (vx_MQ below (Po G post) (PX G px) args s mc ms (rg G)) G nL cells slots n h pc L st := fun H locs ls h1 h2 h3 h4 => vx_ret (k H locs ls h1 h2 h3 h4)
theorem V_runX {H : Heap} {locs : List Loc} {ls : Array Slot} {rest st0 : List Value} {mc' ms' : Nat} {a : Array Value} (hr : vx_Run p l e R s m args below meth c H locs cells slots mc' ms' (F0 m pc ls st0) rest (Po G post a) (PX G px) (rg G)) (h3 : va_S (rg G) s.heap H locs) (h4 : lv_has ls nL L)
    (kx : ∀ (E : String) (ce : Cell) (q9 : Nat) (h' : AH) (H1 : Heap) (locs1 : List Loc), px E h' → RP G h' H1 → va_S (rg G) s.heap H1 locs1 → H1[q9]? = some ce → ce.vm = .none → s.vm.findClass E = some ce.cls → vx_W p l e R s m args below meth c H1 locs1 (cells + mc') (slots + ms') Q (F0 m pc ls rest) q9)
    (kk : ∀ (v : Option Value) (n' : Nat) (h' : AH), post v n' h' → V p l e R s m args below meth c Q G nL (cells + mc') (slots + ms') n' h' (pc + 3) L (vcons v rest)) : W p l e R s m args below meth c H locs cells slots Q (F0 m pc ls st0) := by
  intro T hT X
  rcases hr T hT X with ⟨v, st₀, t, T', L1, h0, X', hL, e1, e2, ⟨v2, n', h', hv, hp, hz, hR, hF⟩, stp⟩ | ⟨q, st₀, t, T', L1, E, ce, h0, X', hL, e1, e2, ⟨h', hp, hR, hF⟩, hce, hcv, hcl, stp⟩
  · cases hv
    obtain ⟨k1, k2, k3⟩ := vx_keep h0 e1 h3 (fun q _ h => h) (fun q h => h) hL hF
    obtain ⟨t2, a1, b1⟩ := kk v n' h' hp T'.heap (locs ++ L1) ls (by rw [e1]; exact hz) (by rw [e1]; exact hR) k3 h4 T' rfl X'
    refine ⟨t2, stp t2 ?_, b1⟩
    have : v.toList ++ rest = vcons v rest := vcons_eq v rest
    show Steps p.tables e below (T'.setTop (F0 m (pc + 3) ls (v.toList ++ rest))) t2
    rw [this]
    exact a1
  · obtain ⟨k1, k2, k3⟩ := vx_keep h0 e1 h3 (fun q _ h => h) (fun q h => h) hL hF
    obtain ⟨t2, a1, b1⟩ := kx E ce q h' T'.heap (locs ++ L1) hp (by rw [e1]; exact hR) k3 (by rw [e1]; exact hce) hcv hcl T' rfl X'
    exact ⟨t2, stp.trans a1, b1⟩
theorem V_callSX (pc' : Nat) (C : Cx p s m args meth c cc nL own ret G) (hE : ∀ x ∈ c.exceptionTable.toList, False) {d0 mc ms ix mL na d' mc' ms' : Nat} {y : MethodName} {b : ByteArray} {rt : Option FieldType} {As stk : List Value} (d : decode cc pc = .ok (.invokestatic ix, 3)) (hp : pc + 3 = pc') (M : MS y b mL rt na) (hl : Cond.methodLink own ix y ∈ TB) (K : CX l y b mL rt d' mc' ms' G n h As post px) (hn : As.length = na) (hst : stk = As.reverse ++ st) (hd : d' + 1 ≤ d0) (hm : cells + mc' ≤ mc ∧ slots + ms' ≤ ms) (hro : (st.map fun v => v.category).sum ≤ 8) (kx : ∀ E h', px E h' → px0 E h')
    (kk : ∀ (v : Option Value) (n' : Nat) (h' : AH), post v n' h' → V p l e (rmD d0 mc ms) s m args below meth c (vx_MQ below (Po G post0) (PX G px0) args s mc ms (rg G)) G nL (cells + mc') (slots + ms') n' h' pc' L (vcons v st)) : V p l e (rmD d0 mc ms) s m args below meth c (vx_MQ below (Po G post0) (PX G px0) args s mc ms (rg G)) G nL cells slots n h pc L stk := fun H locs ls h1 h2 h3 h4 => by
  subst hp; subst hst
  have hts := C.2.2.2.2.1
  refine V_runX (vx_runS ⟨C.1, C.2.1, C.2.2.1, C.2.2.2.1, hts⟩ K ⟨cb_of hts M.1 hl hd, hts _ M.2⟩ (wd_pre C h1 h2 h3) rfl hn h4.1 rfl (lv_room hro) d hm) h3 h4 (fun E ce q9 h' H1 locs1 hp hR hS hc hv hcl => ?_) kk
  exact vx_out (fun x hx => (hE x hx).elim) C.2.2.2.2.2.2.2.1 hc hv hcl (fun t ht _ => ⟨h', kx E h' hp, by rw [ht]; exact hR, hS.F ht⟩) hS.2.2 hm.1 hm.2
theorem V_callVX (pc' : Nat) (C : Cx p s m args meth c cc nL own ret G) (hE : ∀ x ∈ c.exceptionTable.toList, False) {d0 mc ms ix mL na d' mc' ms' ci N a : Nat} {y : MethodName} {b : ByteArray} {rt : Option FieldType} {As stk fs : List Value} {T : u_T} {ty : Nat → FieldType} (d : decode cc pc = .ok (.invokevirtual ix, 3)) (hp : pc + 3 = pc') (M : MV y b mL rt na) (hl : Cond.methodLink own ix y ∈ TB) (F : FC ci y.cls T N ty) (hh : h a = some (.inr (ci, fs))) (K : CX l y b mL rt d' mc' ms' G n h (.ref a :: As) post px) (hn : As.length = na) (hst : stk = As.reverse ++ .ref a :: st) (hd : d' + 1 ≤ d0) (hm : cells + mc' ≤ mc ∧ slots + ms' ≤ ms) (hro : (st.map fun v => v.category).sum ≤ 8) (kx : ∀ E h', px E h' → px0 E h')
    (kk : ∀ (v : Option Value) (n' : Nat) (h' : AH), post v n' h' → V p l e (rmD d0 mc ms) s m args below meth c (vx_MQ below (Po G post0) (PX G px0) args s mc ms (rg G)) G nL (cells + mc') (slots + ms') n' h' pc' L (vcons v st)) : V p l e (rmD d0 mc ms) s m args below meth c (vx_MQ below (Po G post0) (PX G px0) args s mc ms (rg G)) G nL cells slots n h pc L stk := fun H locs ls h1 h2 h3 h4 => by
  subst hp; subst hst
  have hts := C.2.2.2.2.1
  obtain ⟨z1, z2⟩ := wd_pre (As := .ref a :: As) C h1 h2 h3
  refine V_runX (vx_runV ⟨C.1, C.2.1, C.2.2.1, C.2.2.2.1, hts⟩ K ⟨cb_of hts M.1 hl hd, hts _ M.2.1, hts _ M.2.2⟩ ⟨z1, va_recv (q0 := 0) (fs := fs) C.2.2.2.2.2.1.1 (h2.one hh) F.1 rfl, z2⟩ rfl hn h4.1 rfl (lv_room hro) d hm) h3 h4 (fun E ce q9 h' H1 locs1 hp hR hS hc hv hcl => ?_) kk
  exact vx_out (fun x hx => (hE x hx).elim) C.2.2.2.2.2.2.2.1 hc hv hcl (fun t ht _ => ⟨h', kx E h' hp, by rw [ht]; exact hR, hS.F ht⟩) hS.2.2 hm.1 hm.2
theorem px_th {H : Heap} {locs : List Loc} {E : String} (h2 : RP G h H) (h3 : va_S (rg G) s.heap H locs) (hq : px E h) : ∀ t : State, s.vm.Alike t.vm → H.size ≤ t.heap.size → (∀ q : Nat, q < H.size → t.heap[q]? = H[q]?) → PX G px E s t := fun t _ hz hk =>
  ⟨h, hq, fun a x hh => ⟨(h2 a x hh).1.kept (hk a (h2 a x hh).1.lt), (h2 a x hh).2⟩, Nat.le_trans h3.1 hz, fun q g1 g2 => (hk q (Nat.lt_of_lt_of_le g1 h3.1)).trans (h3.2.1 q g1 g2)⟩
theorem th_hat {E : String} {ik ic : Nat} (C : Cx p s m args meth c cc nL own ret G) (t : TH E ik ic) : ∀ w ∈ vx_atS RX9 ic E nms, w.before args s = true := fun w hw => by
  rcases t.2.2.2.1 w hw with g | g
  · exact C.2.2.2.2.1 w g
  · exact va_tabs (xw_kinds w g).2 rfl (C.2.2.2.2.2.1.2.2.2.2.1 w g)
theorem V_throwS (C : Cx p s m args meth c cc nL RX9 ret G) (hl : l.stackTraces = false) (hE : ∀ x ∈ c.exceptionTable.toList, False) {d0 mc ms ik ic is : Nat} {E text : String} (t : TH E ik ic) (hstr : (is, text) ∈ strL) (d : decode cc pc = .ok (.new ik, 3)) (d3 : decode cc (pc + 3) = .ok (.dup, 1)) (d4 : decode cc (pc + 4) = .ok (.ldc is, 2)) (d6 : decode cc (pc + 6) = .ok (.invokespecial ic, 3)) (d9 : decode cc (pc + 9) = .ok (.athrow, 1)) (hd : 6 ≤ d0) (hm : cells + 1 ≤ mc ∧ slots + 6 ≤ ms) (hro : (st.map fun v => v.category).sum ≤ 8) (hq : px0 E h) :
    V p l e (rmD d0 mc ms) s m args below meth c (vx_MQ below (Po G post0) (PX G px0) args s mc ms (rg G)) G nL cells slots n h pc L st := fun H locs ls h1 h2 h3 h4 => by
  obtain ⟨sa, hsa⟩ := C.2.2.2.2.2.1.2.2.2.1 _ hstr
  refine vx_throwS (names := nms) (sa := sa) C.1 C.2.1 hl C.2.2.2.1 t.1 nms_fit (C.2.2.2.2.1 _ t.2.1) (C.2.2.2.2.1 _ t.2.2.1) hsa (th_hat C t) t.2.2.2.2 C.2.2.2.2.2.2.2.2.1.1 C.2.2.2.2.2.2.2.2.1.2 h3 (h4.1.trans C.2.2.1.symm) d d3 d4 d6 d9 (fun x hx => (hE x hx).elim) ?_ ?_ hm.1 hm.2 C.2.2.2.2.2.2.2.1 (px_th h2 h3 hq) h3.2.2 hm.1 hm.2
  · show 2 + 3 < d0
    omega
  · show _ + (13 * (2 + 1) + 43) ≤ 36 * d0
    omega
theorem V_throwW (C : Cx p s m args meth c cc nL RX9 ret G) (hl : l.stackTraces = false) (hE : ∀ x ∈ c.exceptionTable.toList, False) {d0 mc ms ik ic is : Nat} {E text : String} (t : TH E ik ic) (hstr : (is, text) ∈ strL) (d : decode cc pc = .ok (.new ik, 3)) (d3 : decode cc (pc + 3) = .ok (.dup, 1)) (d4 : decode cc (pc + 4) = .ok (.ldc_w is, 3)) (d7 : decode cc (pc + 7) = .ok (.invokespecial ic, 3)) (d10 : decode cc (pc + 10) = .ok (.athrow, 1)) (hd : 6 ≤ d0) (hm : cells + 1 ≤ mc ∧ slots + 6 ≤ ms) (hro : (st.map fun v => v.category).sum ≤ 8) (hq : px0 E h) :
    V p l e (rmD d0 mc ms) s m args below meth c (vx_MQ below (Po G post0) (PX G px0) args s mc ms (rg G)) G nL cells slots n h pc L st := fun H locs ls h1 h2 h3 h4 => by
  obtain ⟨sa, hsa⟩ := C.2.2.2.2.2.1.2.2.2.1 _ hstr
  refine vx_throwSW (names := nms) (sa := sa) C.1 C.2.1 hl C.2.2.2.1 t.1 nms_fit (C.2.2.2.2.1 _ t.2.1) (C.2.2.2.2.1 _ t.2.2.1) hsa (th_hat C t) t.2.2.2.2 C.2.2.2.2.2.2.2.2.1.1 C.2.2.2.2.2.2.2.2.1.2 h3 (h4.1.trans C.2.2.1.symm) d d3 d4 d7 d10 (fun x hx => (hE x hx).elim) ?_ ?_ hm.1 hm.2 C.2.2.2.2.2.2.2.1 (px_th h2 h3 hq) h3.2.2 hm.1 hm.2
  · show 2 + 3 < d0
    omega
  · show _ + (13 * (2 + 1) + 43) ≤ 36 * d0
    omega
end VXROWS
theorem CX_of {l : Launch} {y : MethodName} {b : ByteArray} {mL na : Nat} {ret : Option FieldType} (M : MB y b mL ret na) {d mc ms : Nat} {G : GT} {n : Nat} {h : AH} {av : List Value} {post : Option Value → Nat → AH → Prop} {px : String → AH → Prop} (hfit : (lg_sl av).length ≤ mL)
    (body : ∀ (p : Program) (e : Env) (s : State) (m : MethodId) (args : Array Value) (below : List Frame) (meth : Method) (c : Code), Cx p s m args meth c b mL y.cls ret G → (∀ x ∈ c.exceptionTable.toList, False) → V p l e (rmD d mc ms) s m args below meth c (vx_MQ below (Po G post) (PX G px) args s mc ms (rg G)) G mL 0 0 n h 0 (lv_args 0 av) []) : CX l y b mL ret d mc ms G n h av post px := by
  refine vx_ofW (cc := b) (maxL := mL) (ret := ret) M.2.2.2.2.2 rfl ?_
  intro p e s m args below meth c s₁ B hml hE hv
  obtain ⟨rfl, hz, hR, hK, hZ, hb⟩ := hv
  have hts := atoms_spec (ws := Cond.code y b mL ret :: TB) B.pre
  have hl := lv_entry av (n := mL) hfit
  rw [lg_entry_eq]
  exact body p e s m av.toArray below meth c ⟨B.exec, B.bytes, hml, findClass_of_methodNamed B.named, fun w hw => hts w (List.mem_cons_of_mem _ hw), hK, B.returns, B.notSynchronized, hZ, hb⟩ hE s.heap [] _ hz hR va_S.rf hl

