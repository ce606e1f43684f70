/-! MAKING: rows that lay new cells -/
section VROWS3
variable {p : Program} {l : Launch} {e : Env} {R : Room} {s : State} {m : MethodId} {args : Array Value} {below : List Frame} {meth : Method} {c : Code} {cc : ByteArray} {nL : Nat} {own : String} {ret : Option FieldType} {G : GT} {Q : State → Prop} {cells slots n : Nat} {h : AH} {pc : Nat} {L : List (Nat × Value)} {st : List Value}
theorem RP.push {h : AH} {H H1 : Heap} (hr : RP G h H) {x : AE} (hx : va_at G.1 vwCl (H.size, trE G x) H1) (ho : ∀ q : Nat, q < H.size → H1[q]? = H[q]?) (hb : G.2.2 ≤ H.size) : RP G (up h H.size x) H1 := by
  intro q z hz
  by_cases hq : q = H.size
  · subst hq
    rw [up_s] at hz
    cases hz
    exact ⟨hx, hb⟩
  · rw [up_n _ hq] at hz
    obtain ⟨g1, g2⟩ := hr q z hz
    exact ⟨g1.kept (ho q g1.lt), g2⟩
theorem Cx.bs (C : Cx p s m args meth c cc nL own ret G) {H : Heap} {locs : List Loc} (h3 : va_S (rg G) s.heap H locs) : G.2.2 ≤ H.size := Nat.le_trans C.2.2.2.2.2.2.2.2.2 h3.1
theorem vaS_push {H H1 : Heap} {H0 : Heap} {locs : List Loc} {A : Nat → Prop} (h3 : va_S A H0 H locs) (z1 : H1.size = H.size + 1) (o1 : ∀ q : Nat, q < H.size → H1[q]? = H[q]?) : va_S A H0 H1 locs := ⟨Nat.le_trans h3.1 (by omega), fun x g1 g2 => (o1 x (Nat.lt_of_lt_of_le g1 h3.1)).trans (h3.2.1 x g1 g2), h3.2.2⟩
theorem V_new (pc' : Nat) (C : Cx p s m args meth c cc nL own ret G) {ix ci N : Nat} {Cn : String} {T : u_T} {ty : Nat → FieldType} (fs : List Value) (d : decode cc pc = .ok (.new ix, 3)) (hp : pc + 3 = pc') (F : FC ci Cn T N ty) (hw : Cond.classLink own ix Cn ∈ TB) (hi1 : Cond.instantiable Cn N ∈ TB) (hi2 : Cond.initialized Cn ∈ TB) (hfs : ∀ j, j < N → defaultValue (ty j) = vp_V fs j) (hcs : cells + 1 ≤ R.cells ∧ slots + N ≤ R.slots)
    (kk : V p l e R s m args below meth c Q G nL (cells + 1) (slots + N) (n + 1) (up h n (.inr (ci, fs))) pc' L (.ref n :: st)) : V p l e R s m args below meth c Q G nL cells slots n h pc L st := fun H locs ls h1 h2 h3 h4 => by
  subst hp; subst h1
  have hts := C.2.2.2.2.1
  have hKn := C.2.2.2.2.2.1.1.1 ci _ F.1
  refine W.newcK C.1 C.2.1 C.2.2.2.1 (hts _ hw) (hts _ hi1) (hts _ hi2) rfl d hcs.1 hcs.2 hKn.2.1 rfl fun H1 kC hkC e1 z1 o1 => ?_
  exact kk H1 locs ls z1 (h2.push ⟨_, F.1, (u_born ty hts F.2.1 hKn hkC e1 F.2.2.1).to hfs⟩ o1 (C.bs h3)) (vaS_push h3 z1 o1) h4
theorem nI_nn {N : Nat} (hN : N < 2 ^ 31) : ¬ nI N < 0 := by
  rw [Int32.lt_iff_toInt_lt, nI_toInt hN, Int32.toInt_zero]
  omega
theorem V_newarr (pc' : Nat) (C : Cx p s m args meth c cc nL own ret G) {atype : ArrayType} {ty : FieldType} {N : Nat} (t : Nat) (a0 : vp_A) (d : decode cc pc = .ok (.newarray atype, 2)) (hp : pc + 2 = pc') (hty : newarray.typeOf atype = ty) (hw : Cond.arrayClass ty ∈ TB) (ht : (tyL G)[t]? = some (G.2.1 t, ty)) (ha : ∀ cA : ClassId, vp_cell cA a0 = arrV cA N (fun _ => defaultValue ty)) (hN : N < 2 ^ 20) (hcs : cells + 1 ≤ R.cells ∧ slots + N ≤ R.slots)
    (kk : V p l e R s m args below meth c Q G nL (cells + 1) (slots + N) (n + 1) (up h n (.inl (t, a0))) pc' L (.ref n :: st)) : V p l e R s m args below meth c Q G nL cells slots n h pc L (.int (nI N) :: st) := fun H locs ls h1 h2 h3 h4 => by
  subst hp; subst h1; subst hty
  have hts := C.2.2.2.2.1
  have hcb : componentBytes (newarray.typeOf atype) ≤ 8 := by cases atype <;> decide
  refine va_newaK C.1 C.2.1 (hts _ hw) rfl d rfl (nI_nn (by omega)) (nI_clamp (by omega)) (Nat.le_trans (Nat.mul_le_mul_left N hcb) (by omega)) hcs.1 hcs.2 rfl fun H1 cA e1 z1 o1 hAr hNm => ?_
  have hRA := (C.2.2.2.2.2.1.1.2 t _ ht).2
  have hcA : cA = G.2.1 t := by cases atype <;> exact Option.some.inj (hNm.symm.trans hRA)
  subst hcA
  exact kk H1 locs ls z1 (h2.push (show H1[H.size]? = some (vp_cell _ _) by rw [ha]; exact e1) o1 (C.bs h3)) (vaS_push h3 z1 o1) h4
theorem V_anewarr (pc' : Nat) (C : Cx p s m args meth c cc nL own ret G) {ix N : Nat} {Cn : String} (t : Nat) (d : decode cc pc = .ok (.anewarray ix, 3)) (hp : pc + 3 = pc') (hw : Cond.classLink own ix Cn ∈ TB) (hC : Cn ∈ [RX1, RX5, RX6, RX8]) (ht : (tyL G)[t]? = some (G.2.1 t, .object Cn)) (hN : N < 2 ^ 20) (hcs : cells + 1 ≤ R.cells ∧ slots + N ≤ R.slots)
    (kk : V p l e R s m args below meth c Q G nL (cells + 1) (slots + N) (n + 1) (up h n (.inl (t, N, .inr (.inr (.inr (.inr (fun _ => none))))))) pc' L (.ref n :: st)) : V p l e R s m args below meth c Q G nL cells slots n h pc L (.int (nI N) :: st) := fun H locs ls h1 h2 h3 h4 => by
  subst hp; subst h1
  have hts := C.2.2.2.2.1
  have hcl : (nI N).toNatClampNeg = N := nI_clamp (by omega)
  refine W.anew C.1 C.2.1 C.2.2.2.1 (hts _ hw) (va_AO.use (C.2.2.2.2.2.1.2.2.1 _ hC)) rfl d rfl (nI_nn (by omega)) (by rw [hcl]; omega) hcs.1 (by rw [hcl]; exact hcs.2) fun cA kA comp f1 f2 f3 f4 => ?_
  rw [hcl]
  generalize hH1 : H.push ({ cls := cA, slots := Array.replicate N .null, vm := .none } : Cell) = H1
  have z1 : H1.size = H.size + 1 := by rw [← hH1, Array.size_push]
  have e1 : H1[H.size]? = some (arrV cA N (fun _ => .null)) := by rw [← hH1, Array.getElem?_push_size, ← arrV_new]
  have o1 : ∀ q : Nat, q < H.size → H1[q]? = H[q]? := fun q hq => by rw [← hH1, Array.getElem?_push, if_neg (Nat.ne_of_lt hq)]
  have hRA := (C.2.2.2.2.2.1.1.2 t _ ht).2
  obtain ⟨k2, comp2, q1, q2, q3, q4⟩ := hRA
  have hcA : cA = G.2.1 t := Option.some.inj (f1.symm.trans q4)
  subst hcA
  exact kk H1 locs ls z1 (h2.push (show H1[H.size]? = some (vp_cell _ _) by rw [vp_cell_q]; exact e1) o1 (C.bs h3)) (vaS_push h3 z1 o1) h4
theorem V_aast (pc' : Nat) (C : Cx p s m args meth c cc nL own ret G) {a v N t ci : Nat} {Cn : String} {T : u_T} {NF : Nat} {vs : List Value} {f : Nat → Option Nat} (j : Nat) (d : decode cc pc = .ok (.aastore, 1)) (hp : pc + 1 = pc') (hh : h a = some (.inl (t, N, .inr (.inr (.inr (.inr f)))))) (ht : (tyL G)[t]? = some (G.2.1 t, .object Cn)) (hv : h v = some (.inr (ci, vs))) (hc : vwCl[ci]? = some (Cn, T, NF)) (hj : j < N) (hN : N < 2 ^ 31)
    (kk : V p l e R s m args below meth c Q G nL cells slots n (up h a (.inl (t, N, .inr (.inr (.inr (.inr (va_up f j (some v)))))))) pc' L st) : V p l e R s m args below meth c Q G nL cells slots n h pc L (.ref v :: .int (nI j) :: .ref a :: st) := fun H locs ls h1 h2 h3 h4 => by
  subst hp
  obtain ⟨v1, v2⟩ := nI_vp hj hN
  have hK := C.2.2.2.2.2.1.1
  obtain ⟨r', hr', cellV, g1, g2, g3, -⟩ := (h2 v _ hv).1
  have hr2 : r' = (Cn, T, NF) := Option.some.inj (hr'.symm.trans hc)
  subst hr2
  have hcls := (hK.1 ci _ hc).2
  obtain ⟨kA, comp, k1, k2, k3, -⟩ := (hK.2 t _ ht).2
  have hcomp : comp = G.1.1 ci := Option.some.inj (k3.symm.trans hcls.1)
  subst hcomp
  obtain ⟨kC, hkC, -⟩ := hcls.2
  have hlt : (nI j).toNatClampNeg < N := by rw [v2]; exact hj
  refine W.aast C.1 C.2.1 (h2 a _ hh).1 (fun q h => by cases h) (fun h => by cases h) k1 k2 rfl hkC ⟨fun q => v1 (Or.inl q), by show _ < (arrV _ _ _).slots.size; rw [arrV_size]; exact hlt⟩ g1 (fun q h => by rw [g3] at h; cases h) (by rw [g2]; exact hkC) (by rw [g2]; exact va_assign hcls) rfl rfl d fun H1 e z oq => ?_
  refine kk H1 _ ls (z.trans h1) (h2.set hh ?_ oq) (h3.put z oq (h2 a _ hh).2) h4
  show H1[a]? = some (vp_cell _ _)
  rw [e]
  rw [vp_cell_q, vp_cell_q, arrV_store, v2]
  congr 2
  funext q
  by_cases hq : q = j
  · subst hq
    simp [updV, va_up, va_rf]
  · simp [updV, va_up, hq]
theorem V_putF (pc' : Nat) (C : Cx p s m args meth c cc nL own ret G) (hin : meth.name = "<init>") {ix ci k N a : Nat} {Cn : String} {T : u_T} {ty : Nat → FieldType} {fs fs' : List Value} {v : Value} (d : decode cc pc = .ok (.putfield ix, 3)) (hp : pc + 3 = pc') (F : FC ci Cn T N ty) (hw : Cond.fieldLink own ix Cn (T k).2.1 (T k).2.2.1 ∈ TB) (hk : k < N) (ho : (T k).1 = Cn) (ho2 : Cn = own) (hf : (T k).2.2.2 = true) (hh : h a = some (.inr (ci, fs))) (hn : narrow (ty k) v = v) (hfit : fits (ty k) v = true) (hlen : k < fs.length) (hs : fs.set k v = fs') (kk : V p l e R s m args below meth c Q G nL cells slots n (up h a (.inr (ci, fs'))) pc' L st) : V p l e R s m args below meth c Q G nL cells slots n h pc L (v :: .ref a :: st) := fun H locs ls h1 h2 h3 h4 => by
  subst hp; subst hs
  have hK := C.2.2.2.2.2.1.1
  have hts := C.2.2.2.2.1
  have hap := va_apart (own := own) hts F.2.1 ty F.2.2.1 F.2.2.2 hK F.1
  obtain ⟨r, g1, cell, q1, q2, q3, q4⟩ := (h2 a _ hh).1
  have hr : r = (Cn, T, N) := Option.some.inj (g1.symm.trans F.1)
  subst hr
  obtain ⟨hS, hfc, kC, hkC, hkind⟩ := hK.1 ci _ F.1
  obtain ⟨cf, kf, fi, f, hi, hsl⟩ := hS k hk
  have hlay := hts _ (F.2.1 _ (u_in_lay hk))
  unfold u_lay at hlay
  rw [if_pos hf] at hlay
  have hst := (u_facts hfc hkC (u_lays hts F.2.1 hk) hi).1
  have hcf : m.cls = cf := by
    obtain ⟨_, _, c', _, _, _, -, -, hf', -, -, -, hown2, -⟩ := Cond.laysFinal_spec hlay
    have e1 : c' = cf := by have := hi.symm.trans hf'; simp at this; exact this.1.symm
    rw [ho, ho2] at hown2
    rw [← e1]; exact Option.some.inj (C.2.2.2.1.symm.trans hown2)
  have h6 := u_fits hfc hkC hkind (Or.inr hlay) hi (F.2.2.1 k hk) hn hfit
  refine W.putFinK C.1 C.2.1 (f := f) C.2.2.2.1 (hts _ hw) (by rw [← ho]; exact hi) hst hcf hin (by rw [q2]; exact h6) q1 q3 (by rw [hsl]; exact k2_hasslot (q4 k hk)) rfl rfl d fun H' e1 e2 e3 => ?_
  rw [hsl] at e1 ⊢
  exact kk H' _ ls (e2.trans h1) (h2.set hh ⟨_, F.1, t_OB.to (V := updV (vp_V fs) k v) ⟨_, e1, q2, q3, t_set q4 hap hk v⟩ (fun j _ => vp_updV_set hlen v j)⟩ e3) (h3.put e2 e3 (h2 a _ hh).2) h4
def MI (y : MethodName) (b : ByteArray) (mL : Nat) (na : Nat) : Prop := MB y b mL none na ∧ Cond.instanceMethod y ∈ TB
theorem V_callI (pc' : Nat) (C : Cx p s m args meth c cc nL own ret G) {d0 mc ms ix mL na d' mc' ms' a : Nat} {y : MethodName} {b : ByteArray} {As stk : List Value} {post : Option Value → Nat → AH → Prop} (d : decode cc pc = .ok (.invokespecial ix, 3)) (hp : pc + 3 = pc') (hy : y.name = "<init>") (M : MI y b mL na) (hl : Cond.methodLink own ix y ∈ TB) (K : Ct l y b mL none d' mc' ms' G n h (.ref a :: As) post) (hn : As.length = na) (hst : stk = As.reverse ++ .ref a :: st) (hd : d' + 1 ≤ d0) (hm : cells + mc' ≤ mc ∧ slots + ms' ≤ ms) (hro : (st.map fun v => v.category).sum ≤ 8)
    (kk : ∀ (v : Option Value) (n' : Nat) (h' : AH), post v n' h' → V p l e (rmD d0 mc ms) s m args below meth c Q G nL (cells + mc') (slots + ms') n' h' pc' L (vcons v st)) : V p l e (rmD d0 mc ms) s m args below meth c Q G nL cells slots n h pc L stk := fun H locs ls h1 h2 h3 h4 => by
  subst hp; subst hst
  have hts := C.2.2.2.2.1
  exact V_run (n2 := n) (h2' := h) (va_runI ⟨C.1, C.2.1, C.2.2.1, C.2.2.2.1, hts⟩ K ⟨cb_of hts M.1 hl hd, hy, hts _ M.2⟩ (wd_pre C h1 h2 h3) rfl hn h4.1 rfl (lv_room hro) d hm) h3 h4 kk
theorem V_callIN (pc' : Nat) (C : Cx p s m args meth c cc nL own ret G) {d0 mc ms ix mL na d' mc' ms' a : Nat} {y : MethodName} {b : ByteArray} {host : String} {As stk : List Value} {post : Option Value → Nat → AH → Prop} (d : decode cc pc = .ok (.invokespecial ix, 3)) (hp : pc + 3 = pc') (hy : y.name = "<init>") (M : MI y b mL na) (hl : (own, ix, y, host) ∈ nstL) (K : Ct l y b mL none d' mc' ms' G n h (.ref a :: As) post) (hn : As.length = na) (hst : stk = As.reverse ++ .ref a :: st) (hd : d' + 1 ≤ d0) (hm : cells + mc' ≤ mc ∧ slots + ms' ≤ ms) (hro : (st.map fun v => v.category).sum ≤ 8)
    (kk : ∀ (v : Option Value) (n' : Nat) (h' : AH), post v n' h' → V p l e (rmD d0 mc ms) s m args below meth c Q G nL (cells + mc') (slots + ms') n' h' pc' L (vcons v st)) : V p l e (rmD d0 mc ms) s m args below meth c Q G nL cells slots n h pc L stk := fun H locs ls h1 h2 h3 h4 => by
  subst hp; subst hst
  have hts := C.2.2.2.2.1
  obtain ⟨m1, m2, m3, m4, m5, -⟩ := M.1
  have hN := C.2.2.2.2.2.1.2.1 _ hl
  refine V_run (n2 := n) (h2' := h) (va_runIN ⟨C.1, C.2.1, C.2.2.1, C.2.2.2.1, hts⟩ K ⟨⟨⟨rfl, rfl, hd, ?_, tb_pay hts m1, List.mem_cons_self⟩, hts _ m1, hts _ m2, m3, fun sig hg => ?_, va_Nw.use rfl hN⟩, hy, hts _ M.2⟩ (wd_pre C h1 h2 h3) rfl hn h4.1 rfl (lv_room hro) d hm) h3 h4 kk
  · show 8 + (mL + 11) + 36 * d' ≤ 36 * d0
    omega
  · rw [hg] at m4
    exact (Option.some.inj m4).symm
theorem V_objInit (pc' : Nat) (C : Cx p s m args meth c cc nL own ret G) {d0 mc ms ix a : Nat} (d : decode cc pc = .ok (.invokespecial ix, 3)) (hp : pc + 3 = pc') (hl : Cond.methodLink own ix objectInit ∈ TB) (hd : 1 ≤ d0) (kk : V p l e (rmD d0 mc ms) s m args below meth c Q G nL cells slots n h pc' L []) : V p l e (rmD d0 mc ms) s m args below meth c Q G nL cells slots n h pc L [.ref a] := fun H locs ls h1 h2 h3 h4 => by
  subst hp
  have hts := C.2.2.2.2.1
  refine W.objInit C.1 C.2.1 C.2.2.2.1 (hts _ hl) (hts (.instanceMethod objectInit) (tb_in 42 (by decide +kernel) (by decide +kernel))) (hts _ (tb_in (w := Cond.code objectInit object_method_1_code 1 none) 43 (by decide +kernel) (by decide +kernel))) rfl (by rw [C.2.2.1]; exact h4.1) rfl d (show 1 ≤ (rmD d0 mc ms).frames from hd) (by
    have e1 : (F0 m pc ls [Value.ref a]).monitorRoom = 0 := rfl
    have e2 : ((([] : List Value)).map fun v => v.category).sum = 0 := rfl
    show _ ≤ 36 * d0
    omega) ?_
  exact W.eq (g2 := F0 m (pc + 3) ls []) rfl (kk H locs ls h1 h2 h3 h4)
end VROWS3

