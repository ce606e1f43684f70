/-! THE CLAIM OUT OF ONE WALK OF THE LAW'S BODY. Your part is whole_start (and what it stands on); all else here is the same for every law, but numbers. -/
def R_law : String := "FadingSheetsLaw"
def lw_P (b : Addr) (xs : List Int32) (args : Array Value) (s : State) : Prop := args = #[.ref b] ∧ s.IntsAt b xs ∧ xs.length ≤ 2560 ∧ (Jvm.Cond.and given_1 narrow_1).before args s = true
def lw_Q (_ : Array Value) (s : State) (o : Outcome) (t : State) : Prop := o = .returned (some (.int 1)) ∧ Framed s o t [] 601024 7293034
def lw_Z (below : List Frame) (a : Array Value) (s : State) : State → Prop := fun t => ∃ o, t.status = .running ∧ Ended t below o ∧ lw_Q a s o t
/-- the law's own end, with 1 on the stack, nothing written that was there before, its room as the claim has it -/
theorem lw_ret {p : Program} {l : Launch} {e : Env} {s : State} {m : MethodId} {below : List Frame} {meth : Method} {c : Code} {b : Nat} (hx : p.tables.exec = Jvm.exec) (hb : c.code = code) (hr : meth.sig.returnType = ret) (hlocks : meth.locks = false) {pc : Nat} {H : Heap} {ls : Array Slot} (hdg : decode code pc = .ok (.ireturn, 1)) : W p l e room_1 s m #[Value.ref b] below meth c H [] 601024 7293034 (lw_Z below #[Value.ref b] s) (F0 m pc ls [.int 1]) := by
  intro T hT X
  obtain ⟨fs, hret, hrun, hended, hW, hframe⟩ := X.leave (v := some (.int 1)) (hlocks := hlocks) (fun h => by rw [hr] at h; cases h)
  have hmeth' : T.vm.method? m = some meth := X.method'
  refine ⟨T.setFrames fs, ?_, .returned (some (.int 1)), hrun, hended, rfl, ⟨_, rfl⟩, hW, hframe⟩
  jvm_step X.here [X.here.top, hx, hb, hdg, hmeth', hr, ret, narrow_b1]
  (try refine ⟨rfl, ?_⟩); (try refine ⟨rfl, ?_⟩)
  first | (intro acts; rw [hret _ acts rfl rfl rfl]) | rw [hret _ _ rfl rfl rfl]
  exact Steps.refl _
/-- what holds at the law's entry: the machine, the code, the tables' words (any of lw_tbl by 'hts w (by decide +kernel)'), the script of L ints xs at the cell b, what the Statement gives of the start (any of its parts by flat_of_before) -/
def lw_At (p : Program) (s : State) (m : MethodId) (meth : Method) (c : Code) (b L : Nat) (xs : Nat → Int32) : Prop :=
  p.tables.exec = Jvm.exec ∧ c.code = code ∧ meth.sig.returnType = ret ∧ c.maxLocals = 7 ∧ s.vm.findClass R_law = some m.cls ∧ (∀ w ∈ lw_tbl, w.before #[Value.ref b] s = true) ∧ va_X b L xs s s.heap ∧ b < s.heap.size ∧ meth.locks = false ∧ (Jvm.Cond.and given_1 narrow_1).before #[Value.ref b] s = true
theorem V_lwret {p : Program} {l : Launch} {e : Env} {s : State} {m : MethodId} {below : List Frame} {meth : Method} {c : Code} {G : GT} {b : Nat} (C : Cx p s m #[Value.ref b] meth c cL_law 7 RL ret G) (hG : G.2.2 = s.heap.size) {n cells slots : Nat} {h : AH} {L : List (Nat × Value)} (hc : cells ≤ 601024) (hs : slots ≤ 7293034) : V p l e room_1 s m #[Value.ref b] below meth c (lw_Z below #[Value.ref b] s) G 7 cells slots n h 2100 L [] := fun H locs ls h1 h2 h3 h4 => by
  refine lv_iconst (v := 1) C.1 C.2.1 dL_law_2100 (by decide) ?_
  refine va_forget (fun q hq => ?_) ?_
  · have hr : G.2.2 ≤ q.base := h3.2.2 q hq
    omega
  · refine W.widen hc hs ?_
    exact lw_ret C.1 C.2.1 C.2.2.2.2.2.2.1 C.2.2.2.2.2.2.2.1 dL_law_2101
theorem fl_st {l : Launch} (hf : l.flags = flags0) : l.stackTraces = false := by
  unfold Launch.stackTraces
  rw [hf]
  decide +kernel
theorem law_V {p : Program} {l : Launch} {e : Env} {s : State} {m : MethodId} {below : List Frame} {meth : Method} {c : Code} {G : GT} {b LL : Nat} {xs : Nat → Int32} (hl : l.stackTraces = false) (C : Cx p s m #[Value.ref b] meth c cL_law 7 RL ret G) (hG : G.2.2 = s.heap.size) (hX : va_X b LL xs s s.heap) (hbl : b < s.heap.size) (hLL : LL ≤ 2560) (x : Nat) : V p l e room_1 s m #[Value.ref b] below meth c (lw_Z below #[Value.ref b] s) G 7 0 0 x (fun _ => none) 0 [(0, .ref b)] [] := by
  have hb : b < s.heap.size ∧ ¬ rg G b := ⟨hbl, fun hr => by
    have hr : G.2.2 ≤ b := hr
    omega⟩
  refine V_new 3 C [.null, .null, .null, .null, .null, .null, .null] dL_law_0 rfl fcX9 tw20 tw21 tw1 (by decide +kernel) ⟨Nat.le_of_ble_eq_true rfl, Nat.le_of_ble_eq_true rfl⟩ ?_
  refine V_dup 4 C dL_law_3 rfl rfl ?_
  refine V_callIR 7 C dL_law_4 rfl rfl mX9_init tw22 (c_X9_init l G _ _ x rfl (up_s _ _ _)) rfl rfl ⟨Nat.le_of_ble_eq_true rfl, Nat.le_of_ble_eq_true rfl⟩ ⟨Nat.le_of_ble_eq_true rfl, Nat.le_of_ble_eq_true rfl⟩ (Nat.le_of_ble_eq_true rfl) ?_
  rintro _ _ h1 ⟨rfl, rfl, hS1, hF1⟩
  refine V_astore_n 8 C dL_law_7 rfl (by decide) (L' := [(0, _), (1, _)]) rfl ?_
  refine V_new 11 C [.int (nI 0), .null, .int (nI 0), .null, .null, .null, .int (nI 0), .null, .null, .null, .int (nI 0), .int (nI 0)] dL_law_8 rfl fcX10 tw927 tw928 tw9 (by decide +kernel) ⟨Nat.le_of_ble_eq_true rfl, Nat.le_of_ble_eq_true rfl⟩ ?_
  refine V_dup 12 C dL_law_11 rfl rfl ?_
  refine V_callIR 15 C dL_law_12 rfl rfl mX10_init tw929 (c_X10_init l G _ _ (x + 619) rfl (up_s _ _ _)) rfl rfl ⟨Nat.le_of_ble_eq_true rfl, Nat.le_of_ble_eq_true rfl⟩ ⟨Nat.le_of_ble_eq_true rfl, Nat.le_of_ble_eq_true rfl⟩ (Nat.le_of_ble_eq_true rfl) ?_
  rintro _ n2 h2 ⟨rfl, hn2, hM2, hF2⟩
  have hn2 : n2 = x + 627 := hn2
  subst hn2
  have hS2 := (hS1 (fun _ _ => 0) (fun _ _ => 0) (fun _ => 0)).fr (h' := h2) (fun a ha => (hF2 a (by omega)).trans (up_n _ (by omega)))
  refine V_astore_n 16 C dL_law_15 rfl (by decide) (L' := [(0, _), (1, _), (2, _)]) rfl ?_
  refine V_iconst 17 C dL_law_16 rfl ic1 ?_
  refine V_newarr 19 C 3 (1, .inr (.inl (fun _ => 0))) dL_law_17 rfl rfl tw1330 rfl (fun _ => rfl) (by decide) ⟨Nat.le_of_ble_eq_true rfl, Nat.le_of_ble_eq_true rfl⟩ ?_
  refine V_astore_n 20 C dL_law_19 rfl (by decide) (L' := [(0, _), (1, _), (2, _), (3, _)]) rfl ?_
  refine V_iconst 21 C dL_law_20 rfl ic0 ?_
  refine V_istore 23 C dL_law_21 rfl (by decide) (L' := LCL b x 0) rfl ?_
  exact law_loop hl C hX hb hLL (fun n h cells slots L q1 q2 => V_lwret C hG q1 q2) 513 0 0 rfl (by omega) (by omega) _ _ _ _ ⟨fun _ => 0, 0, fun _ _ => 0, fun _ _ => 0, fun _ => false, 0, fun _ => 0, nI 0, fun _ => 0, hS2.fr (fun a ha => up_n _ (by omega)), (hM2 (fun _ _ => 0) (fun _ _ => 0) (fun _ => 0)).fr (fun a g1 g2 => up_n _ (by omega)), ⟨Iv_0 (fun _ _ => rfl), by omega, fun i hi => absurd hi (Nat.not_lt_zero i), fun i hi hs => (by cases hs), by omega, fun i hi => absurd hi (Nat.not_lt_zero i)⟩, up_s _ _ _⟩ (by omega) (by omega)
