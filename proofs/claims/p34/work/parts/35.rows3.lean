/-! SWITCHES OVER NUMBERS -/
def nin (k : Nat) : List Nat → Prop
  | [] => True
  | j :: r => ¬ k = j ∧ nin k r
theorem nin_of {k : Nat} : ∀ {r : List Nat}, nin k r → ¬ k ∈ r
  | [], _ => by simp
  | j :: r, h => by
    intro hm
    rcases List.mem_cons.mp hm with e | e
    · exact h.1 e
    · exact nin_of h.2 e
section VSW
variable {p : Program} {l : Launch} {e : Env} {R : Room} {s : State} {m : MethodId} {args : Array Value} {below : List Frame} {meth : Method} {c : Code} {Q : State → Prop} {G : GT} {nL cells slots n : Nat} {h : AH} {pc : Nat} {L L' : List (Nat × Value)} {st st' : List Value} {cc : ByteArray} {own : String} {ret : Option FieldType}
theorem V_case (j : Nat) {k : Nat} (hy : k = j → V p l e R s m args below meth c Q G nL cells slots n h pc L (.int (nI k) :: st)) (hn : ¬ k = j → V p l e R s m args below meth c Q G nL cells slots n h pc L (.int (nI k) :: st)) : V p l e R s m args below meth c Q G nL cells slots n h pc L (.int (nI k) :: st) := by
  by_cases hk : k = j
  · exact hy hk
  · exact hn hk
theorem V_tsI (tgt : Nat) (C : Cx p s m args meth c cc nL own ret G) {dflt lo hi : Int} {offs : Array Int} {len : Nat} {off : Int} {k j : Nat} (d : decode cc pc = .ok (.tableswitch dflt lo hi offs, len)) (hk : k = j) (hj : j < 2 ^ 31) (ha : ¬ (j : Int) < lo) (hb : ¬ hi < (j : Int)) (ho : offs[((j : Int) - lo).toNat]? = some off) (ht : (pc : Int) + off = (tgt : Int)) (kk : V p l e R s m args below meth c Q G nL cells slots n h tgt L st) : V p l e R s m args below meth c Q G nL cells slots n h pc L (.int (nI k) :: st) := by
  subst hk
  have e1 := nI_toInt hj
  exact V_tableIn tgt C d (by rw [e1]; exact ha) (by rw [e1]; exact hb) (by rw [e1]; exact ho) ht kk
theorem V_tsD (tgt : Nat) (ls : List Nat) (C : Cx p s m args meth c cc nL own ret G) {dflt lo hi : Int} {offs : Array Int} {len : Nat} {k lo' : Nat} (d : decode cc pc = .ok (.tableswitch dflt lo hi offs, len)) (hlo : lo = (lo' : Int)) (hs : hi + 1 = lo + (offs.size : Int)) (hk : k < 2 ^ 31) (hn : nin k ls) (hd : (List.range offs.size).all (fun i => decide (lo' + i ∈ ls) || decide (offs[i]? = some dflt)) = true) (ht : (pc : Int) + dflt = (tgt : Int)) (kk : V p l e R s m args below meth c Q G nL cells slots n h tgt L st) : V p l e R s m args below meth c Q G nL cells slots n h pc L (.int (nI k) :: st) := by
  have e1 := nI_toInt hk
  by_cases hc : (k : Int) < lo ∨ hi < (k : Int)
  · exact V_tableOut tgt C d (by rw [e1]; exact hc) ht kk
  · have hi' : k - lo' < offs.size := by omega
    have := List.all_eq_true.mp hd (k - lo') (List.mem_range.mpr hi')
    rw [Bool.or_eq_true, decide_eq_true_eq, decide_eq_true_eq, show lo' + (k - lo') = k from by omega] at this
    have hz := this.resolve_left (nin_of hn)
    refine V_tableIn tgt C d (by rw [e1]; omega) (by rw [e1]; omega) ?_ ht kk
    rw [e1, show ((k : Int) - lo).toNat = k - lo' from by omega]
    exact hz
end VSW

