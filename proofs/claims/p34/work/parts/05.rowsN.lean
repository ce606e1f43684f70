def bp (P : Prop) [Decidable P] : Nat := if P then 1 else 0
theorem bp_t {P : Prop} [Decidable P] (h : P) : bp P = 1 := if_pos h
theorem bp_f {P : Prop} [Decidable P] (h : ¬ P) : bp P = 0 := if_neg h
theorem bp_le {P : Prop} [Decidable P] : bp P ≤ 1 := by unfold bp; split <;> omega
theorem bp_0 {P : Prop} [Decidable P] : bp P = 0 ↔ ¬ P := by unfold bp; split <;> simp_all
theorem bp_1 {P : Prop} [Decidable P] : bp P ≠ 0 ↔ P := by unfold bp; split <;> simp_all
theorem bp_c {P P' : Prop} [Decidable P] [Decidable P'] (h : P ↔ P') : bp P = bp P' := by unfold bp; simp only [h]
theorem nI32 {a b : Nat} (ha : a < 2 ^ 32) (hb : b < 2 ^ 32) : nI a = nI b ↔ a = b := by
  constructor
  · intro h
    have h1 := congrArg (fun z : Int32 => z.toBitVec.toNat) h
    simp only [pk_tn ha, pk_tn hb] at h1
    exact h1
  · intro h; rw [h]
/-- answers: a number, everything else as it was -/
def Rt (r : Int32) (n : Nat) (h : AH) : Option Value → Nat → AH → Prop := fun v n' h' => v = some (.int r) ∧ n = n' ∧ h = h'
def Rl (r : Int64) (n : Nat) (h : AH) : Option Value → Nat → AH → Prop := fun v n' h' => v = some (.long r) ∧ n = n' ∧ h = h'
def Rv (n : Nat) (X : AH → Prop) : Option Value → Nat → AH → Prop := fun v n' h' => v = none ∧ n = n' ∧ X h'
def Ri (r : Int32) (n : Nat) (X : AH → Prop) : Option Value → Nat → AH → Prop := fun v n' h' => v = some (.int r) ∧ n = n' ∧ X h'
theorem Rt_mk {a b : Nat} {n : Nat} {h : AH} (e : a = b) : Rt (nI b) n h (some (.int (nI a))) n h := ⟨by rw [e], rfl, rfl⟩
theorem Rt_mk32 {a b : Int32} {n : Nat} {h : AH} (e : a = b) : Rt b n h (some (.int a)) n h := ⟨by rw [e], rfl, rfl⟩
theorem Ri_mk {a b : Nat} {n : Nat} {h : AH} {X : AH → Prop} (e : a = b) (hx : X h) : Ri (nI b) n X (some (.int (nI a))) n h := ⟨by rw [e], rfl, hx⟩
theorem nar_b (P : Prop) [Decidable P] : narrow .boolean (.int (nI (bp P))) = .int (nI (bp P)) := by unfold bp; split <;> decide
theorem nar_0 : narrow .boolean (.int (nI 0)) = .int (nI 0) := by decide
theorem nar_1 : narrow .boolean (.int (nI 1)) = .int (nI 1) := by decide
theorem ii1 (i : Nat) : nI i + Int32.ofInt 1 = nI (i + 1) := by rw [show Int32.ofInt 1 = (1 : Int32) from by decide]; exact nI_1 i
theorem iim1 (i : Nat) : nI (i + 1) + Int32.ofInt (-1) = nI i := by rw [show Int32.ofInt (-1) = (-1 : Int32) from by decide]; exact pk_m1 i
theorem icm1 : Int32.ofInt (-1) = nI 4294967295 := by decide
theorem ic0 : Int32.ofInt 0 = nI 0 := by decide
theorem ic1 : Int32.ofInt 1 = nI 1 := by decide
theorem ic2 : Int32.ofInt 2 = nI 2 := by decide
theorem ic3 : Int32.ofInt 3 = nI 3 := by decide
theorem ic4 : Int32.ofInt 4 = nI 4 := by decide
theorem ic5 : Int32.ofInt 5 = nI 5 := by decide
theorem bip6 : (Int8.ofInt 6).toInt32 = nI 6 := by decide
theorem bip7 : (Int8.ofInt 7).toInt32 = nI 7 := by decide
theorem bip8 : (Int8.ofInt 8).toInt32 = nI 8 := by decide
theorem bip9 : (Int8.ofInt 9).toInt32 = nI 9 := by decide
theorem bip10 : (Int8.ofInt 10).toInt32 = nI 10 := by decide
theorem bip11 : (Int8.ofInt 11).toInt32 = nI 11 := by decide
theorem bip12 : (Int8.ofInt 12).toInt32 = nI 12 := by decide
theorem bip13 : (Int8.ofInt 13).toInt32 = nI 13 := by decide
theorem bip14 : (Int8.ofInt 14).toInt32 = nI 14 := by decide
theorem bip15 : (Int8.ofInt 15).toInt32 = nI 15 := by decide
theorem bip16 : (Int8.ofInt 16).toInt32 = nI 16 := by decide
theorem bip19 : (Int8.ofInt 19).toInt32 = nI 19 := by decide
theorem bip20 : (Int8.ofInt 20).toInt32 = nI 20 := by decide
theorem bip29 : (Int8.ofInt 29).toInt32 = nI 29 := by decide
theorem bip30 : (Int8.ofInt 30).toInt32 = nI 30 := by decide
theorem bip31 : (Int8.ofInt 31).toInt32 = nI 31 := by decide
theorem bip32 : (Int8.ofInt 32).toInt32 = nI 32 := by decide
theorem bip33 : (Int8.ofInt 33).toInt32 = nI 33 := by decide
theorem bip35 : (Int8.ofInt 35).toInt32 = nI 35 := by decide
theorem bip37 : (Int8.ofInt 37).toInt32 = nI 37 := by decide
theorem bip40 : (Int8.ofInt 40).toInt32 = nI 40 := by decide
theorem bip48 : (Int8.ofInt 48).toInt32 = nI 48 := by decide
theorem bip49 : (Int8.ofInt 49).toInt32 = nI 49 := by decide
theorem bip50 : (Int8.ofInt 50).toInt32 = nI 50 := by decide
theorem bip51 : (Int8.ofInt 51).toInt32 = nI 51 := by decide
theorem bip52 : (Int8.ofInt 52).toInt32 = nI 52 := by decide
theorem bip53 : (Int8.ofInt 53).toInt32 = nI 53 := by decide
theorem bip54 : (Int8.ofInt 54).toInt32 = nI 54 := by decide
theorem bip55 : (Int8.ofInt 55).toInt32 = nI 55 := by decide
theorem bip56 : (Int8.ofInt 56).toInt32 = nI 56 := by decide
theorem bip57 : (Int8.ofInt 57).toInt32 = nI 57 := by decide
theorem bip58 : (Int8.ofInt 58).toInt32 = nI 58 := by decide
theorem bip60 : (Int8.ofInt 60).toInt32 = nI 60 := by decide
theorem bip63 : (Int8.ofInt 63).toInt32 = nI 63 := by decide
theorem bip64 : (Int8.ofInt 64).toInt32 = nI 64 := by decide
theorem bip70 : (Int8.ofInt 70).toInt32 = nI 70 := by decide
theorem bip99 : (Int8.ofInt 99).toInt32 = nI 99 := by decide
theorem bip100 : (Int8.ofInt 100).toInt32 = nI 100 := by decide
theorem bip103 : (Int8.ofInt 103).toInt32 = nI 103 := by decide
theorem bip104 : (Int8.ofInt 104).toInt32 = nI 104 := by decide
theorem bip105 : (Int8.ofInt 105).toInt32 = nI 105 := by decide
theorem bip107 : (Int8.ofInt 107).toInt32 = nI 107 := by decide
theorem bip108 : (Int8.ofInt 108).toInt32 = nI 108 := by decide
theorem bip114 : (Int8.ofInt 114).toInt32 = nI 114 := by decide
theorem bip116 : (Int8.ofInt 116).toInt32 = nI 116 := by decide
theorem bip117 : (Int8.ofInt 117).toInt32 = nI 117 := by decide
theorem bip119 : (Int8.ofInt 119).toInt32 = nI 119 := by decide
theorem bip120 : (Int8.ofInt 120).toInt32 = nI 120 := by decide
theorem bipm2 : (Int8.ofInt (-2)).toInt32 = nI 4294967294 := by decide
theorem bipm3 : (Int8.ofInt (-3)).toInt32 = nI 4294967293 := by decide
theorem bipm4 : (Int8.ofInt (-4)).toInt32 = nI 4294967292 := by decide
theorem sip130 : (Int16.ofInt 130).toInt32 = nI 130 := by decide
theorem sip200 : (Int16.ofInt 200).toInt32 = nI 200 := by decide
theorem sip255 : (Int16.ofInt 255).toInt32 = nI 255 := by decide
theorem sip256 : (Int16.ofInt 256).toInt32 = nI 256 := by decide
theorem sip260 : (Int16.ofInt 260).toInt32 = nI 260 := by decide
theorem sip512 : (Int16.ofInt 512).toInt32 = nI 512 := by decide
theorem sip1000 : (Int16.ofInt 1000).toInt32 = nI 1000 := by decide
theorem sip10000 : (Int16.ofInt 10000).toInt32 = nI 10000 := by decide
theorem sip100 : (Int16.ofInt 100).toInt32 = nI 100 := by decide
theorem sip120 : (Int16.ofInt 120).toInt32 = nI 120 := by decide
theorem sip1820 : (Int16.ofInt 1820).toInt32 = nI 1820 := by decide
theorem sip1690 : (Int16.ofInt 1690).toInt32 = nI 1690 := by decide
section VROWSN
variable {p : Program} {l : Launch} {e : Env} {R : Room} {s : State} {m : MethodId} {args : Array Value} {below : List Frame} {meth : Method} {c : Code} {Q : State → Prop} {G : GT} {nL cells slots n : Nat} {h : AH} {pc : Nat} {L L' : List (Nat × Value)} {st st' : List Value} {cc : ByteArray} {own : String} {ret : Option FieldType}
theorem V_iaddN (pc' : Nat) (C : Cx p s m args meth c cc nL own ret G) {a b : Nat} (d : decode cc pc = .ok (.iadd, 1)) (hp : pc + 1 = pc')  (kk : V p l e R s m args below meth c Q G nL cells slots n h pc' L (.int (nI (a + b)) :: st)) : V p l e R s m args below meth c Q G nL cells slots n h pc L (.int (nI b) :: .int (nI a) :: st) := V_iadd pc' C d hp  (by rw [nI_add]; exact kk)
theorem V_imulN (pc' : Nat) (C : Cx p s m args meth c cc nL own ret G) {a b : Nat} (d : decode cc pc = .ok (.imul, 1)) (hp : pc + 1 = pc')  (kk : V p l e R s m args below meth c Q G nL cells slots n h pc' L (.int (nI (a * b)) :: st)) : V p l e R s m args below meth c Q G nL cells slots n h pc L (.int (nI b) :: .int (nI a) :: st) := V_imul pc' C d hp  (by rw [pk_mul]; exact kk)
theorem V_isubN (pc' : Nat) (C : Cx p s m args meth c cc nL own ret G) {a b : Nat} (d : decode cc pc = .ok (.isub, 1)) (hp : pc + 1 = pc') (hba : b ≤ a) (kk : V p l e R s m args below meth c Q G nL cells slots n h pc' L (.int (nI (a - b)) :: st)) : V p l e R s m args below meth c Q G nL cells slots n h pc L (.int (nI b) :: .int (nI a) :: st) := V_isub pc' C d hp  (by rw [pk_sub hba]; exact kk)
theorem V_idivN (pc' : Nat) (C : Cx p s m args meth c cc nL own ret G) {a b : Nat} (d : decode cc pc = .ok (.idiv, 1)) (hp : pc + 1 = pc') (ha : a < 2 ^ 31) (h0 : 0 < b) (hb : b < 2 ^ 31) (kk : V p l e R s m args below meth c Q G nL cells slots n h pc' L (.int (nI (a / b)) :: st)) : V p l e R s m args below meth c Q G nL cells slots n h pc L (.int (nI b) :: .int (nI a) :: st) := V_idiv pc' C d hp (nI_ne0 h0 hb) (by rw [pk_div ha h0 hb]; exact kk)
theorem V_iremN (pc' : Nat) (C : Cx p s m args meth c cc nL own ret G) {a b : Nat} (d : decode cc pc = .ok (.irem, 1)) (hp : pc + 1 = pc') (ha : a < 2 ^ 31) (h0 : 0 < b) (hb : b < 2 ^ 31) (kk : V p l e R s m args below meth c Q G nL cells slots n h pc' L (.int (nI (a % b)) :: st)) : V p l e R s m args below meth c Q G nL cells slots n h pc L (.int (nI b) :: .int (nI a) :: st) := V_irem pc' C d hp (nI_ne0 h0 hb) (by rw [pk_rem ha h0 hb]; exact kk)
theorem V_icmp_ltN (tgt pc' : Nat) (C : Cx p s m args meth c cc nL own ret G) {a b : Nat} {off : Int} (d : decode cc pc = .ok (.if_icmp .lt off, 3)) (ht : (pc : Int) + off = (tgt : Int)) (hp : pc + 3 = pc') (ha : a < 2 ^ 31) (hb : b < 2 ^ 31) (kt : a < b → V p l e R s m args below meth c Q G nL cells slots n h tgt L st) (kf : b ≤ a → V p l e R s m args below meth c Q G nL cells slots n h pc' L st) : V p l e R s m args below meth c Q G nL cells slots n h pc L (.int (nI b) :: .int (nI a) :: st) := V_icmp_lt tgt pc' C d ht hp (fun z => kt (by simp only [nI_leI ha hb, nI_leI hb ha, nI_ltI ha hb, nI_ltI hb ha] at z; omega)) (fun z => kf (by simp only [nI_leI ha hb, nI_leI hb ha, nI_ltI ha hb, nI_ltI hb ha] at z; omega))
theorem V_icmp_geN (tgt pc' : Nat) (C : Cx p s m args meth c cc nL own ret G) {a b : Nat} {off : Int} (d : decode cc pc = .ok (.if_icmp .ge off, 3)) (ht : (pc : Int) + off = (tgt : Int)) (hp : pc + 3 = pc') (ha : a < 2 ^ 31) (hb : b < 2 ^ 31) (kt : b ≤ a → V p l e R s m args below meth c Q G nL cells slots n h tgt L st) (kf : a < b → V p l e R s m args below meth c Q G nL cells slots n h pc' L st) : V p l e R s m args below meth c Q G nL cells slots n h pc L (.int (nI b) :: .int (nI a) :: st) := V_icmp_ge tgt pc' C d ht hp (fun z => kt (by simp only [nI_leI ha hb, nI_leI hb ha, nI_ltI ha hb, nI_ltI hb ha] at z; omega)) (fun z => kf (by simp only [nI_leI ha hb, nI_leI hb ha, nI_ltI ha hb, nI_ltI hb ha] at z; omega))
theorem V_icmp_gtN (tgt pc' : Nat) (C : Cx p s m args meth c cc nL own ret G) {a b : Nat} {off : Int} (d : decode cc pc = .ok (.if_icmp .gt off, 3)) (ht : (pc : Int) + off = (tgt : Int)) (hp : pc + 3 = pc') (ha : a < 2 ^ 31) (hb : b < 2 ^ 31) (kt : b < a → V p l e R s m args below meth c Q G nL cells slots n h tgt L st) (kf : a ≤ b → V p l e R s m args below meth c Q G nL cells slots n h pc' L st) : V p l e R s m args below meth c Q G nL cells slots n h pc L (.int (nI b) :: .int (nI a) :: st) := V_icmp_gt tgt pc' C d ht hp (fun z => kt (by simp only [nI_leI ha hb, nI_leI hb ha, nI_ltI ha hb, nI_ltI hb ha] at z; omega)) (fun z => kf (by simp only [nI_leI ha hb, nI_leI hb ha, nI_ltI ha hb, nI_ltI hb ha] at z; omega))
theorem V_icmp_leN (tgt pc' : Nat) (C : Cx p s m args meth c cc nL own ret G) {a b : Nat} {off : Int} (d : decode cc pc = .ok (.if_icmp .le off, 3)) (ht : (pc : Int) + off = (tgt : Int)) (hp : pc + 3 = pc') (ha : a < 2 ^ 31) (hb : b < 2 ^ 31) (kt : a ≤ b → V p l e R s m args below meth c Q G nL cells slots n h tgt L st) (kf : b < a → V p l e R s m args below meth c Q G nL cells slots n h pc' L st) : V p l e R s m args below meth c Q G nL cells slots n h pc L (.int (nI b) :: .int (nI a) :: st) := V_icmp_le tgt pc' C d ht hp (fun z => kt (by simp only [nI_leI ha hb, nI_leI hb ha, nI_ltI ha hb, nI_ltI hb ha] at z; omega)) (fun z => kf (by simp only [nI_leI ha hb, nI_leI hb ha, nI_ltI ha hb, nI_ltI hb ha] at z; omega))
theorem V_icmp_eqN (tgt pc' : Nat) (C : Cx p s m args meth c cc nL own ret G) {a b : Nat} {off : Int} (d : decode cc pc = .ok (.if_icmp .eq off, 3)) (ht : (pc : Int) + off = (tgt : Int)) (hp : pc + 3 = pc') (ha : a < 2 ^ 32) (hb : b < 2 ^ 32) (kt : a = b → V p l e R s m args below meth c Q G nL cells slots n h tgt L st) (kf : ¬ a = b → V p l e R s m args below meth c Q G nL cells slots n h pc' L st) : V p l e R s m args below meth c Q G nL cells slots n h pc L (.int (nI b) :: .int (nI a) :: st) := V_icmp_eq tgt pc' C d ht hp (fun z => kt (by rw [nI32 ha hb] at z; exact z)) (fun z => kf (by rw [nI32 ha hb] at z; exact z))
theorem V_if_eqN (tgt pc' : Nat) (C : Cx p s m args meth c cc nL own ret G) {a : Nat} {off : Int} (d : decode cc pc = .ok (.ifCond .eq off, 3)) (ht : (pc : Int) + off = (tgt : Int)) (hp : pc + 3 = pc') (ha : a < 2 ^ 32) (kt : a = 0 → V p l e R s m args below meth c Q G nL cells slots n h tgt L st) (kf : ¬ a = 0 → V p l e R s m args below meth c Q G nL cells slots n h pc' L st) : V p l e R s m args below meth c Q G nL cells slots n h pc L (.int (nI a) :: st) := V_if_eq tgt pc' C d ht hp (fun z => kt (by rw [← nI_0, nI32 ha (by decide)] at z; exact z)) (fun z => kf (by rw [← nI_0, nI32 ha (by decide)] at z; exact z))
theorem V_icmp_neN (tgt pc' : Nat) (C : Cx p s m args meth c cc nL own ret G) {a b : Nat} {off : Int} (d : decode cc pc = .ok (.if_icmp .ne off, 3)) (ht : (pc : Int) + off = (tgt : Int)) (hp : pc + 3 = pc') (ha : a < 2 ^ 32) (hb : b < 2 ^ 32) (kt : ¬ a = b → V p l e R s m args below meth c Q G nL cells slots n h tgt L st) (kf : a = b → V p l e R s m args below meth c Q G nL cells slots n h pc' L st) : V p l e R s m args below meth c Q G nL cells slots n h pc L (.int (nI b) :: .int (nI a) :: st) := V_icmp_ne tgt pc' C d ht hp (fun z => kt (by rw [nI32 ha hb] at z; exact z)) (fun z => kf (by rw [nI32 ha hb] at z; exact z))
theorem V_if_neN (tgt pc' : Nat) (C : Cx p s m args meth c cc nL own ret G) {a : Nat} {off : Int} (d : decode cc pc = .ok (.ifCond .ne off, 3)) (ht : (pc : Int) + off = (tgt : Int)) (hp : pc + 3 = pc') (ha : a < 2 ^ 32) (kt : ¬ a = 0 → V p l e R s m args below meth c Q G nL cells slots n h tgt L st) (kf : a = 0 → V p l e R s m args below meth c Q G nL cells slots n h pc' L st) : V p l e R s m args below meth c Q G nL cells slots n h pc L (.int (nI a) :: st) := V_if_ne tgt pc' C d ht hp (fun z => kt (by rw [← nI_0, nI32 ha (by decide)] at z; exact z)) (fun z => kf (by rw [← nI_0, nI32 ha (by decide)] at z; exact z))
theorem V_if_eqB (tgt pc' : Nat) (C : Cx p s m args meth c cc nL own ret G) {P : Prop} [Decidable P] {off : Int} (d : decode cc pc = .ok (.ifCond .eq off, 3)) (ht : (pc : Int) + off = (tgt : Int)) (hp : pc + 3 = pc') (kt : ¬ P → V p l e R s m args below meth c Q G nL cells slots n h tgt L st) (kf : P → V p l e R s m args below meth c Q G nL cells slots n h pc' L st) : V p l e R s m args below meth c Q G nL cells slots n h pc L (.int (nI (bp P)) :: st) := V_if_eqN tgt pc' C d ht hp (Nat.lt_of_le_of_lt bp_le (by decide)) (fun z => kt (by first | exact bp_0.mp z | exact bp_1.mp z)) (fun z => kf (by first | exact bp_0.mp z | exact bp_1.mp z))
theorem V_if_neB (tgt pc' : Nat) (C : Cx p s m args meth c cc nL own ret G) {P : Prop} [Decidable P] {off : Int} (d : decode cc pc = .ok (.ifCond .ne off, 3)) (ht : (pc : Int) + off = (tgt : Int)) (hp : pc + 3 = pc') (kt : P → V p l e R s m args below meth c Q G nL cells slots n h tgt L st) (kf : ¬ P → V p l e R s m args below meth c Q G nL cells slots n h pc' L st) : V p l e R s m args below meth c Q G nL cells slots n h pc L (.int (nI (bp P)) :: st) := V_if_neN tgt pc' C d ht hp (Nat.lt_of_le_of_lt bp_le (by decide)) (fun z => kt (by first | exact bp_0.mp z | exact bp_1.mp z)) (fun z => kf (by first | exact bp_0.mp z | exact bp_1.mp z))
theorem V_if_ltN (tgt pc' : Nat) (C : Cx p s m args meth c cc nL own ret G) {a : Nat} {off : Int} (d : decode cc pc = .ok (.ifCond .lt off, 3)) (ht : (pc : Int) + off = (tgt : Int)) (hp : pc + 3 = pc') (ha : a < 2 ^ 31) (kt : False → V p l e R s m args below meth c Q G nL cells slots n h tgt L st) (kf : True → V p l e R s m args below meth c Q G nL cells slots n h pc' L st) : V p l e R s m args below meth c Q G nL cells slots n h pc L (.int (nI a) :: st) := V_if_lt tgt pc' C d ht hp (fun z => kt (by rw [← nI_0] at z; simp only [nI_leI ha (show 0 < 2 ^ 31 by decide), nI_leI (show 0 < 2 ^ 31 by decide) ha, nI_ltI ha (show 0 < 2 ^ 31 by decide), nI_ltI (show 0 < 2 ^ 31 by decide) ha] at z; first | trivial | omega)) (fun z => kf (by rw [← nI_0] at z; simp only [nI_leI ha (show 0 < 2 ^ 31 by decide), nI_leI (show 0 < 2 ^ 31 by decide) ha, nI_ltI ha (show 0 < 2 ^ 31 by decide), nI_ltI (show 0 < 2 ^ 31 by decide) ha] at z; first | trivial | omega))
theorem V_if_geN (tgt pc' : Nat) (C : Cx p s m args meth c cc nL own ret G) {a : Nat} {off : Int} (d : decode cc pc = .ok (.ifCond .ge off, 3)) (ht : (pc : Int) + off = (tgt : Int)) (hp : pc + 3 = pc') (ha : a < 2 ^ 31) (kt : True → V p l e R s m args below meth c Q G nL cells slots n h tgt L st) (kf : False → V p l e R s m args below meth c Q G nL cells slots n h pc' L st) : V p l e R s m args below meth c Q G nL cells slots n h pc L (.int (nI a) :: st) := V_if_ge tgt pc' C d ht hp (fun z => kt (by rw [← nI_0] at z; simp only [nI_leI ha (show 0 < 2 ^ 31 by decide), nI_leI (show 0 < 2 ^ 31 by decide) ha, nI_ltI ha (show 0 < 2 ^ 31 by decide), nI_ltI (show 0 < 2 ^ 31 by decide) ha] at z; first | trivial | omega)) (fun z => kf (by rw [← nI_0] at z; simp only [nI_leI ha (show 0 < 2 ^ 31 by decide), nI_leI (show 0 < 2 ^ 31 by decide) ha, nI_ltI ha (show 0 < 2 ^ 31 by decide), nI_ltI (show 0 < 2 ^ 31 by decide) ha] at z; first | trivial | omega))
theorem V_if_gtN (tgt pc' : Nat) (C : Cx p s m args meth c cc nL own ret G) {a : Nat} {off : Int} (d : decode cc pc = .ok (.ifCond .gt off, 3)) (ht : (pc : Int) + off = (tgt : Int)) (hp : pc + 3 = pc') (ha : a < 2 ^ 31) (kt : 0 < a → V p l e R s m args below meth c Q G nL cells slots n h tgt L st) (kf : a = 0 → V p l e R s m args below meth c Q G nL cells slots n h pc' L st) : V p l e R s m args below meth c Q G nL cells slots n h pc L (.int (nI a) :: st) := V_if_gt tgt pc' C d ht hp (fun z => kt (by rw [← nI_0] at z; simp only [nI_leI ha (show 0 < 2 ^ 31 by decide), nI_leI (show 0 < 2 ^ 31 by decide) ha, nI_ltI ha (show 0 < 2 ^ 31 by decide), nI_ltI (show 0 < 2 ^ 31 by decide) ha] at z; first | trivial | omega)) (fun z => kf (by rw [← nI_0] at z; simp only [nI_leI ha (show 0 < 2 ^ 31 by decide), nI_leI (show 0 < 2 ^ 31 by decide) ha, nI_ltI ha (show 0 < 2 ^ 31 by decide), nI_ltI (show 0 < 2 ^ 31 by decide) ha] at z; first | trivial | omega))
theorem V_if_leN (tgt pc' : Nat) (C : Cx p s m args meth c cc nL own ret G) {a : Nat} {off : Int} (d : decode cc pc = .ok (.ifCond .le off, 3)) (ht : (pc : Int) + off = (tgt : Int)) (hp : pc + 3 = pc') (ha : a < 2 ^ 31) (kt : a = 0 → V p l e R s m args below meth c Q G nL cells slots n h tgt L st) (kf : 0 < a → V p l e R s m args below meth c Q G nL cells slots n h pc' L st) : V p l e R s m args below meth c Q G nL cells slots n h pc L (.int (nI a) :: st) := V_if_le tgt pc' C d ht hp (fun z => kt (by rw [← nI_0] at z; simp only [nI_leI ha (show 0 < 2 ^ 31 by decide), nI_leI (show 0 < 2 ^ 31 by decide) ha, nI_ltI ha (show 0 < 2 ^ 31 by decide), nI_ltI (show 0 < 2 ^ 31 by decide) ha] at z; first | trivial | omega)) (fun z => kf (by rw [← nI_0] at z; simp only [nI_leI ha (show 0 < 2 ^ 31 by decide), nI_leI (show 0 < 2 ^ 31 by decide) ha, nI_ltI ha (show 0 < 2 ^ 31 by decide), nI_ltI (show 0 < 2 ^ 31 by decide) ha] at z; first | trivial | omega))
end VROWSN

