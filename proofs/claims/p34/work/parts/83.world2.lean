/-! THE WORLD AT THE LAW'S ENTRY: words, strings, statics -/
theorem world_S {args : Array Value} {s : State} (hgv : (Jvm.Cond.and given_1 narrow_1).before args s = true) : ∀ q ∈ strL, (Cond.exactly (.string RX9 q.1) "java/lang/String").before args s = true := by
  have hs := flat_of_before _ hgv
  exact List.forall_mem_cons.mpr ⟨hs (.exactly (.string RX9 322) "java/lang/String") (by decide +kernel), List.forall_mem_cons.mpr ⟨hs (.exactly (.string RX9 58) "java/lang/String") (by decide +kernel), List.forall_mem_cons.mpr ⟨hs (.exactly (.string RX9 74) "java/lang/String") (by decide +kernel), List.forall_mem_cons.mpr ⟨hs (.exactly (.string RX9 119) "java/lang/String") (by decide +kernel), List.forall_mem_cons.mpr ⟨hs (.exactly (.string RX9 315) "java/lang/String") (by decide +kernel), List.forall_mem_cons.mpr ⟨hs (.exactly (.string RX9 145) "java/lang/String") (by decide +kernel), List.forall_mem_cons.mpr ⟨hs (.exactly (.string RX9 169) "java/lang/String") (by decide +kernel), List.forall_mem_cons.mpr ⟨hs (.exactly (.string RX9 205) "java/lang/String") (by decide +kernel), List.forall_mem_cons.mpr ⟨hs (.exactly (.string RX9 324) "java/lang/String") (by decide +kernel), List.forall_mem_cons.mpr ⟨hs (.exactly (.string RX9 259) "java/lang/String") (by decide +kernel), List.forall_mem_cons.mpr ⟨hs (.exactly (.string RX9 290) "java/lang/String") (by decide +kernel), List.forall_mem_cons.mpr ⟨hs (.exactly (.string RX9 311) "java/lang/String") (by decide +kernel), fun _ h => absurd h List.not_mem_nil⟩⟩⟩⟩⟩⟩⟩⟩⟩⟩⟩⟩
theorem world_C {args : Array Value} {s : State} (hgv : (Jvm.Cond.and given_1 narrow_1).before args s = true) : ∀ q ∈ ncL, va_Nc q.1 q.2 s := by
  have hs := flat_of_before _ hgv
  exact List.forall_mem_cons.mpr ⟨va_Nc.of (hs (.not (.castable "java/lang/IndexOutOfBoundsException" "java/lang/IllegalStateException")) (by decide +kernel)), List.forall_mem_cons.mpr ⟨va_Nc.of (hs (.not (.castable "java/lang/IndexOutOfBoundsException" "java/lang/IllegalArgumentException")) (by decide +kernel)), List.forall_mem_cons.mpr ⟨va_Nc.of (hs (.not (.castable "java/lang/IllegalStateException" "java/lang/IndexOutOfBoundsException")) (by decide +kernel)), List.forall_mem_cons.mpr ⟨va_Nc.of (hs (.not (.castable "java/lang/IllegalStateException" "java/lang/IllegalArgumentException")) (by decide +kernel)), List.forall_mem_cons.mpr ⟨va_Nc.of (hs (.not (.castable "java/lang/IllegalArgumentException" "java/lang/IndexOutOfBoundsException")) (by decide +kernel)), List.forall_mem_cons.mpr ⟨va_Nc.of (hs (.not (.castable "java/lang/IllegalArgumentException" "java/lang/IllegalStateException")) (by decide +kernel)), fun _ h => absurd h List.not_mem_nil⟩⟩⟩⟩⟩⟩
theorem world_N {args : Array Value} {s : State} (hts : ∀ w ∈ lw_tbl, w.before args s = true) (hgv : (Jvm.Cond.and given_1 narrow_1).before args s = true) : NX s := by
  refine ⟨fun q hq => ?_, fun C hC => ?_, fun q hq => ?_, fun w hw => ?_, world_C hgv⟩
  · have hm : Cond.methodLinkNest q.1 q.2.1 q.2.2.1 q.2.2.2 ∈ lw_tbl := of_decide_eq_true (List.all_eq_true.mp (show nstL.all (fun q => decide (Cond.methodLinkNest q.1 q.2.1 q.2.2.1 q.2.2.2 ∈ lw_tbl)) = true from by decide +kernel) q hq)
    exact va_tabs rfl rfl (hts _ hm)
  · have hm : Cond.arrayOver (.object C) ∈ lw_tbl := of_decide_eq_true (List.all_eq_true.mp (show [RX1, RX5, RX6, RX8].all (fun C => decide (Cond.arrayOver (.object C) ∈ lw_tbl)) = true from by decide +kernel) C hC)
    exact va_AO.of (hts _ hm)
  · have hm : Cond.stringRef RX9 q.1 q.2 ∈ lw_tbl := of_decide_eq_true (List.all_eq_true.mp (show strL.all (fun q => decide (Cond.stringRef RX9 q.1 q.2 ∈ lw_tbl)) = true from by decide +kernel) q hq)
    obtain ⟨a, c, cA, kA, q1, -⟩ := Cond.exactly_spec (args := args) (first := s) (o := none) (s := s) (idx := []) (world_S hgv q hq)
    exact ⟨a, vk_R.of (hts _ hm) q1⟩
  · have hm : w ∈ lw_tbl := of_decide_eq_true (List.all_eq_true.mp (show xwL.all (fun w => decide (w ∈ lw_tbl)) = true from by decide +kernel) w hw)
    exact va_tabs (xw_kinds w hw).2 rfl (hts _ hm)
theorem world_Z {args : Array Value} {s : State} (hts : ∀ w ∈ lw_tbl, w.before args s = true) (hgv : (Jvm.Cond.and given_1 narrow_1).before args s = true) {G : GT} (hG : G.2.2 = s.heap.size) : ZW G s s.heap := by
  have hs := flat_of_before _ hgv
  have hA : ∀ a : Nat, a < s.heap.size → ¬ rg G a := fun a ha hr => by
    have hr : G.2.2 ≤ a := hr
    omega
  exact ⟨vx_Zqof (hts (.laysStatic Bundle.tN "UNASSIGNED_STACK" Bundle.steD) (by decide +kernel)) (hts (.initialized Bundle.tN) (by decide +kernel)) (hs (.isRef (.static Bundle.tN "UNASSIGNED_STACK" Bundle.steD)) (by decide +kernel)) hA, vx_Zqof (hts (.laysStatic Bundle.tN "SUPPRESSED_SENTINEL" Bundle.listD) (by decide +kernel)) (hts (.initialized Bundle.tN) (by decide +kernel)) (hs (.isRef (.static Bundle.tN "SUPPRESSED_SENTINEL" Bundle.listD)) (by decide +kernel)) hA⟩

