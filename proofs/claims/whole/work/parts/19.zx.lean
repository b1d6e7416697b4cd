theorem st_ex {args : Array Value} {s : State} {k : Nat} {tx : String} (h1 : (Cond.stringRef RX0 k tx).before args s = true) (h2 : (Cond.exactly (.string RX0 k) "java/lang/String").before args s = true) : ∃ a, vk_R RX0 k tx a s := by
  obtain ⟨a, c, cA, kA, q1, -⟩ := Cond.exactly_spec (args := args) (first := s) (o := none) (s := s) (idx := []) (t := .string RX0 k) (cls := "java/lang/String") h2
  refine ⟨a, vk_R.of h1 q1⟩
set_option maxHeartbeats 1000000 in
set_option maxRecDepth 20000 in
theorem st_zs {b : Nat} {s : State} (h : ∀ w ∈ lw_tbl, w.before #[Value.ref b] s = true) (hg : (Jvm.Cond.and given_1 narrow_1).before #[Value.ref b] s = true) : zs s := by
  have g := flat_of_before _ hg
  refine ⟨?_, ?_, ?_, ?_⟩
  · intro q hq
    unfold zT at hq
    rcases List.mem_cons.mp hq with rfl | hq
    · exact st_ex (h _ (List.mem_of_getElem? (i := 151) (by decide +kernel))) (g _ (by decide +kernel))
    rcases List.mem_cons.mp hq with rfl | hq
    · exact st_ex (h _ (List.mem_of_getElem? (i := 161) (by decide +kernel))) (g _ (by decide +kernel))
    rcases List.mem_cons.mp hq with rfl | hq
    · exact st_ex (h _ (List.mem_of_getElem? (i := 214) (by decide +kernel))) (g _ (by decide +kernel))
    rcases List.mem_cons.mp hq with rfl | hq
    · exact st_ex (h _ (List.mem_of_getElem? (i := 124) (by decide +kernel))) (g _ (by decide +kernel))
    rcases List.mem_cons.mp hq with rfl | hq
    · exact st_ex (h _ (List.mem_of_getElem? (i := 178) (by decide +kernel))) (g _ (by decide +kernel))
    rcases List.mem_cons.mp hq with rfl | hq
    · exact st_ex (h _ (List.mem_of_getElem? (i := 183) (by decide +kernel))) (g _ (by decide +kernel))
    rcases List.mem_cons.mp hq with rfl | hq
    · exact st_ex (h _ (List.mem_of_getElem? (i := 200) (by decide +kernel))) (g _ (by decide +kernel))
    cases hq
  · intro E hE
    unfold zE at hE
    rcases List.mem_cons.mp hE with rfl | hE
    · exact va_Nw.of rfl (h _ (List.mem_of_getElem? (i := 84) (by decide +kernel)))
    rcases List.mem_cons.mp hE with rfl | hE
    · exact va_Nw.of rfl (h _ (List.mem_of_getElem? (i := 154) (by decide +kernel)))
    rcases List.mem_cons.mp hE with rfl | hE
    · exact va_Nw.of rfl (h _ (List.mem_of_getElem? (i := 207) (by decide +kernel)))
    rcases List.mem_cons.mp hE with rfl | hE
    · exact va_Nw.of rfl (h _ (List.mem_of_getElem? (i := 260) (by decide +kernel)))
    cases hE
  · intro Y hY
    unfold zY at hY
    rcases List.mem_cons.mp hY with rfl | hY
    · exact va_Nw.of rfl (h _ (List.mem_of_getElem? (i := 86) (by decide +kernel)))
    rcases List.mem_cons.mp hY with rfl | hY
    · exact va_Nw.of rfl (h _ (List.mem_of_getElem? (i := 88) (by decide +kernel)))
    rcases List.mem_cons.mp hY with rfl | hY
    · exact va_Nw.of rfl (h _ (List.mem_of_getElem? (i := 90) (by decide +kernel)))
    cases hY
  · intro q hq
    unfold zN at hq
    rcases List.mem_cons.mp hq with rfl | hq
    · exact va_Nc.of (g _ (by decide +kernel))
    rcases List.mem_cons.mp hq with rfl | hq
    · exact va_Nc.of (g _ (by decide +kernel))
    rcases List.mem_cons.mp hq with rfl | hq
    · exact va_Nc.of (g _ (by decide +kernel))
    cases hq
set_option maxRecDepth 20000 in
theorem st_zx {b : Nat} {s : State} {A : Nat → Prop} (h : ∀ w ∈ lw_tbl, w.before #[Value.ref b] s = true) (hg : (Jvm.Cond.and given_1 narrow_1).before #[Value.ref b] s = true) (hA : ∀ a : Nat, a < s.heap.size → ¬ A a) : zx A s s.heap := by
  have g := flat_of_before _ hg
  refine ⟨vx_Zqof (h _ (List.mem_of_getElem? (i := 109) (by decide +kernel))) (h _ (List.mem_of_getElem? (i := 14) (by decide +kernel))) (g (.isRef (.static Bundle.tN "UNASSIGNED_STACK" Bundle.steD)) (by decide +kernel)) hA, vx_Zqof (h _ (List.mem_of_getElem? (i := 111) (by decide +kernel))) (h _ (List.mem_of_getElem? (i := 14) (by decide +kernel))) (g (.isRef (.static Bundle.tN "SUPPRESSED_SENTINEL" Bundle.listD)) (by decide +kernel)) hA, st_zs h hg⟩
