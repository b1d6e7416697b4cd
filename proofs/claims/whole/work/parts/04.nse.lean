/-! NoSuchElementException("text"): in this JDK its constructor calls the one above through entry 13 of its pool, not through 7 as the library's words of a throw have it. So its own pass stands by itself here, and the passes above it come by the library's chain -/
abbrev nsN : String := "java/util/NoSuchElementException"
abbrev nsR : String := "java/lang/RuntimeException"
abbrev nsE : String := "java/lang/Exception"
def nsB : ByteArray := ⟨#[0x2a, 0x2b, 0xb7, 0x00, 0x0d, 0xb1]⟩
theorem nsB_0 : decode nsB 0 = .ok (.aload_n 0, 1) := by decide +kernel
theorem nsB_1 : decode nsB 1 = .ok (.aload_n 1, 1) := by decide +kernel
theorem nsB_2 : decode nsB 2 = .ok (.invokespecial 13, 3) := by decide +kernel
theorem nsB_5 : decode nsB 5 = .ok (.return_, 1) := by decide +kernel
/-- the words of the exception's own class -/
def nsW : List Cond := [.methodLink RX0 68 (Bundle.initS nsN), .instantiable nsN 6, .castable nsN nsN, .selects nsN Bundle.tFill0 Bundle.tFill0, .selects nsN Bundle.tFill Bundle.tFill,
  .lays nsN Bundle.tN "cause" "Ljava/lang/Throwable;", .lays nsN Bundle.tN "stackTrace" Bundle.steD, .lays nsN Bundle.tN "suppressedExceptions" Bundle.listD, .lays nsN Bundle.tN "detailMessage" "Ljava/lang/String;", .lays nsN Bundle.tN "backtrace" "Ljava/lang/Object;",
  .fieldLink Bundle.tN 198 Bundle.tN "backtrace" "Ljava/lang/Object;", .lays Bundle.tN Bundle.tN "backtrace" "Ljava/lang/Object;",
  .isRef (.static Bundle.tN "UNASSIGNED_STACK" Bundle.steD), .isRef (.static Bundle.tN "SUPPRESSED_SENTINEL" Bundle.listD)]
def nsA : List Cond := Bundle.throwableAtoms ++ (Bundle.throwableSAtoms ++ (Bundle.passSAtoms nsN nsR 13 nsB ++ (Bundle.chainSAtoms nsR [nsE] ++ nsW)))
theorem nsA_t {w : Cond} (h : w ∈ Bundle.throwableAtoms) : w ∈ nsA := List.mem_append_left _ h
theorem nsA_s {w : Cond} (h : w ∈ Bundle.throwableSAtoms) : w ∈ nsA := List.mem_append_right _ (List.mem_append_left _ h)
theorem nsA_p {w : Cond} (h : w ∈ Bundle.passSAtoms nsN nsR 13 nsB) : w ∈ nsA := List.mem_append_right _ (List.mem_append_right _ (List.mem_append_left _ h))
theorem nsA_c {w : Cond} (h : w ∈ Bundle.chainSAtoms nsR [nsE]) : w ∈ nsA := List.mem_append_right _ (List.mem_append_right _ (List.mem_append_right _ (List.mem_append_left _ h)))
theorem nsA_w {w : Cond} (h : w ∈ nsW) : w ∈ nsA := List.mem_append_right _ (List.mem_append_right _ (List.mem_append_right _ (List.mem_append_right _ h)))
section NSE
variable {p : Program} {l : Launch} {e : Env} {R : Room} {s : State} {m : MethodId} {args : Array Value} {below : List Frame} {meth : Method} {c : Code} {U0 : State} {cells slots : Nat}
set_option maxHeartbeats 2000000 in
/-- the constructor's call and the throw behind it, of a new cell at a -/
theorem ns_ctor (X : Stand p l e R s m args below meth c U0 [] cells slots) (hexec : p.tables.exec = Jvm.exec) (htr : e.platform.stackTraces = false) (hown : s.vm.findClass RX0 = some m.cls)
    (h : ∀ w ∈ nsA, w.before args s = true) {a : Addr} {cX : ClassId} {kX : Class} (hfoundX : s.vm.findClass nsN = some cX) (hkX : s.vm.classes[cX]? = some kX) (hcell : U0.heap[a]? = some (freshCell cX kX)) (hnew : s.heap.size ≤ a)
    {msg : Value} (hmsg : msg.isRef = true) {g : JFrame} (hg : g.method = m) (hsize : g.locals.size = c.maxLocals) (hlocked : g.locked = none) (hentered : g.entered = []) {rest : List Value} (hstack : g.stack = msg :: .ref a :: .ref a :: rest)
    (hd6 : decode c.code g.pc = .ok (.invokespecial 68, 3)) (hd9 : decode c.code (g.pc + 3) = .ok (.athrow, 1)) (hout : ∀ x ∈ c.exceptionTable.toList, covers x (g.pc + 3) = false)
    (hRf : 5 < R.frames) (hRl : 2 * g.monitorRoom + ((Value.ref a :: rest).map fun v => v.category).sum + 81 ≤ R.locals) (hlocks : meth.locks = false) :
    ∃ U : State, Steps p.tables e below (U0.setTop g) U ∧ U.status = .running ∧ Ended U below (.threw a) ∧ s.WarmedH U.vm ∧ s.sameButNew ({ U with vm := s.vm } : State) [] cells slots ∧ ∃ ce : Cell, U.heap[a]? = some ce ∧ ce.vm = .none ∧ s.vm.findClass nsN = some ce.cls := by
  have hpl : e.platform.magicAccessors = ({} : Platform).magicAccessors := by rw [X.admits.platform]
  have hw : ∀ w, w ∈ nsW → w.holds args s none s [] = true := fun w q => h w (nsA_w q)
  -- what the tables say of Throwable and of the passes
  obtain ⟨T, Z0, LT, -, Y⟩ := ThrowableC.of_atoms (args := args) (s := s) (pl := e.platform) (by rw [X.admits.platform]) (by rw [X.admits.platform]) hpl (fun w q => h w (nsA_t q))
  obtain ⟨Z, M, LZ, LM, hnZ⟩ := Init0T.ofS_atoms (args := args) hpl LT Y (fun w q => h w (nsA_s q))
  obtain ⟨P1, L1, hm1, hs1⟩ := PassC.ofS_atoms (args := args) (s := s) hpl (X := nsN) (Y := nsR) (by decide +kernel) (by decide +kernel) nsB_0 nsB_1 nsB_2 nsB_5 (fun w q => h w (nsA_p q))
  obtain ⟨P2, Ps, hlen, L2, hLs, hm2, hsup2, hpass⟩ := Bundle.chainS (args := args) hpl hnZ [nsE] nsR (by decide +kernel) (by decide +kernel) (fun w q => h w (nsA_c q))
  have hsup1 : P1.sup = P2.m := Option.some.inj (hs1.symm.trans hm2)
  -- the exception's class
  have hfound : s.vm.findClass nsN = some P1.m.cls := findClass_of_methodNamed hm1
  cases Option.some.inj (hfoundX.symm.trans hfound)
  obtain ⟨c1, k1, hc1, hk, hord, -, -, hn6⟩ := Cond.instantiable_spec (hw (.instantiable nsN 6) (by simp [nsW]))
  cases Option.some.inj (hc1.symm.trans hfound)
  cases Option.some.inj (hkX.symm.trans hk)
  have sel : ∀ {y : MethodName} {f : MethodId}, s.methodNamed? y = some f → (y.cls ≠ "java/lang/invoke/MethodHandle" ∧ y.cls ≠ "java/lang/invoke/VarHandle") → (Cond.selects nsN y y).holds args s none s [] = true → selectMethod e.platform s.vm P1.m.cls f = .method f := by
    intro y f hy hn hh
    obtain ⟨c2, r2, m2, q1, q2, q3, q4, -⟩ := Cond.selects_spec hh
    cases Option.some.inj (q1.symm.trans hfound)
    cases Option.some.inj (q2.symm.trans (State.methodFound?_of_named hy hn))
    cases Option.some.inj (q3.symm.trans hy)
    rw [Launch.admits_selectMethod X.admits]
    exact q4
  have hsel0 := sel Y.fill0 (by decide) (hw (.selects nsN Bundle.tFill0 Bundle.tFill0) (by simp [nsW]))
  have hselF := sel Y.fill (by decide) (hw (.selects nsN Bundle.tFill Bundle.tFill) (by simp [nsW]))
  -- Throwable's statics, as the heap holds them
  obtain ⟨cS0, hcS0, hiss⟩ := Y.statics
  obtain ⟨u0, hu0⟩ := Cond.staticRefV Y.unassigned LT.unassignedStatic LT.statics hcS0 hiss (hw (.isRef (.static Bundle.tN "UNASSIGNED_STACK" Bundle.steD)) (by simp [nsW]))
  obtain ⟨sen, hsen⟩ := Cond.staticRefV Y.sentinel LT.sentinelStatic LT.statics hcS0 hiss (hw (.isRef (.static Bundle.tN "SUPPRESSED_SENTINEL" Bundle.listD)) (by simp [nsW]))
  obtain ⟨cS, hcS, heS, -, hkeep⟩ := X.same.2.2.2.2.2 T.aS cS0 hcS0
  have hcS : U0.heap[T.aS]? = some cS := hcS
  have hkS : cS.vm ≠ .unknown := by
    rw [heS]
    intro q
    rw [show cS0.vm = .unknown from q] at hiss
    cases hiss
  have hneS : T.aS ≠ a := Nat.ne_of_lt (Nat.lt_of_lt_of_le (Array.getElem?_eq_some_iff.mp hcS0).1 hnew)
  -- the fields that the constructors write
  obtain ⟨iM, hffM⟩ := Y.msg
  obtain ⟨ci, ip, fB, hb1, hb2, hb3, hb4, -, hnB, htB, hffB⟩ := Cond.ownField (t := .object "java/lang/Object") Y.found LT.cls (by decide +kernel) (hw (.fieldLink Bundle.tN 198 Bundle.tN "backtrace" "Ljava/lang/Object;") (by simp [nsW])) (hw (.lays Bundle.tN Bundle.tN "backtrace" "Ljava/lang/Object;") (by simp [nsW])) e.platform hpl
  obtain ⟨tyC, dC, hdC, hnC⟩ := Cond.laysAt hfound hk Y.cause (hw (.lays nsN Bundle.tN "cause" "Ljava/lang/Throwable;") (by simp [nsW]))
  obtain ⟨tyS, dS, hdS, hnS⟩ := Cond.laysAt hfound hk Y.stack (hw (.lays nsN Bundle.tN "stackTrace" Bundle.steD) (by simp [nsW]))
  obtain ⟨tyP, dP, hdP, hnP⟩ := Cond.laysAt hfound hk Y.supp (hw (.lays nsN Bundle.tN "suppressedExceptions" Bundle.listD) (by simp [nsW]))
  obtain ⟨tyM, dM, hdM, hnM⟩ := Cond.laysAt hfound hk hffM (hw (.lays nsN Bundle.tN "detailMessage" "Ljava/lang/String;") (by simp [nsW]))
  obtain ⟨tyB, dB, hdB, hnB2⟩ := Cond.laysAt hfound hk hffB (hw (.lays nsN Bundle.tN "backtrace" "Ljava/lang/Object;") (by simp [nsW]))
  have bC := Cond.laysApart hdB hdC hnB2 hnC (by rw [hnB, Y.causeName]; decide)
  have bS := Cond.laysApart hdB hdS hnB2 hnS (by rw [hnB, Y.stackName]; decide)
  have bP := Cond.laysApart hdB hdP hnB2 hnP (by rw [hnB, Y.suppName]; decide)
  have hskip : SkipFacts T e.platform s (fun u => u) u0 ((preparedCellV T.toThrowableT (freshCell P1.m.cls kX) a u0 sen).withEntry U0.cur) := by
    refine ⟨{ ci198 := ci, i198 := ip, fBack := fB }, ⟨hb1, hb2, hb3, hb4⟩, ?_, fun _ _ => rfl⟩
    have q := fresh_default (c := P1.m.cls) tyB
    rw [htB] at q
    simpa [preparedCellV, Cell.setSlot, Cell.withEntry, Array.getElem?_setIfInBounds, bC, bS, bP, bC.symm, bS.symm, bP.symm, defaultValue] using q
  -- the call, its passes, the throw
  obtain ⟨tm, mt, cd, k9, vm₁, hnm, -, -, -, -, -, -, -, hW₁, st1⟩ := Steps.initColdS (tb := p.tables) (e := e) (below := below) (s := s) (U := U0) X.here hexec X.warmed hpl hown (t := Bundle.initS nsN) rfl rfl (by decide +kernel)
    (hw (.methodLink RX0 68 (Bundle.initS nsN)) (by simp [nsW])) (h (.instanceMethod (Bundle.initS nsN)) (nsA_p (by simp [Bundle.passSAtoms]))) (bytes := nsB) (maxL := 2) (h (.code (Bundle.initS nsN) nsB 2 none) (nsA_p (by simp [Bundle.passSAtoms]))) (f := g) hg (a := a) (msg := msg) (rest := .ref a :: rest) hstack hd6
  cases Option.some.inj (hnm.symm.trans hm1)
  have X₁ := X.noted hW₁
  obtain ⟨vm₂, X₂, st2⟩ := X₁.ctorMessageOffV hexec (g := { g with stack := .ref a :: rest }) hg hsize T LT Z LZ M LM (P1 :: P2 :: Ps)
    (fun P hP => by
      rcases List.mem_cons.mp hP with rfl | hP
      · exact L1
      · rcases List.mem_cons.mp hP with rfl | hP
        · exact L2
        · exact hLs P hP) ⟨hsup1, hsup2, hpass⟩ (u0 := u0) (sen := sen) (self := a) hmsg (cell := freshCell P1.m.cls kX) (cellS := cS)
    hcell (fun _ => by simp) (by simp) rfl rfl hsel0 hselF hcS hneS hkS (by rw [hkeep _ (fun q => nomatch q)]; exact hu0) (by rw [hkeep _ (fun q => nomatch q)]; exact hsen)
    (Takes.of_laid hk hord tyC (by rw [Y.causeType]; rfl)) (Takes.of_laid hk hord tyS (by rw [Y.stackType]; exact fits_refV_array _ u0)) (Takes.of_laid hk hord tyP (by rw [Y.suppType]; exact fits_refV_object _ sen))
    (Takes.of_laid hk hord tyM (by rw [Y.msgType]; exact fits_refV_object _ ⟨msg, hmsg⟩)) Y.objLocals hskip htr [] hd6
    (by simp only [List.length_cons, hlen, List.length_nil]; omega) (by simp only [List.length_cons, hlen, List.length_nil]; exact hRl)
  obtain ⟨hwalk, hrun, hended, hWU, hsame⟩ := X₂.athrowLeaves hexec (g := { g with stack := .ref a :: rest, pc := g.pc + 3 }) hg hlocked hentered hout (a := a) (rest := rest) rfl hd9
  have hlt : a < ((U0.setVm vm₁).setVm vm₂).heap.size := (Array.getElem?_eq_some_iff.mp hcell).1
  have hU := heapAt_setCell_self (s := (U0.setVm vm₁).setVm vm₂) (plainBareV T.toThrowableT (freshCell P1.m.cls kX) a u0 sen msg) hlt
  refine ⟨_, st1 _ (fun acts => ?_), hrun, hended, hWU, hsame.weaken (fun y hy hlt' => ?_) (Nat.le_refl _) (Nat.le_refl _), _, hU, rfl, hfound⟩
  · rw [doInvoke_state]
    exact st2 _ hwalk
  · exfalso
    have hb : y.base = a := by
      simp only [List.nil_append, List.mem_cons, List.not_mem_nil, or_false] at hy
      rcases hy with rfl | rfl | rfl | rfl | rfl <;> rfl
    rw [hb] at hlt'
    exact Nat.not_lt.mpr hnew hlt'
end NSE
set_option maxRecDepth 20000 in
theorem at_ns : ∀ w ∈ (nsA.filter vx_no).filter goodWord, w ∈ lw_tbl := by decide +kernel
set_option maxRecDepth 20000 in
theorem gd_ns : ∀ w ∈ Cond.classLink RX0 64 nsN :: Cond.initialized nsN :: nsA.filter vx_no, vx_ot w = true := by decide +kernel
theorem hat_ns {x : Cond} {args : Array Value} {s : State} (hts : ∀ w ∈ x :: ALL, w.before args s = true) (hz : zs s) : ∀ w ∈ nsA.filter vx_no, w.before args s = true :=
  vx_hat (B := [.castable nsN nsN, .declares ⟨"java/lang/RuntimeException", "<init>", "(Ljava/lang/String;)V"⟩, .declares ⟨"java/lang/Exception", "<init>", "(Ljava/lang/String;)V"⟩, .declares ⟨"java/lang/Throwable", "<init>", "(Ljava/lang/String;)V"⟩]) (fun w hw => hts w (wm (List.mem_filter.mpr ⟨at_ns w hw, (List.mem_filter.mp hw).2⟩))) (by decide +kernel)
    (vx_c (va_Nw.use rfl (hz.2.1 _ (by decide))) (vx_c (va_Nw.use rfl (hz.2.2.1 _ (by decide))) (vx_c (va_Nw.use rfl (hz.2.2.1 _ (by decide))) (vx_c (va_Nw.use rfl (hz.2.2.1 _ (by decide))) vx_n))))
theorem ns_k : (Cond.classLink RX0 64 nsN) ∈ ALL := al_in (i := 205) (by decide +kernel) (by decide +kernel)
theorem ns_i : (Cond.initialized nsN) ∈ ALL := al_in (i := 19) (by decide +kernel) (by decide +kernel)
section NSF
variable {p : Program} {l : Launch} {e : Env} {R : Room} {s : State} {m : MethodId} {args : Array Value} {below : List Frame} {meth : Method} {c : Code} {H : Heap} {locs : List Loc} {cells slots : Nat}
variable {cc : ByteArray} {pc : Nat} {ls : Array Slot} {D : va_G} {A : Nat → Prop} {tys : List (ClassId × FieldType)} {w2 : va_W} {mc ms : Nat}
set_option maxHeartbeats 1000000 in
theorem fx_nse {x : Cond} {Qc : Array Value → State → Outcome → State → Prop} {ψ : String → Prop} (hexec : p.tables.exec = Jvm.exec) (hb : c.code = cc) (hl : l.stackTraces = false)
    (hown : s.vm.findClass RX0 = some m.cls) (hts : ∀ w ∈ x :: ALL, w.before args s = true)
    (hZ : zx A s s.heap) (hS : va_S A s.heap H locs) (hsize : ls.size = c.maxLocals)
    (d0 : decode cc pc = .ok (.new 64, 3)) (d3 : decode cc (pc + 3) = .ok (.dup, 1)) (d4 : decode cc (pc + 4) = .ok (.ldc 66, 2)) (d6 : decode cc (pc + 6) = .ok (.invokespecial 68, 3)) (d9 : decode cc (pc + 9) = .ok (.athrow, 1))
    (ht9 : ∀ x ∈ c.exceptionTable.toList, False) (hRf : 5 < R.frames) (hRl : 82 ≤ R.locals) (hRc : cells + 1 ≤ R.cells) (hRs : slots + 6 ≤ R.slots) (hlocks : meth.locks = false) (hc : cells + 1 ≤ mc) (hs : slots + 6 ≤ ms)
    (hψ : ψ "java/util/NoSuchElementException") (hP : va_P D vwCl w2 H) (hK : va_K D vwCl tys s) (hD : va_D A w2) :
    W p l e R s m args below meth c H locs cells slots (vx_MQ below Qc (cX D tys ψ w2 A) args s mc ms A) (F0 m pc ls []) := by
  obtain ⟨sa, hsa⟩ := hZ.2.2.1 (66, "no such key") (by decide)
  have hx : ∀ t : State, s.vm.Alike t.vm → H.size ≤ t.heap.size → (∀ q : Nat, q < H.size → t.heap[q]? = H[q]?) → cX D tys ψ w2 A nsN s t :=
    fun t ha hsz hk9 => ⟨(), trivial, ⟨hψ, hP.kept (fun k q hq => hk9 q.1 (hP k q hq).lt), va_K.moved ha hK, hD⟩, Nat.le_trans hS.1 hsz, fun q h1 h2 => (hk9 q (Nat.lt_of_lt_of_le h1 hS.1)).trans (hS.2.1 q h1 h2)⟩
  intro T hT X
  have htr : e.platform.stackTraces = false := (show e.platform.stackTraces = l.stackTraces by rw [X.admits.platform]).trans hl
  -- the same frame, as if the method began in this heap
  have Y := vx_rebase X (R' := { frames := R.frames, locals := R.locals, cells := 1, slots := 6 }) (Nat.le_refl _) (Nat.le_refl _) hRc hRs
  obtain ⟨s', hA⟩ : ∃ z, z = (T.setVm s.vm).setFrames (.invoking m args :: below) := ⟨_, rfl⟩
  rw [← hA] at Y
  have hvm : s'.vm = s.vm := by rw [hA]; rfl
  have hhp : s'.heap = H := by rw [hA]; exact hT
  have hW0 : s.WarmedH s'.vm := by rw [hvm]; exact State.WarmedH.refl s
  have mv : ∀ w : Cond, vx_ot w = true → w.before args s = true → w.before args s' = true := fun w g q => vx_ot_at hW0 hvm.symm g q
  have hk' : (Cond.classLink RX0 64 nsN).before args s' = true := mv _ (gd_ns _ List.mem_cons_self) (hts _ (wm ns_k))
  have hi' : (Cond.initialized nsN).before args s' = true := mv _ (gd_ns _ (List.mem_cons_of_mem _ List.mem_cons_self)) (hts _ (wm ns_i))
  have hU' : vx_Zq Bundle.tN "UNASSIGNED_STACK" Bundle.steD A s' s'.heap := by rw [hhp]; exact vx_Zq.moved hW0.alike (hZ.1.kept hS.2.1)
  have hN' : vx_Zq Bundle.tN "SUPPRESSED_SENTINEL" Bundle.listD A s' s'.heap := by rw [hhp]; exact vx_Zq.moved hW0.alike (hZ.2.1.kept hS.2.1)
  have h : ∀ w ∈ nsA, w.before args s' = true := vx_own (fun w hw => mv w (gd_ns w (List.mem_cons_of_mem _ (List.mem_cons_of_mem _ hw))) (hat_ns hts hZ.2.2 w hw)) (vx_isRefq hU'.1) (vx_isRefq hN'.1) hU'.2.word hN'.2.word
  have hown' : s'.vm.findClass RX0 = some m.cls := by rw [hvm]; exact hown
  have hins : (Cond.instantiable nsN 6).before args s' = true := h _ (nsA_w (by simp [nsW]))
  obtain ⟨vm₁, cX9, kX, hfX, hkX, -, -, X₁, st1⟩ := Y.newCold hexec (own := RX0) (C := nsN) (index := 64) (n := 6) hown' hk' hins hi' (g := F0 m pc ls []) rfl (by rw [hb]; exact d0) (Nat.le_refl _) (Nat.le_refl _)
  generalize hT1 : (T.setVm vm₁).pushCell { cls := cX9, slots := kX.instanceTypes.map defaultValue, vm := .none } = T1 at X₁ st1
  have hcat : (Value.ref T.heap.size).category = 1 := rfl
  have hcellA : T1.heap[T.heap.size]? = some (freshCell cX9 kX) := by rw [← hT1]; exact State.heap_pushCell_size _ _
  have d3' : decode c.code (pc + 3) = .ok (.dup, 1) := by rw [hb]; exact d3
  have d4' : decode c.code (pc + 4) = .ok (.ldc 66, 2) := by rw [hb]; exact d4
  have hsa' : vk_R RX0 66 "no such key" sa s' := vk_R.warm hW0 hsa
  obtain ⟨U, hsteps, hrun, hend, hWU, hsame, ce, hce, hcv, hcc⟩ := ns_ctor X₁ hexec htr hown' h hfX hkX hcellA (by rw [hhp, hT]; exact Nat.le_refl _) (msg := .ref sa) rfl
    (g := { method := m, pc := pc + 6, locals := ls, stack := .ref sa :: .ref T.heap.size :: .ref T.heap.size :: [], locked := none }) rfl hsize rfl rfl (rest := []) rfl
    (by rw [hb]; exact d6) (by rw [hb]; exact d9) (fun x hx => (ht9 x hx).elim) hRf (by simp only [List.map_cons, List.sum_cons, hcat, List.map_nil, List.sum_nil]; exact hRl) hlocks
  obtain ⟨f1, f2⟩ := vx_frame hsame
  rw [hhp] at f1 f2
  have hWs : s.WarmedH U.vm := State.WarmedH.trans hW0 hWU
  have hcl : s.vm.findClass nsN = some ce.cls := by
    rw [hvm] at hcc
    exact hcc
  have hall : s.sameButNew ({ U with vm := s.vm } : State) locs mc ms := by
    subst hA
    obtain ⟨e1, e2⟩ := hsame
    rw [State.setFrames_setFrames] at e1
    have q2 : (T.setVm s.vm).sameButNew ({ U with vm := s.vm } : State) [] (0 + 1) (0 + 6) := ⟨e1, e2⟩
    have q3 := X.same.trans q2
    rw [List.append_nil] at q3
    exact q3.mono hc hs
  refine ⟨U, ?_, .threw T.heap.size, hrun, hend, Or.inr ⟨T.heap.size, rfl, nsN, ce, locs, hx U hWs.alike f1 (fun q hq => f2 q hq (fun z hz => nomatch hz)), hce, hcv, hcl, hWs, hall, hS.2.2⟩⟩
  refine st1 _ ?_
  show Steps p.tables e below (T1.setTop { method := m, pc := pc + 3, locals := ls, stack := .ref T.heap.size :: [], locked := none }) _
  jvm_step X₁.here [X₁.here.top, hexec, d3', Value.category]
  exact X₁.ldcString hexec (own := RX0) (text := "no such key") (index := 66) (a := sa) hown' hsa'.1 hsa'.2
    (g := { method := m, pc := pc + 4, locals := ls, stack := .ref T.heap.size :: .ref T.heap.size :: [], locked := none }) rfl d4' _ hsteps
end NSF
