section
-- ===== PART A: goes FIRST, ahead of the names: the tables' words, and 'selects' of the private methods out of them =====
/-- a private method of a class that the tables say can be made, by its rows of tables_1 -/
def lw_okq (q : MethodName × Nat) : Prop := (q.1.cls ≠ "java/lang/invoke/MethodHandle" ∧ q.1.cls ≠ "java/lang/invoke/VarHandle") ∧ Cond.instantiable q.1.cls q.2 ∈ tables_1 ∧ Cond.privateMethod q.1 ∈ tables_1 ∧ Cond.instanceMethod q.1 ∈ tables_1
theorem lw_p0 : lw_okq (⟨"LinkedIndex", "placeOf", "(J)I"⟩, 6) := ⟨⟨by decide +kernel, by decide +kernel⟩, List.mem_of_getElem? (i := 11) (by decide +kernel), List.mem_of_getElem? (i := 52) (by decide +kernel), List.mem_of_getElem? (i := 53) (by decide +kernel)⟩
theorem lw_p1 : lw_okq (⟨"java/lang/Throwable", "fillInStackTrace", "(I)Ljava/lang/Throwable;"⟩, 6) := ⟨⟨by decide +kernel, by decide +kernel⟩, List.mem_of_getElem? (i := 111) (by decide +kernel), List.mem_of_getElem? (i := 109) (by decide +kernel), List.mem_of_getElem? (i := 110) (by decide +kernel)⟩
theorem lw_p2 : lw_okq (⟨"LinkedIndex", "requireOperation", "(I)V"⟩, 6) := ⟨⟨by decide +kernel, by decide +kernel⟩, List.mem_of_getElem? (i := 11) (by decide +kernel), List.mem_of_getElem? (i := 169) (by decide +kernel), List.mem_of_getElem? (i := 170) (by decide +kernel)⟩
theorem lw_p3 : lw_okq (⟨"LinkedIndex", "finishPut", "(II)J"⟩, 6) := ⟨⟨by decide +kernel, by decide +kernel⟩, List.mem_of_getElem? (i := 11) (by decide +kernel), List.mem_of_getElem? (i := 182) (by decide +kernel), List.mem_of_getElem? (i := 183) (by decide +kernel)⟩
theorem lw_p4 : lw_okq (⟨"LinkedIndex", "isAt", "(IJ)Z"⟩, 6) := ⟨⟨by decide +kernel, by decide +kernel⟩, List.mem_of_getElem? (i := 11) (by decide +kernel), List.mem_of_getElem? (i := 186) (by decide +kernel), List.mem_of_getElem? (i := 187) (by decide +kernel)⟩
theorem lw_p5 : lw_okq (⟨"LinkedIndex", "openGap", "(I)V"⟩, 6) := ⟨⟨by decide +kernel, by decide +kernel⟩, List.mem_of_getElem? (i := 11) (by decide +kernel), List.mem_of_getElem? (i := 191) (by decide +kernel), List.mem_of_getElem? (i := 192) (by decide +kernel)⟩
theorem lw_p6 : lw_okq (⟨"LinkedIndex", "closeGap", "(I)V"⟩, 6) := ⟨⟨by decide +kernel, by decide +kernel⟩, List.mem_of_getElem? (i := 11) (by decide +kernel), List.mem_of_getElem? (i := 211) (by decide +kernel), List.mem_of_getElem? (i := 212) (by decide +kernel)⟩
theorem lw_p7 : lw_okq (⟨"LinkedIndex", "requirePlace", "(I)V"⟩, 6) := ⟨⟨by decide +kernel, by decide +kernel⟩, List.mem_of_getElem? (i := 11) (by decide +kernel), List.mem_of_getElem? (i := 244) (by decide +kernel), List.mem_of_getElem? (i := 245) (by decide +kernel)⟩
theorem lw_p8 : lw_okq (⟨"LinkedIndexModel", "rank", "(J)I"⟩, 7) := ⟨⟨by decide +kernel, by decide +kernel⟩, List.mem_of_getElem? (i := 270) (by decide +kernel), List.mem_of_getElem? (i := 317) (by decide +kernel), List.mem_of_getElem? (i := 318) (by decide +kernel)⟩
theorem lw_p9 : lw_okq (⟨"LinkedIndexModel", "put", "(IZJJ)J"⟩, 7) := ⟨⟨by decide +kernel, by decide +kernel⟩, List.mem_of_getElem? (i := 270) (by decide +kernel), List.mem_of_getElem? (i := 321) (by decide +kernel), List.mem_of_getElem? (i := 322) (by decide +kernel)⟩
theorem lw_p10 : lw_okq (⟨"LinkedIndexModel", "take", "(I)J"⟩, 7) := ⟨⟨by decide +kernel, by decide +kernel⟩, List.mem_of_getElem? (i := 270) (by decide +kernel), List.mem_of_getElem? (i := 325) (by decide +kernel), List.mem_of_getElem? (i := 326) (by decide +kernel)⟩
def lw_privs_1 : List (MethodName × Nat) := [(⟨"LinkedIndex", "placeOf", "(J)I"⟩, 6), (⟨"java/lang/Throwable", "fillInStackTrace", "(I)Ljava/lang/Throwable;"⟩, 6), (⟨"LinkedIndex", "requireOperation", "(I)V"⟩, 6), (⟨"LinkedIndex", "finishPut", "(II)J"⟩, 6), (⟨"LinkedIndex", "isAt", "(IJ)Z"⟩, 6), (⟨"LinkedIndex", "openGap", "(I)V"⟩, 6), (⟨"LinkedIndex", "closeGap", "(I)V"⟩, 6), (⟨"LinkedIndex", "requirePlace", "(I)V"⟩, 6), (⟨"LinkedIndexModel", "rank", "(J)I"⟩, 7), (⟨"LinkedIndexModel", "put", "(IZJJ)J"⟩, 7), (⟨"LinkedIndexModel", "take", "(I)J"⟩, 7)]
theorem lw_r1 : ∀ q ∈ lw_privs_1, lw_okq q := List.forall_mem_cons.mpr ⟨lw_p0, List.forall_mem_cons.mpr ⟨lw_p1, List.forall_mem_cons.mpr ⟨lw_p2, List.forall_mem_cons.mpr ⟨lw_p3, List.forall_mem_cons.mpr ⟨lw_p4, List.forall_mem_cons.mpr ⟨lw_p5, List.forall_mem_cons.mpr ⟨lw_p6, List.forall_mem_cons.mpr ⟨lw_p7, List.forall_mem_cons.mpr ⟨lw_p8, List.forall_mem_cons.mpr ⟨lw_p9, List.forall_mem_cons.mpr ⟨lw_p10, fun _ h => absurd h List.not_mem_nil⟩⟩⟩⟩⟩⟩⟩⟩⟩⟩⟩
def lw_privs : List (MethodName × Nat) := lw_privs_1
def lw_tbl : List Cond := k2_sels lw_privs ++ tables_1
theorem lw_privs_ok : ∀ q ∈ lw_privs, lw_okq q := lw_r1
/-! ===== BEGIN words of one list among another's, by their places ===== -/
theorem goodIn_r {big : List Cond} (ws : List Cond) (ps : List Nat) (hp : ws = ps.filterMap (fun i => big[i]?)) (h : ws.all goodWord = true) : GoodIn big ws := by
  intro w hw
  have h1 := List.all_eq_true.mp h w hw
  rw [hp] at hw
  obtain ⟨i, -, hi⟩ := List.mem_filterMap.mp hw
  have hm : w ∈ big := by first | exact List.mem_of_getElem? hi | exact List.getElem?_mem hi
  exact ⟨hm, good_of_word h1⟩
theorem goodIn_app {big a b : List Cond} (ha : GoodIn big a) (hb : GoodIn big b) : GoodIn big (a ++ b) := fun w h => (List.mem_append.mp h).elim (ha w) (hb w)
theorem goodIn_ca {big a b : List Cond} {c : Cond} (ha : GoodIn big (c :: a)) (hb : GoodIn big b) : GoodIn big (c :: (a ++ b)) := fun w h => (List.mem_cons.mp h).elim (fun e => ha w (List.mem_cons.mpr (Or.inl e))) (fun h => (List.mem_append.mp h).elim (fun h => ha w (List.mem_cons.mpr (Or.inr h))) (hb w))
theorem goodIn_sub {big ws : List Cond} (hm : ∀ w ∈ ws, w ∈ big) (h : ws.all goodWord = true) : GoodIn big ws := fun w hw => ⟨hm w hw, good_of_word (List.all_eq_true.mp h w hw)⟩
/-! ===== END ===== -/

/-! ===== BEGIN exceptions that leave a method, and their catching by the caller (launches without stack traces) ===== -/
section VXA
/-! The laws vx_back, vx_callV, vx_callS, vx_callSW, vx_throw0, vx_throwS follow proofs of the library, with one case more: JvmDerived/Free/Laws.lean (Back.of_free), Shelf42/LK1.lean (callV, callS), Shelf/KitTraced.lean (throwNew0V, throwNewS). -/
/-- where a method has thrown q: the class by its name, the cell, what was written, the world -/
def vx_T (XC : String → State → State → Prop) (st : State) (q : Addr) (t : State) (mc ms : Nat) (free : Addr → Prop) : Prop :=
  ∃ (E : String) (ce : Cell) (L : List Loc), XC E st t ∧ t.heap[q]? = some ce ∧ ce.vm = .none ∧ st.vm.findClass E = some ce.cls ∧ st.WarmedH t.vm ∧ st.sameButNew ({ t with vm := st.vm } : State) L mc ms ∧ ∀ z ∈ L, free z.base
def vx_Q (Qc : Array Value → State → Outcome → State → Prop) (XC : String → State → State → Prop) (mc ms : Nat) (free : Addr → Prop) : Array Value → State → Outcome → State → Prop := fun a st o t =>
  (Qc a st o t ∧ ∃ L, FrameEnd st o t L mc ms ∧ ∀ q ∈ L, free q.base) ∨ ∃ q, o = .threw q ∧ vx_T XC st q t mc ms free
/-- a callee that returns or throws -/
def vx_Met (l : Launch) (y : MethodName) (ws : List Cond) (rm : Room) (Pc : Array Value → State → Prop) (Qc : Array Value → State → Outcome → State → Prop) (XC : String → State → State → Prop) (mc ms : Nat) (free : Addr → Prop) : Prop :=
  MetFree l y (headSpec ws rm) Pc (fun _ _ _ _ _ => True) (vx_Q Qc XC mc ms free)
def vx_Post (XC : String → State → State → Prop) (mc ms : Nat) (free : Addr → Prop) : Pt → Array Value → Addr → Pt → Prop := fun A a q B =>
  ∃ (g : JFrame) (mk : MethodId) (t : State) (L : List Loc) (E : String) (ce : Cell), B.U.heap = t.heap ∧ B.U.vm = t.vm ∧ XC E (A.U.calling g mk a) t ∧ t.heap[q]? = some ce ∧ ce.vm = .none ∧ A.U.vm.findClass E = some ce.cls ∧ B.locs = A.locs ++ L ∧ (∀ z ∈ L, free z.base) ∧ B.cells = A.cells + mc ∧ B.slots = A.slots + ms
def vx_Back (l : Launch) (R : Room) (p : Program) (e : Env) (below : List Frame) (s : State) (sargs : Array Value) (y : MethodName) (len W9 : Nat)
    (Pre : Pt → Array Value → Prop) (Post : Pt → Array Value → Option Value → Pt → Prop) (PostX : Pt → Array Value → Addr → Pt → Prop) : Prop :=
  ∀ (m : MethodId) (meth : Method) (c : Code) (A : Pt) (g : JFrame) (ig : Instr) (mk : MethodId) (a : Array Value),
    Stand p l e R s m sargs below meth c A.U A.locs A.cells A.slots → g.method = m → g.locals.size = c.maxLocals → decode c.code g.pc = .ok (ig, len) →
    2 * g.monitorRoom + (g.stack.map fun v => v.category).sum ≤ W9 → A.U.methodNamed? y = some mk → Pre A a →
    (∃ (v : Option Value) (B : Pt), Stand p l e R s m sargs below meth c B.U B.locs B.cells B.slots ∧ Post A a v B ∧
      Steps p.tables e below (doInvoke e (A.U.setTop g) [] mk a).1 (B.U.setTop { g with pc := g.pc + len, stack := v.toList ++ g.stack })) ∨
    (∃ (q : Addr) (B : Pt), Stand p l e R s m sargs below meth c B.U B.locs B.cells B.slots ∧ PostX A a q B ∧
      Steps p.tables e below (doInvoke e (A.U.setTop g) [] mk a).1 ((B.U.setTop g).pushFrame (.throwing q)))
section Payer
variable {l : Launch} {R : Room} {p : Program} {e : Env} {below : List Frame} {s : State} {sargs : Array Value} {y : MethodName} {len W9 : Nat}
theorem vx_back {ws : List Cond} {rm : Room} {Pc : Array Value → State → Prop} {Qc : Array Value → State → Outcome → State → Prop} {XC : String → State → State → Prop} {mc ms : Nat} {free : Addr → Prop} {bytes : ByteArray} {maxL : Nat} {ret : Option FieldType}
    (hM : vx_Met l y ws rm Pc Qc XC mc ms free) (hblind : FrameBlind Pc) (hrc : rm.cells = mc) (hrs : rm.slots = ms)
    (hframes : rm.frames + 1 ≤ R.frames) (hlocals : W9 + (maxL + 11) + rm.locals ≤ R.locals)
    (hws : ∀ w ∈ ws, ∀ a' U, s.WarmedH U.vm → w.before a' U = true) (hcode : Cond.code y bytes maxL ret ∈ ws) (hinit : ∀ a' U, s.WarmedH U.vm → (Cond.initialized y.cls).before a' U = true) :
    vx_Back l R p e below s sargs y len W9 (PreOf R mc ms Pc) (PostOf Qc mc ms free) (vx_Post XC mc ms free) := by
  intro m meth c A g ig mk a X hg hsize hdg hW hn hp
  have h1 : (headSpec ws rm).pre.before a A.U = true := atoms_intro fun w hw => hws w hw _ _ X.warmed
  have h2 : (Cond.code y bytes maxL ret).before a A.U = true := hws _ hcode _ _ X.warmed
  have h3 : (Cond.initialized y.cls).before a A.U = true := hinit _ _ X.warmed
  have h4 : A.cells + (headSpec ws rm).room.cells ≤ R.cells := by rw [show (headSpec ws rm).room.cells = mc from hrc]; exact hp.1
  have h5 : A.slots + (headSpec ws rm).room.slots ≤ R.slots := by rw [show (headSpec ws rm).room.slots = ms from hrs]; exact hp.2.1
  have hPc : Pc a (A.U.calling g mk a) := hblind _ _ _ _ hp.2.2
  obtain ⟨U, Ls, c0, s0⟩ := A
  dsimp only [Pt.U, Pt.locs, Pt.cells, Pt.slots] at h1 h2 h3 h4 h5 X hn hPc ⊢
  obtain ⟨methY, cY, hmY, hcY, -, hlY, -, -, -, -⟩ := Cond.code_spec hn h2
  obtain ⟨kY, hkY, -⟩ := className_of_methodNamed hn
  have hinitY : kY.init = .initialized := Cond.initialized_spec (findClass_of_methodNamed hn) hkY h3
  have h : At U g.method c below := by rw [hg]; exact X.here
  have hlocals9 : W9 + (maxL + 11) + (headSpec ws rm).room.locals ≤ R.locals := hlocals
  have happ : (headSpec ws rm).appliesLoose y e.platform (U.calling g mk a) = true :=
    Spec.appliesLoose_calling (g := g) h hdg hn hkY hinitY
      (X.room_calling (g := g) (R' := (headSpec ws rm).room) hsize hmY hcY hframes (by rw [hlY]; omega) h4 h5) h1
  obtain ⟨mid, hmid⟩ := h.above
  have hfr : (U.setTop g).frames = (.java g :: mid) ++ below := by rw [State.frames_setTop' g h.top, hmid]; rfl
  obtain ⟨o, s₂, hsteps, -, hend, hq⟩ := Steps.callFree hM p X.admits X.cas X.clock (acts := []) hfr happ hPc trivial
  have hq' : vx_Q Qc XC mc ms free a (U.calling g mk a) o s₂ := hq
  rw [State.frames_setTop' g h.top] at hend
  obtain ⟨g₀, hg0⟩ := Option.isSome_iff_exists.mp h.top
  obtain ⟨r, hr⟩ := State.topJava?_eq_some.mp hg0
  have hr' : (({ U with heap := s₂.heap, slotsUsed := s₂.slotsUsed } : State).setVm s₂.vm).frames = .java g₀ :: r := hr
  rcases hq' with ⟨hqc, L, hfe, hL⟩ | ⟨q, rfl, E, ce, L, hx, hce, hcv, hcl, hW₂, hsm, hL⟩
  · obtain ⟨⟨v, rfl⟩, hW₂, e2, q2, q3, q4, q5, q6⟩ := id hfe
    have e3 : s₂ = ({ (U.calling g mk a).setFrames s₂.frames with heap := s₂.heap, slotsUsed := s₂.slotsUsed } : State).setVm s₂.vm := by
      have : s₂ = ({ s₂ with vm := (U.calling g mk a).vm } : State).setVm s₂.vm := rfl
      rw [e2] at this
      exact this
    obtain ⟨c₂, i₂, len₂, hc₂, hd₂, hf₂⟩ := hend
    have hW' : U.WarmedH s₂.vm := hW₂
    have hcc : c₂ = c := by
      have h1 : s₂.code? g.method = U.code? g.method := by
        rw [State.code?_eq, State.code?_eq, hW'.alike.method?]
      exact Option.some.inj (hc₂.symm.trans (h1.trans h.code))
    subst hcc
    have hlen : len₂ = len := by rw [hdg] at hd₂; cases hd₂; rfl
    subst hlen
    have hs₂ : s₂ = (({ U with heap := s₂.heap, slotsUsed := s₂.slotsUsed } : State).setVm s₂.vm).setTop { g with pc := g.pc + len₂, stack := v.toList ++ g.stack } := by
      refine e3.trans ?_
      rw [hf₂, State.calling_eq h.top, State.setFrames_setFrames, State.setTop_of_frames _ hr', hr]
      rfl
    have hsame : U.sameButNew ({ U with heap := s₂.heap, slotsUsed := s₂.slotsUsed } : State) L mc ms := by
      refine ⟨?_, q2, q3, q4, q5, q6⟩
      obtain ⟨t, ht, -⟩ := State.frames_cons hr
      show ({ U with heap := s₂.heap, slotsUsed := s₂.slotsUsed } : State) = { U.setFrames U.frames with heap := s₂.heap, slotsUsed := s₂.slotsUsed }
      rw [State.setFrames_self ht]
    subst hg
    refine Or.inl ⟨v, ⟨(({ U with heap := s₂.heap, slotsUsed := s₂.slotsUsed } : State).setVm s₂.vm), Ls ++ L, c0 + mc, s0 + ms⟩,
      ⟨X.admits, X.cas, X.clock, X.frames, X.room, X.hears, X.method, X.code, (X.here.setHeapUsed s₂.heap s₂.slotsUsed).setVm hW'.alike, X.tail, State.WarmedH.trans X.warmed hW', X.limits, X.bytes, X.same.trans (hsame.setVm s.vm)⟩,
      ⟨g, mk, s₂, L, rfl, rfl, hqc, rfl, hL, rfl, rfl⟩, ?_⟩
    show Steps p.tables e below _ ((({ U with heap := s₂.heap, slotsUsed := s₂.slotsUsed } : State).setVm s₂.vm).setTop { g with pc := g.pc + len₂, stack := v.toList ++ g.stack })
    rw [← hs₂]
    exact hsteps
  · obtain ⟨e2, q2, q3, q4, q5, q6⟩ := id hsm
    have e3 : s₂ = ({ (U.calling g mk a).setFrames s₂.frames with heap := s₂.heap, slotsUsed := s₂.slotsUsed } : State).setVm s₂.vm := by
      have : s₂ = ({ s₂ with vm := (U.calling g mk a).vm } : State).setVm s₂.vm := rfl
      rw [e2] at this
      exact this
    have hf₂ : s₂.frames = .throwing q :: .java g :: U.frames.tail := hend
    have hW' : U.WarmedH s₂.vm := hW₂
    have hs₂ : s₂ = ((({ U with heap := s₂.heap, slotsUsed := s₂.slotsUsed } : State).setVm s₂.vm).setTop g).pushFrame (.throwing q) := by
      refine e3.trans ?_
      rw [hf₂, State.calling_eq h.top, State.setFrames_setFrames, State.pushFrame, State.frames_setTop _ hr', State.setTop_of_frames _ hr', State.setFrames_setFrames, hr]
      rfl
    have hsame : U.sameButNew ({ U with heap := s₂.heap, slotsUsed := s₂.slotsUsed } : State) L mc ms := by
      refine ⟨?_, q2, q3, q4, q5, q6⟩
      obtain ⟨t, ht, -⟩ := State.frames_cons hr
      show ({ U with heap := s₂.heap, slotsUsed := s₂.slotsUsed } : State) = { U.setFrames U.frames with heap := s₂.heap, slotsUsed := s₂.slotsUsed }
      rw [State.setFrames_self ht]
    subst hg
    refine Or.inr ⟨q, ⟨(({ U with heap := s₂.heap, slotsUsed := s₂.slotsUsed } : State).setVm s₂.vm), Ls ++ L, c0 + mc, s0 + ms⟩,
      ⟨X.admits, X.cas, X.clock, X.frames, X.room, X.hears, X.method, X.code, (X.here.setHeapUsed s₂.heap s₂.slotsUsed).setVm hW'.alike, X.tail, State.WarmedH.trans X.warmed hW', X.limits, X.bytes, X.same.trans (hsame.setVm s.vm)⟩,
      ⟨g, mk, s₂, L, E, ce, rfl, rfl, hx, hce, hcv, hcl, rfl, hL, rfl, rfl⟩, ?_⟩
    show Steps p.tables e below _ (((({ U with heap := s₂.heap, slotsUsed := s₂.slotsUsed } : State).setVm s₂.vm).setTop g).pushFrame (.throwing q))
    rw [← hs₂]
    exact hsteps
end Payer
section Calls
variable {p : Program} {l : Launch} {e : Env} {R : Room} {s : State} {m : MethodId} {args : Array Value} {below : List Frame} {meth : Method} {c : Code} {T : State} {locs : List Loc} {cells slots : Nat}
theorem vx_callV (X : Stand p l e R s m args below meth c T locs cells slots) (hexec : p.tables.exec = Jvm.exec) {own C : String} {index : Nat} {y : MethodName} {bytes : ByteArray} {maxL : Nat} {ret : Option FieldType}
    (hown : s.vm.findClass own = some m.cls) (hlink : (Cond.methodLink own index y).before args s = true) (hinst : (Cond.instanceMethod y).before args s = true) (hsel : (Cond.selects C y y).before args s = true)
    (hcode : (Cond.code y bytes maxL ret).before args s = true) (hy : y.cls ≠ "java/lang/invoke/MethodHandle" ∧ y.cls ≠ "java/lang/invoke/VarHandle")
    {W9 : Nat} {Pre : Pt → Array Value → Prop} {Post : Pt → Array Value → Option Value → Pt → Prop} {PostX : Pt → Array Value → Addr → Pt → Prop} (hK : vx_Back l R p e below s args y 3 W9 Pre Post PostX)
    {b : Addr} {cellB : Cell} (hcell : T.heap[b]? = some cellB) (hobj : cellB.vm.isStatics = false) (hcls : s.vm.findClass C = some cellB.cls)
    {g : JFrame} (hg : g.method = m) (hsize : g.locals.size = c.maxLocals) {argsL rest : List Value} (hlen : ∀ sig, parseMethodDescriptor y.desc = some sig → argsL.length = sig.parameters.length)
    (hstack : g.stack = argsL.reverse ++ .ref b :: rest) (hW : 2 * g.monitorRoom + (rest.map fun v => v.category).sum ≤ W9) (hdg : decode c.code g.pc = .ok (.invokevirtual index, 3))
    (hpre : ∀ vm₁, s.WarmedH vm₁ → Pre ⟨T.setVm vm₁, locs, cells, slots⟩ (Value.ref b :: argsL).toArray) :
    (∃ (v : Option Value) (vm₁ : Vm) (B : Pt), s.WarmedH vm₁ ∧ Stand p l e R s m args below meth c B.U B.locs B.cells B.slots ∧ Post ⟨T.setVm vm₁, locs, cells, slots⟩ (Value.ref b :: argsL).toArray v B ∧
      ∀ target, Steps p.tables e below (B.U.setTop { g with pc := g.pc + 3, stack := v.toList ++ rest }) target → Steps p.tables e below (T.setTop g) target) ∨
    (∃ (q : Addr) (vm₁ : Vm) (B : Pt), s.WarmedH vm₁ ∧ Stand p l e R s m args below meth c B.U B.locs B.cells B.slots ∧ PostX ⟨T.setVm vm₁, locs, cells, slots⟩ (Value.ref b :: argsL).toArray q B ∧
      Steps p.tables e below (T.setTop g) ((B.U.setTop { g with stack := rest }).pushFrame (.throwing q))) := by
  obtain ⟨mk, methM, hnamed, hmethM, hstM, habM⟩ := Cond.instanceMethod_spec hinst
  obtain ⟨methM', cM, hmethM', -, -, -, -, -, -, hsigM⟩ := Cond.code_spec hnamed hcode
  cases hmethM.symm.trans hmethM'
  obtain ⟨c2, r2, m2, q1, q2, q3, q4, kP, hkP, hkPi⟩ := Cond.selects_spec hsel
  cases hcls.symm.trans q1
  cases (State.methodFound?_of_named hnamed hy).symm.trans q2
  cases hnamed.symm.trans q3
  have hselP : selectMethod e.platform s.vm cellB.cls mk = .method mk := by rw [Launch.admits_selectMethod X.admits]; exact q4
  obtain ⟨vm₁, X₁, hstep₁⟩ := X.invokevirtual hexec hown hlink hnamed hmethM hstM hkP hkPi hy (a := b) (cell := cellB) hcell
    (fun z h => by rw [h] at hobj; cases hobj) hselP hmethM habM hkP hkPi (g := g) hg (argsL := argsL) (rest := rest) (hlen _ hsigM) hstack hdg
  rcases hK m meth c ⟨T.setVm vm₁, locs, cells, slots⟩ { g with stack := rest } (.invokevirtual index) mk (Value.ref b :: argsL).toArray X₁ hg hsize hdg hW (X₁.named hnamed) (hpre vm₁ X₁.warmed) with ⟨v, B, X', hpost, hsteps⟩ | ⟨q, B, X', hpost, hsteps⟩
  · exact Or.inl ⟨v, vm₁, B, X₁.warmed, X', hpost, fun target h => hstep₁ _ fun acts => by rw [doInvoke_state]; exact hsteps.trans h⟩
  · exact Or.inr ⟨q, vm₁, B, X₁.warmed, X', hpost, hstep₁ _ fun acts => by rw [doInvoke_state]; exact hsteps⟩
theorem vx_callS (X : Stand p l e R s m args below meth c T locs cells slots) (hexec : p.tables.exec = Jvm.exec) {own : String} {index : Nat} {y : MethodName} {bytes : ByteArray} {maxL : Nat} {ret : Option FieldType}
    (hown : s.vm.findClass own = some m.cls) (hlink : (Cond.methodLink own index y).before args s = true) (hstat : (Cond.static y).before args s = true) (hinit : (Cond.initialized y.cls).before args s = true)
    (hcode : (Cond.code y bytes maxL ret).before args s = true) (hy : y.cls ≠ "java/lang/invoke/MethodHandle" ∧ y.cls ≠ "java/lang/invoke/VarHandle")
    {W9 : Nat} {Pre : Pt → Array Value → Prop} {Post : Pt → Array Value → Option Value → Pt → Prop} {PostX : Pt → Array Value → Addr → Pt → Prop} (hK : vx_Back l R p e below s args y 3 W9 Pre Post PostX)
    {g : JFrame} (hg : g.method = m) (hsize : g.locals.size = c.maxLocals) {argsL rest : List Value} (hlen : ∀ sig, parseMethodDescriptor y.desc = some sig → argsL.length = sig.parameters.length)
    (hstack : g.stack = argsL.reverse ++ rest) (hW : 2 * g.monitorRoom + (rest.map fun v => v.category).sum ≤ W9) (hdg : decode c.code g.pc = .ok (.invokestatic index, 3))
    (hpre : ∀ vm₁, s.WarmedH vm₁ → Pre ⟨T.setVm vm₁, locs, cells, slots⟩ argsL.toArray) :
    (∃ (v : Option Value) (vm₁ : Vm) (B : Pt), s.WarmedH vm₁ ∧ Stand p l e R s m args below meth c B.U B.locs B.cells B.slots ∧ Post ⟨T.setVm vm₁, locs, cells, slots⟩ argsL.toArray v B ∧
      ∀ target, Steps p.tables e below (B.U.setTop { g with pc := g.pc + 3, stack := v.toList ++ rest }) target → Steps p.tables e below (T.setTop g) target) ∨
    (∃ (q : Addr) (vm₁ : Vm) (B : Pt), s.WarmedH vm₁ ∧ Stand p l e R s m args below meth c B.U B.locs B.cells B.slots ∧ PostX ⟨T.setVm vm₁, locs, cells, slots⟩ argsL.toArray q B ∧
      Steps p.tables e below (T.setTop g) ((B.U.setTop { g with stack := rest }).pushFrame (.throwing q))) := by
  obtain ⟨mk, hnamed⟩ := Cond.code_named hcode
  obtain ⟨methM, cM, hmethM, -, -, -, -, -, -, hsigM⟩ := Cond.code_spec hnamed hcode
  have hstatic : methM.isStatic = true := Cond.static_spec hnamed hmethM hstat
  obtain ⟨kP, hkP, -⟩ := className_of_methodNamed hnamed
  have hinitP : kP.init = .initialized := Cond.initialized_spec (findClass_of_methodNamed hnamed) hkP hinit
  obtain ⟨vm₁, X₁, hstep₁⟩ := X.invokestatic hexec hown hlink hnamed hmethM hstatic hkP hinitP hy (g := g) hg (argsL := argsL) (rest := rest) (hlen _ hsigM) hstack hdg
  rcases hK m meth c ⟨T.setVm vm₁, locs, cells, slots⟩ { g with stack := rest } (.invokestatic index) mk argsL.toArray X₁ hg hsize hdg hW (X₁.named hnamed) (hpre vm₁ X₁.warmed) with ⟨v, B, X', hpost, hsteps⟩ | ⟨q, B, X', hpost, hsteps⟩
  · exact Or.inl ⟨v, vm₁, B, X₁.warmed, X', hpost, fun target h => hstep₁ _ fun acts => by rw [doInvoke_state]; exact hsteps.trans h⟩
  · exact Or.inr ⟨q, vm₁, B, X₁.warmed, X', hpost, hstep₁ _ fun acts => by rw [doInvoke_state]; exact hsteps⟩
end Calls
theorem vx_cls {s : State} {T : State} {vm₁ : Vm} {E : String} {k : ClassId} (hW : s.WarmedH vm₁) (h : (T.setVm vm₁).vm.findClass E = some k) : s.vm.findClass E = some k := by
  have h1 : vm₁.findClass E = some k := h
  rw [hW.alike.findClass] at h1
  exact h1
/-- the method's frame g, with q thrown over it -/
def vx_W (p : Program) (l : Launch) (e : Env) (R : Room) (s : State) (m : MethodId) (args : Array Value) (below : List Frame) (meth : Method) (c : Code) (H : Heap) (locs : List Loc) (cells slots : Nat) (Q : State → Prop) (g : JFrame) (q : Addr) : Prop :=
  ∀ T : State, T.heap = H → Stand p l e R s m args below meth c T locs cells slots → ∃ t, Steps p.tables e below ((T.setTop g).pushFrame (.throwing q)) t ∧ Q t
def vx_Run (p : Program) (l : Launch) (e : Env) (R : Room) (s : State) (m : MethodId) (args : Array Value) (below : List Frame) (meth : Method) (c : Code) (H : Heap) (locs : List Loc) (cells slots mc ms : Nat) (g : JFrame) (rest : List Value) (Qa : State → Outcome → State → Prop) (XC : String → State → State → Prop) (free : Addr → Prop) : Prop :=
  ∀ T : State, T.heap = H → Stand p l e R s m args below meth c T locs cells slots →
    (∃ (v : Option Value) (st₀ t T' : State) (L : List Loc), st₀.heap = H ∧ Stand p l e R s m args below meth c T' (locs ++ L) (cells + mc) (slots + ms) ∧ (∀ q ∈ L, free q.base) ∧ T'.heap = t.heap ∧ T'.vm = t.vm ∧ Qa st₀ (.returned v) t ∧
      Goes p e below T g T' { g with pc := g.pc + 3, stack := v.toList ++ rest }) ∨
    (∃ (q : Addr) (st₀ t T' : State) (L : List Loc) (E : String) (ce : Cell), st₀.heap = H ∧ Stand p l e R s m args below meth c T' (locs ++ L) (cells + mc) (slots + ms) ∧ (∀ z ∈ L, free z.base) ∧ T'.heap = t.heap ∧ T'.vm = t.vm ∧ XC E st₀ t ∧ t.heap[q]? = some ce ∧ ce.vm = .none ∧ s.vm.findClass E = some ce.cls ∧
      Steps p.tables e below (T.setTop g) ((T'.setTop { g with stack := rest }).pushFrame (.throwing q)))
def vx_X {S : Type} (px : S → Prop) (B : String → S → State → Prop) (A : Nat → Prop) : String → State → State → Prop := fun E st t => ∃ u : S, px u ∧ B E u t ∧ va_F A st t
section Runs
variable {p : Program} {l : Launch} {e : Env} {R : Room} {s : State} {m : MethodId} {args : Array Value} {below : List Frame} {meth : Method} {c : Code} {H : Heap} {locs : List Loc} {cells slots : Nat}
variable {y : MethodName} {bytes cc : ByteArray} {maxL nL mc ms n index : Nat} {ret : Option FieldType} {ws : List Cond} {rm : Room} {Pc : Array Value → State → Prop} {Qc : Array Value → State → Outcome → State → Prop} {XC : String → State → State → Prop} {free : Addr → Prop} {Ts : List Cond} {own C : String} {b : Addr} {As rest : List Value} {g : JFrame}
theorem vx_callBack (cb : CallB R s args own index y bytes maxL ret ws rm mc ms n) (hM : vx_Met l y ws rm Pc Qc XC mc ms free) (hbl : FrameBlind Pc) : vx_Back l R p e below s args y 3 8 (PreOf R mc ms Pc) (PostOf Qc mc ms free) (vx_Post XC mc ms free) := by
  obtain ⟨hrc, hrs, hfr, hlo, hws, hcw, -, hini, -⟩ := cb
  exact vx_back (bytes := bytes) (maxL := maxL) (ret := ret) hM hbl hrc hrs hfr hlo hws hcw (fun a' U hW => word_at hW (Or.inl (by first | rfl | simp [Cond.onTables, Cond.keeps, Cond.steady])) hini)
theorem vx_runV (S : CallFix p m c cc nL s args Ts own) (hM : vx_Met l y ws rm Pc Qc XC mc ms free) (cw : CallW R s args own C index y bytes maxL ret ws rm mc ms n) (hp : PreV s H C b Pc As)
    (hg : g.method = m) (hn : As.length = n) (hsize : g.locals.size = nL) (hstack : g.stack = As.reverse ++ .ref b :: rest) (hW : 2 * g.monitorRoom + (rest.map fun v => v.category).sum ≤ 8) (hdg : decode cc g.pc = .ok (.invokevirtual index, 3)) (hf : cells + mc ≤ R.cells ∧ slots + ms ≤ R.slots) :
    vx_Run p l e R s m args below meth c H locs cells slots mc ms g rest (Qc (Value.ref b :: As).toArray) XC free := by
  have hK : vx_Back l R p e below s args y 3 8 (PreOf R mc ms Pc) (PostOf Qc mc ms free) (vx_Post XC mc ms free) := vx_callBack cw.1 hM hp.1
  obtain ⟨⟨-, -, -, -, -, -, hcode, -, hy, hlen, hl⟩, hin, hse⟩ := cw
  obtain ⟨hx, hb, hml, ho, -⟩ := S
  obtain ⟨-, ⟨cellB, hcB, hoB, hclB⟩, hPc⟩ := hp
  intro T hT X
  rcases vx_callV X hx (C := C) (bytes := bytes) (maxL := maxL) (ret := ret) ho hl hin hse hcode hy hK (by rw [hT]; exact hcB) hoB hclB hg (hsize.trans hml.symm) (argsL := As) (rest := rest) (fun sig h => hn.trans (hlen sig h)) hstack hW (by rw [hb]; exact hdg)
    (fun vm₁ hW₁ => ⟨hf.1, hf.2, hPc (T.setVm vm₁) hT hW₁⟩) with ⟨v, vm₁, ⟨U', l2, c2, s2⟩, hW₁, X', ⟨g', mk, t, L, e1, e2, hq, h1, hL, h2, h3⟩, st⟩ | ⟨q, vm₁, ⟨U', l2, c2, s2⟩, hW₁, X', ⟨g', mk, t, L, E, ce, e1, e2, hq, hce, hcv, hcl, h1, hL, h2, h3⟩, st⟩
  · dsimp only [Pt.U, Pt.locs, Pt.cells, Pt.slots] at X' e1 e2 h1 h2 h3 st
    subst h1; subst h2; subst h3
    exact Or.inl ⟨v, (T.setVm vm₁).calling g' mk (Value.ref b :: As).toArray, t, U', L, hT, X', hL, e1, e2, hq, st⟩
  · dsimp only [Pt.U, Pt.locs, Pt.cells, Pt.slots] at X' e1 e2 h1 h2 h3 st hcl
    subst h1; subst h2; subst h3
    exact Or.inr ⟨q, (T.setVm vm₁).calling g' mk (Value.ref b :: As).toArray, t, U', L, E, ce, hT, X', hL, e1, e2, hq, hce, hcv, vx_cls hW₁ hcl, st⟩
theorem vx_runS (S : CallFix p m c cc nL s args Ts own) (hM : vx_Met l y ws rm Pc Qc XC mc ms free) (cw : CallB R s args own index y bytes maxL ret ws rm mc ms n ∧ (Cond.static y).before args s = true) (hp : PreS s H Pc As)
    (hg : g.method = m) (hn : As.length = n) (hsize : g.locals.size = nL) (hstack : g.stack = As.reverse ++ rest) (hW : 2 * g.monitorRoom + (rest.map fun v => v.category).sum ≤ 8) (hdg : decode cc g.pc = .ok (.invokestatic index, 3)) (hf : cells + mc ≤ R.cells ∧ slots + ms ≤ R.slots) :
    vx_Run p l e R s m args below meth c H locs cells slots mc ms g rest (Qc As.toArray) XC free := by
  have hK : vx_Back l R p e below s args y 3 8 (PreOf R mc ms Pc) (PostOf Qc mc ms free) (vx_Post XC mc ms free) := vx_callBack cw.1 hM hp.1
  obtain ⟨⟨-, -, -, -, -, -, hcode, hini, hy, hlen, hl⟩, hstt⟩ := cw
  obtain ⟨hx, hb, hml, ho, -⟩ := S
  intro T hT X
  rcases vx_callS X hx (bytes := bytes) (maxL := maxL) (ret := ret) ho hl hstt hini hcode hy hK hg (hsize.trans hml.symm) (argsL := As) (rest := rest) (fun sig h => hn.trans (hlen sig h)) hstack hW (by rw [hb]; exact hdg)
    (fun vm₁ hW₁ => ⟨hf.1, hf.2, hp.2 (T.setVm vm₁) hT hW₁⟩) with ⟨v, vm₁, ⟨U', l2, c2, s2⟩, hW₁, X', ⟨g', mk, t, L, e1, e2, hq, h1, hL, h2, h3⟩, st⟩ | ⟨q, vm₁, ⟨U', l2, c2, s2⟩, hW₁, X', ⟨g', mk, t, L, E, ce, e1, e2, hq, hce, hcv, hcl, h1, hL, h2, h3⟩, st⟩
  · dsimp only [Pt.U, Pt.locs, Pt.cells, Pt.slots] at X' e1 e2 h1 h2 h3 st
    subst h1; subst h2; subst h3
    exact Or.inl ⟨v, (T.setVm vm₁).calling g' mk As.toArray, t, U', L, hT, X', hL, e1, e2, hq, st⟩
  · dsimp only [Pt.U, Pt.locs, Pt.cells, Pt.slots] at X' e1 e2 h1 h2 h3 st hcl
    subst h1; subst h2; subst h3
    exact Or.inr ⟨q, (T.setVm vm₁).calling g' mk As.toArray, t, U', L, E, ce, hT, X', hL, e1, e2, hq, hce, hcv, vx_cls hW₁ hcl, st⟩
end Runs
section Rows
variable {p : Program} {l : Launch} {e : Env} {R : Room} {s : State} {m : MethodId} {args : Array Value} {below : List Frame} {meth : Method} {c : Code} {H : Heap} {locs : List Loc} {cells slots : Nat} {Q : State → Prop}
variable {mc ms : Nat} {free : Addr → Prop} {A0 A1 : Nat → Prop} {H0 : Heap} {a : Array Value} {pc : Nat} {ls : Array Slot} {st0 rest : List Value}
theorem vx_keep {st₀ t T' : State} {L : List Loc} (h0 : st₀.heap = H) (e1 : T'.heap = t.heap) (hS : va_S A0 H0 H locs) (hA : ∀ q, q < H.size → A1 q → A0 q) (hf : ∀ q, free q → A0 q) (hL : ∀ q ∈ L, free q.base) (hF : va_F A1 st₀ t) :
    H.size ≤ T'.heap.size ∧ (∀ q : Nat, q < H.size → ¬ A1 q → T'.heap[q]? = H[q]?) ∧ va_S A0 H0 T'.heap (locs ++ L) := by
  obtain ⟨hz, hk⟩ := hF
  rw [h0] at hz hk
  exact ⟨by rw [e1]; exact hz, fun q h1 h2 => by rw [e1]; exact hk q h1 h2,
    ⟨Nat.le_trans hS.1 (by rw [e1]; exact hz), fun q h1 h2 => by rw [e1, hk q (Nat.lt_of_lt_of_le h1 hS.1) (fun z => h2 (hA q (Nat.lt_of_lt_of_le h1 hS.1) z))]; exact hS.2.1 q h1 h2, fun q hq => by
      rcases List.mem_append.mp hq with h | h
      · exact hS.2.2 q h
      · exact hf _ (hL q h)⟩⟩
theorem vx_calli {S SX : Type} {post : Int32 → S → Prop} {px : SX → Prop} {B : S → State → Prop} {BX : String → SX → State → Prop} {AX : Nat → Prop} (hr : vx_Run p l e R s m args below meth c H locs cells slots mc ms (F0 m pc ls st0) rest (va_Qi post B A1 a) (vx_X px BX AX) free) (hS : va_S A0 H0 H locs) (hA : ∀ q, q < H.size → A1 q → A0 q) (hf : ∀ q, free q → A0 q) (hAX : ∀ q, q < H.size → AX q → A0 q)
    (kx : ∀ (E : String) (ce : Cell) (q9 : Addr) (u : SX) (t : State) (H1 : Heap) (locs1 : List Loc), t.heap = H1 → s.vm.Alike t.vm → px u → BX E u t → H.size ≤ H1.size → (∀ q : Nat, q < H.size → ¬ AX q → H1[q]? = H[q]?) → va_S A0 H0 H1 locs1 → H1[q9]? = some ce → ce.vm = .none → s.vm.findClass E = some ce.cls → vx_W p l e R s m args below meth c H1 locs1 (cells + mc) (slots + ms) Q (F0 m pc ls rest) q9)
    (kk : ∀ (r : Int32) (u : S) (t : State) (H1 : Heap) (locs1 : List Loc), t.heap = H1 → s.vm.Alike t.vm → post r u → B u t → H.size ≤ H1.size → (∀ q : Nat, q < H.size → ¬ A1 q → H1[q]? = H[q]?) → va_S A0 H0 H1 locs1 → W p l e R s m args below meth c H1 locs1 (cells + mc) (slots + ms) Q (F0 m (pc + 3) ls (.int r :: rest))) : W p l e R s m args below meth c H locs cells slots Q (F0 m pc ls st0) := by
  intro T hT X
  rcases hr T hT X with ⟨v, st₀, t, T', L, h0, X', hL, e1, e2, ⟨⟨r, u, hv, hp, hb⟩, hF⟩, st⟩ | ⟨q, st₀, t, T', L, E, ce, h0, X', hL, e1, e2, ⟨u, hp, hb, hF⟩, hce, hcv, hcl, st⟩
  · cases hv
    obtain ⟨k1, k2, k3⟩ := vx_keep h0 e1 hS hA hf hL hF
    obtain ⟨t2, a1, b1⟩ := kk r u t T'.heap (locs ++ L) e1.symm (by rw [← e2]; exact X'.warmed.alike) hp hb k1 k2 k3 T' rfl X'
    exact ⟨t2, st t2 a1, b1⟩
  · obtain ⟨k1, k2, k3⟩ := vx_keep h0 e1 hS hAX hf hL hF
    obtain ⟨t2, a1, b1⟩ := kx E ce q u t T'.heap (locs ++ L) e1.symm (by rw [← e2]; exact X'.warmed.alike) hp hb k1 k2 k3 (by rw [e1]; exact hce) hcv hcl T' rfl X'
    exact ⟨t2, st.trans a1, b1⟩
theorem vx_calll {S SX : Type} {post : Int64 → S → Prop} {px : SX → Prop} {B : S → State → Prop} {BX : String → SX → State → Prop} {AX : Nat → Prop} (hr : vx_Run p l e R s m args below meth c H locs cells slots mc ms (F0 m pc ls st0) rest (va_Ql post B A1 a) (vx_X px BX AX) free) (hS : va_S A0 H0 H locs) (hA : ∀ q, q < H.size → A1 q → A0 q) (hf : ∀ q, free q → A0 q) (hAX : ∀ q, q < H.size → AX q → A0 q)
    (kx : ∀ (E : String) (ce : Cell) (q9 : Addr) (u : SX) (t : State) (H1 : Heap) (locs1 : List Loc), t.heap = H1 → s.vm.Alike t.vm → px u → BX E u t → H.size ≤ H1.size → (∀ q : Nat, q < H.size → ¬ AX q → H1[q]? = H[q]?) → va_S A0 H0 H1 locs1 → H1[q9]? = some ce → ce.vm = .none → s.vm.findClass E = some ce.cls → vx_W p l e R s m args below meth c H1 locs1 (cells + mc) (slots + ms) Q (F0 m pc ls rest) q9)
    (kk : ∀ (r : Int64) (u : S) (t : State) (H1 : Heap) (locs1 : List Loc), t.heap = H1 → s.vm.Alike t.vm → post r u → B u t → H.size ≤ H1.size → (∀ q : Nat, q < H.size → ¬ A1 q → H1[q]? = H[q]?) → va_S A0 H0 H1 locs1 → W p l e R s m args below meth c H1 locs1 (cells + mc) (slots + ms) Q (F0 m (pc + 3) ls (.long r :: rest))) : W p l e R s m args below meth c H locs cells slots Q (F0 m pc ls st0) := by
  intro T hT X
  rcases hr T hT X with ⟨v, st₀, t, T', L, h0, X', hL, e1, e2, ⟨⟨r, u, hv, hp, hb⟩, hF⟩, st⟩ | ⟨q, st₀, t, T', L, E, ce, h0, X', hL, e1, e2, ⟨u, hp, hb, hF⟩, hce, hcv, hcl, st⟩
  · cases hv
    obtain ⟨k1, k2, k3⟩ := vx_keep h0 e1 hS hA hf hL hF
    obtain ⟨t2, a1, b1⟩ := kk r u t T'.heap (locs ++ L) e1.symm (by rw [← e2]; exact X'.warmed.alike) hp hb k1 k2 k3 T' rfl X'
    exact ⟨t2, st t2 a1, b1⟩
  · obtain ⟨k1, k2, k3⟩ := vx_keep h0 e1 hS hAX hf hL hF
    obtain ⟨t2, a1, b1⟩ := kx E ce q u t T'.heap (locs ++ L) e1.symm (by rw [← e2]; exact X'.warmed.alike) hp hb k1 k2 k3 (by rw [e1]; exact hce) hcv hcl T' rfl X'
    exact ⟨t2, st.trans a1, b1⟩
theorem vx_callf {S SX : Type} {post : UInt32 → S → Prop} {px : SX → Prop} {B : S → State → Prop} {BX : String → SX → State → Prop} {AX : Nat → Prop} (hr : vx_Run p l e R s m args below meth c H locs cells slots mc ms (F0 m pc ls st0) rest (va_Qf post B A1 a) (vx_X px BX AX) free) (hS : va_S A0 H0 H locs) (hA : ∀ q, q < H.size → A1 q → A0 q) (hf : ∀ q, free q → A0 q) (hAX : ∀ q, q < H.size → AX q → A0 q)
    (kx : ∀ (E : String) (ce : Cell) (q9 : Addr) (u : SX) (t : State) (H1 : Heap) (locs1 : List Loc), t.heap = H1 → s.vm.Alike t.vm → px u → BX E u t → H.size ≤ H1.size → (∀ q : Nat, q < H.size → ¬ AX q → H1[q]? = H[q]?) → va_S A0 H0 H1 locs1 → H1[q9]? = some ce → ce.vm = .none → s.vm.findClass E = some ce.cls → vx_W p l e R s m args below meth c H1 locs1 (cells + mc) (slots + ms) Q (F0 m pc ls rest) q9)
    (kk : ∀ (r : UInt32) (u : S) (t : State) (H1 : Heap) (locs1 : List Loc), t.heap = H1 → s.vm.Alike t.vm → post r u → B u t → H.size ≤ H1.size → (∀ q : Nat, q < H.size → ¬ A1 q → H1[q]? = H[q]?) → va_S A0 H0 H1 locs1 → W p l e R s m args below meth c H1 locs1 (cells + mc) (slots + ms) Q (F0 m (pc + 3) ls (.float r :: rest))) : W p l e R s m args below meth c H locs cells slots Q (F0 m pc ls st0) := by
  intro T hT X
  rcases hr T hT X with ⟨v, st₀, t, T', L, h0, X', hL, e1, e2, ⟨⟨r, u, hv, hp, hb⟩, hF⟩, st⟩ | ⟨q, st₀, t, T', L, E, ce, h0, X', hL, e1, e2, ⟨u, hp, hb, hF⟩, hce, hcv, hcl, st⟩
  · cases hv
    obtain ⟨k1, k2, k3⟩ := vx_keep h0 e1 hS hA hf hL hF
    obtain ⟨t2, a1, b1⟩ := kk r u t T'.heap (locs ++ L) e1.symm (by rw [← e2]; exact X'.warmed.alike) hp hb k1 k2 k3 T' rfl X'
    exact ⟨t2, st t2 a1, b1⟩
  · obtain ⟨k1, k2, k3⟩ := vx_keep h0 e1 hS hAX hf hL hF
    obtain ⟨t2, a1, b1⟩ := kx E ce q u t T'.heap (locs ++ L) e1.symm (by rw [← e2]; exact X'.warmed.alike) hp hb k1 k2 k3 (by rw [e1]; exact hce) hcv hcl T' rfl X'
    exact ⟨t2, st.trans a1, b1⟩
theorem vx_calld {S SX : Type} {post : UInt64 → S → Prop} {px : SX → Prop} {B : S → State → Prop} {BX : String → SX → State → Prop} {AX : Nat → Prop} (hr : vx_Run p l e R s m args below meth c H locs cells slots mc ms (F0 m pc ls st0) rest (va_Qd post B A1 a) (vx_X px BX AX) free) (hS : va_S A0 H0 H locs) (hA : ∀ q, q < H.size → A1 q → A0 q) (hf : ∀ q, free q → A0 q) (hAX : ∀ q, q < H.size → AX q → A0 q)
    (kx : ∀ (E : String) (ce : Cell) (q9 : Addr) (u : SX) (t : State) (H1 : Heap) (locs1 : List Loc), t.heap = H1 → s.vm.Alike t.vm → px u → BX E u t → H.size ≤ H1.size → (∀ q : Nat, q < H.size → ¬ AX q → H1[q]? = H[q]?) → va_S A0 H0 H1 locs1 → H1[q9]? = some ce → ce.vm = .none → s.vm.findClass E = some ce.cls → vx_W p l e R s m args below meth c H1 locs1 (cells + mc) (slots + ms) Q (F0 m pc ls rest) q9)
    (kk : ∀ (r : UInt64) (u : S) (t : State) (H1 : Heap) (locs1 : List Loc), t.heap = H1 → s.vm.Alike t.vm → post r u → B u t → H.size ≤ H1.size → (∀ q : Nat, q < H.size → ¬ A1 q → H1[q]? = H[q]?) → va_S A0 H0 H1 locs1 → W p l e R s m args below meth c H1 locs1 (cells + mc) (slots + ms) Q (F0 m (pc + 3) ls (.double r :: rest))) : W p l e R s m args below meth c H locs cells slots Q (F0 m pc ls st0) := by
  intro T hT X
  rcases hr T hT X with ⟨v, st₀, t, T', L, h0, X', hL, e1, e2, ⟨⟨r, u, hv, hp, hb⟩, hF⟩, st⟩ | ⟨q, st₀, t, T', L, E, ce, h0, X', hL, e1, e2, ⟨u, hp, hb, hF⟩, hce, hcv, hcl, st⟩
  · cases hv
    obtain ⟨k1, k2, k3⟩ := vx_keep h0 e1 hS hA hf hL hF
    obtain ⟨t2, a1, b1⟩ := kk r u t T'.heap (locs ++ L) e1.symm (by rw [← e2]; exact X'.warmed.alike) hp hb k1 k2 k3 T' rfl X'
    exact ⟨t2, st t2 a1, b1⟩
  · obtain ⟨k1, k2, k3⟩ := vx_keep h0 e1 hS hAX hf hL hF
    obtain ⟨t2, a1, b1⟩ := kx E ce q u t T'.heap (locs ++ L) e1.symm (by rw [← e2]; exact X'.warmed.alike) hp hb k1 k2 k3 (by rw [e1]; exact hce) hcv hcl T' rfl X'
    exact ⟨t2, st.trans a1, b1⟩
theorem vx_callv {S SX : Type} {post : S → Prop} {px : SX → Prop} {B : S → State → Prop} {BX : String → SX → State → Prop} {AX : Nat → Prop} (hr : vx_Run p l e R s m args below meth c H locs cells slots mc ms (F0 m pc ls st0) rest (va_Qv post B A1 a) (vx_X px BX AX) free) (hS : va_S A0 H0 H locs) (hA : ∀ q, q < H.size → A1 q → A0 q) (hf : ∀ q, free q → A0 q) (hAX : ∀ q, q < H.size → AX q → A0 q)
    (kx : ∀ (E : String) (ce : Cell) (q9 : Addr) (u : SX) (t : State) (H1 : Heap) (locs1 : List Loc), t.heap = H1 → s.vm.Alike t.vm → px u → BX E u t → H.size ≤ H1.size → (∀ q : Nat, q < H.size → ¬ AX q → H1[q]? = H[q]?) → va_S A0 H0 H1 locs1 → H1[q9]? = some ce → ce.vm = .none → s.vm.findClass E = some ce.cls → vx_W p l e R s m args below meth c H1 locs1 (cells + mc) (slots + ms) Q (F0 m pc ls rest) q9)
    (kk : ∀ (u : S) (t : State) (H1 : Heap) (locs1 : List Loc), t.heap = H1 → s.vm.Alike t.vm → post u → B u t → H.size ≤ H1.size → (∀ q : Nat, q < H.size → ¬ A1 q → H1[q]? = H[q]?) → va_S A0 H0 H1 locs1 → W p l e R s m args below meth c H1 locs1 (cells + mc) (slots + ms) Q (F0 m (pc + 3) ls (rest))) : W p l e R s m args below meth c H locs cells slots Q (F0 m pc ls st0) := by
  intro T hT X
  rcases hr T hT X with ⟨v, st₀, t, T', L, h0, X', hL, e1, e2, ⟨⟨u, hv, hp, hb⟩, hF⟩, st⟩ | ⟨q, st₀, t, T', L, E, ce, h0, X', hL, e1, e2, ⟨u, hp, hb, hF⟩, hce, hcv, hcl, st⟩
  · cases hv
    obtain ⟨k1, k2, k3⟩ := vx_keep h0 e1 hS hA hf hL hF
    obtain ⟨t2, a1, b1⟩ := kk u t T'.heap (locs ++ L) e1.symm (by rw [← e2]; exact X'.warmed.alike) hp hb k1 k2 k3 T' rfl X'
    exact ⟨t2, st t2 a1, b1⟩
  · obtain ⟨k1, k2, k3⟩ := vx_keep h0 e1 hS hAX hf hL hF
    obtain ⟨t2, a1, b1⟩ := kx E ce q u t T'.heap (locs ++ L) e1.symm (by rw [← e2]; exact X'.warmed.alike) hp hb k1 k2 k3 (by rw [e1]; exact hce) hcv hcl T' rfl X'
    exact ⟨t2, st.trans a1, b1⟩
/-- caught by the row x of this method's table; the rows ahead don't take it -/
theorem vx_catch {own name : String} {E : String} {ce : Cell} {q : Addr} (hown : s.vm.findClass own = some m.cls) (pre : List ExceptionTableEntry) (x : ExceptionTableEntry) (suf : List ExceptionTableEntry) (hsplit : c.exceptionTable.toList = pre ++ x :: suf)
    (hpass : ∀ z ∈ pre, covers z pc = false ∨ (z.catchType ≠ 0 ∧ ∃ nm : String, (Cond.classLink own z.catchType nm).before args s = true ∧ va_Nc E nm s)) (hx : covers x pc = true) (h0 : x.catchType ≠ 0)
    (hlink : (Cond.classLink own x.catchType name).before args s = true) (hcast : (Cond.castable E name).before args s = true) (hcell : H[q]? = some ce) (hv : ce.vm = .none) (hcl : s.vm.findClass E = some ce.cls)
    (kk : W p l e R s m args below meth c H locs cells slots Q (F0 m x.handlerPc ls [.ref q])) : vx_W p l e R s m args below meth c H locs cells slots Q (F0 m pc ls rest) q := by
  intro T hT X
  have hpl : e.platform.magicAccessors = ({} : Platform).magicAccessors := by rw [X.admits.platform]
  obtain ⟨c3, c4, hc3, hc4, hasg⟩ := Cond.castable_spec hcast
  cases Option.some.inj (hc3.symm.trans hcl)
  obtain ⟨c5, hc5, hcl5⟩ := Cond.classLink_spec hown hlink e.platform hpl
  cases Option.some.inj (hc4.symm.trans hc5)
  obtain ⟨vm', X', st⟩ := X.thenCaughtThrough q (g := F0 m pc ls rest) rfl (Steps.refl _) (by rw [hT]; exact hcell) (by rw [hv]; rfl) (by obtain ⟨k9, h9, -⟩ := Vm.findClass_spec hcl; exact ⟨k9, h9⟩) pre x suf hsplit
    (fun z hz => by
      rcases hpass z hz with h | ⟨hz0, nm, hl1, hn1⟩
      · exact Or.inl h
      · obtain ⟨c6, hc6, hcl6⟩ := Cond.classLink_spec hown hl1 e.platform hpl
        obtain ⟨a8, b8, h1, h2, h3⟩ := hn1
        cases Option.some.inj (h1.symm.trans hcl)
        cases Option.some.inj (h2.symm.trans hc6)
        exact Or.inr ⟨hz0, _, hcl6, h3⟩) hx (Or.inr ⟨h0, c4, hcl5, hasg⟩)
  obtain ⟨t, a1, b1⟩ := kk (T.setVm vm') hT X'
  exact ⟨t, st.trans a1, b1⟩
end Rows
section Ends
variable {p : Program} {l : Launch} {e : Env} {R : Room} {s : State} {m : MethodId} {args : Array Value} {below : List Frame} {meth : Method} {c : Code} {H : Heap} {locs : List Loc} {cells slots : Nat} {Q : State → Prop}
variable {mc ms : Nat} {free : Addr → Prop} {A0 A1 : Nat → Prop} {H0 : Heap} {a : Array Value} {ls : Array Slot} {st0 rest : List Value}
variable {Qc : Array Value → State → Outcome → State → Prop} {XC : String → State → State → Prop}
/-- what a body that may throw owes at its end -/
def vx_MQ (below : List Frame) (Qc : Array Value → State → Outcome → State → Prop) (XC : String → State → State → Prop) (a : Array Value) (s : State) (mc ms : Nat) (free : Addr → Prop) : State → Prop := fun t =>
  ∃ o, t.status = .running ∧ Ended t below o ∧ vx_Q Qc XC mc ms free a s o t
theorem vx_ret {g : JFrame} {mc ms : Nat} (k : W p l e R s m args below meth c H locs cells slots (MQ below Qc args s mc ms free) g) : W p l e R s m args below meth c H locs cells slots (vx_MQ below Qc XC args s mc ms free) g := by
  intro T hT X
  obtain ⟨t, a1, o, b1, b2, b3, b4⟩ := k T hT X
  exact ⟨t, a1, o, b1, b2, Or.inl ⟨b3, b4⟩⟩
/-- not caught here: it goes on to the caller -/
theorem vx_widen {g : JFrame} {q : Addr} {k n : Nat} (h1 : cells ≤ k) (h2 : slots ≤ n) (kk : vx_W p l e R s m args below meth c H locs k n Q g q) : vx_W p l e R s m args below meth c H locs cells slots Q g q := fun T hT X => kk T hT (stand_widen X h1 h2)
theorem vx_out {pc : Nat} {E : String} {ce : Cell} {q : Addr} {mc ms : Nat} (hout : ∀ x ∈ c.exceptionTable.toList, covers x pc = false) (hlocks : meth.locks = false) (hcell : H[q]? = some ce) (hv : ce.vm = .none) (hcl : s.vm.findClass E = some ce.cls)
    (hx : ∀ t : State, t.heap = H → s.vm.Alike t.vm → XC E s t) (hf : ∀ z ∈ locs, free z.base) (hc : cells ≤ mc) (hs : slots ≤ ms) :
    vx_W p l e R s m args below meth c H locs cells slots (vx_MQ below Qc XC args s mc ms free) (F0 m pc ls rest) q := by
  intro T hT X
  obtain ⟨st1, hrun, hend, hW, hsm⟩ := X.leaveThrown q (g := F0 m pc ls rest) rfl rfl rfl hout hlocks
  have hcell9 : (T.setFrames (.throwing q :: below)).heap[q]? = some ce := by
    show T.heap[q]? = some ce
    rw [hT]; exact hcell
  exact ⟨_, st1, .threw q, hrun, hend, Or.inr ⟨q, rfl, E, ce, locs, hx _ hT hW.alike, hcell9, hv, hcl, hW, hsm.mono hc hs, hf⟩⟩
theorem vx_frame {U : State} {k n : Nat} (h : s.sameButNew ({ U with vm := s.vm } : State) locs k n) : s.heap.size ≤ U.heap.size ∧ ∀ q : Nat, q < s.heap.size → (∀ z ∈ locs, z.base ≠ q) → U.heap[q]? = s.heap[q]? := by
  obtain ⟨-, h2, -, -, -, h6⟩ := h
  refine ⟨h2, fun q hq hz => ?_⟩
  obtain ⟨c9, e1, e2, e3, e4⟩ := h6 q _ (Array.getElem?_eq_getElem hq)
  have hs : c9.slots = (s.heap[q]).slots := Array.ext_getElem? fun i => e4 i fun hm => hz _ hm rfl
  have h9 : c9 = s.heap[q] := by
    rw [hs] at e2
    exact e2
  have e5 : U.heap[q]? = some c9 := e1
  rw [e5, h9, Array.getElem?_eq_getElem hq]
/-- the words of a throw but the four that speak of the heap -/
def vx_no (w : Cond) : Bool := decide (w ≠ .isRef (.static Bundle.tN "UNASSIGNED_STACK" Bundle.steD)) && decide (w ≠ .isRef (.static Bundle.tN "SUPPRESSED_SENTINEL" Bundle.listD)) && decide (w ≠ .laysStatic Bundle.tN "UNASSIGNED_STACK" Bundle.steD) && decide (w ≠ .laysStatic Bundle.tN "SUPPRESSED_SENTINEL" Bundle.listD)
def vx_at0 (own : String) (ic : Nat) (X : String) (names : List String) : List Cond := (Bundle.ownAtoms0 own ic X names).filter vx_no
def vx_atS (own : String) (ic : Nat) (X : String) (names : List String) : List Cond := (Bundle.ownAtoms own ic X names).filter vx_no
/-- a word that the tables alone decide, or a good one -/
def vx_ot (w : Cond) : Bool := w.onTables || goodWord w
theorem vx_ot_at {args a' : Array Value} {s U : State} {w : Cond} (hW : s.WarmedH U.vm) (hvm : s.vm = U.vm) (hg : vx_ot w = true) (h : w.before args s = true) : w.before a' U = true := by
  simp only [vx_ot, Bool.or_eq_true] at hg
  rcases hg with hg | hg
  · exact va_tabs hg hvm h
  · exact word_at hW (good_of_word hg) h
/-- a list's words: the good ones out of the method's own list, the others by premises of their own -/
theorem vx_hat {args : Array Value} {s : State} {L B : List Cond} (h1 : ∀ w ∈ L.filter goodWord, w.before args s = true) (h2 : ∀ w ∈ L.filter (fun w => !goodWord w), w ∈ B) (h3 : ∀ w ∈ B, w.before args s = true) : ∀ w ∈ L, w.before args s = true := by
  intro w hw
  by_cases g : goodWord w = true
  · exact h1 w (List.mem_filter.mpr ⟨hw, g⟩)
  · refine h3 w (h2 w (List.mem_filter.mpr ⟨hw, ?_⟩))
    show (!goodWord w) = true
    cases hgw : goodWord w
    · rfl
    · exact absurd hgw g
theorem vx_c {args : Array Value} {s : State} {w : Cond} {B : List Cond} (h : w.before args s = true) (t : ∀ w ∈ B, w.before args s = true) : ∀ w' ∈ w :: B, w'.before args s = true := fun w' h' => (List.mem_cons.mp h').elim (fun e => by rw [e]; exact h) (t w')
theorem vx_n {args : Array Value} {s : State} : ∀ w ∈ ([] : List Cond), w.before args s = true := fun _ h => nomatch h
theorem vx_own {args : Array Value} {s : State} {L : List Cond} (h1 : ∀ w ∈ L.filter vx_no, w.before args s = true)
    (hU : (Cond.isRef (.static Bundle.tN "UNASSIGNED_STACK" Bundle.steD)).before args s = true) (hN : (Cond.isRef (.static Bundle.tN "SUPPRESSED_SENTINEL" Bundle.listD)).before args s = true)
    (lU : (Cond.laysStatic Bundle.tN "UNASSIGNED_STACK" Bundle.steD).before args s = true) (lN : (Cond.laysStatic Bundle.tN "SUPPRESSED_SENTINEL" Bundle.listD).before args s = true) : ∀ w ∈ L, w.before args s = true := by
  intro w hw
  by_cases e1 : w = .isRef (.static Bundle.tN "UNASSIGNED_STACK" Bundle.steD)
  · rw [e1]; exact hU
  · by_cases e2 : w = .isRef (.static Bundle.tN "SUPPRESSED_SENTINEL" Bundle.listD)
    · rw [e2]; exact hN
    · by_cases e3 : w = .laysStatic Bundle.tN "UNASSIGNED_STACK" Bundle.steD
      · rw [e3]; exact lU
      · by_cases e4 : w = .laysStatic Bundle.tN "SUPPRESSED_SENTINEL" Bundle.listD
        · rw [e4]; exact lN
        · exact h1 w (List.mem_filter.mpr ⟨hw, by unfold vx_no; rw [decide_eq_true e1, decide_eq_true e2, decide_eq_true e3, decide_eq_true e4]; rfl⟩)
/-- where a static field lies, its class's statics cell in H -/
def vx_L (C n d : String) (A : Nat → Prop) (U : State) (H : Heap) : Prop := ∃ (c : ClassId) (k : Class) (i : Nat) (f : Field) (a : Nat) (cell : Cell), U.vm.findClass C = some c ∧ U.fieldFound? C n d = some (c, k, i, f) ∧ f.isStatic = true ∧ k.statics = some a ∧ H[a]? = some cell ∧ cell.vm.isStatics = true ∧ cell.cls = c ∧ f.slot < cell.slots.size ∧ k.staticTypes[f.slot]? = some f.type ∧ ¬ A a
theorem vx_L.moved {C n d : String} {A : Nat → Prop} {u U : State} {H : Heap} (hvm : u.vm.Alike U.vm) (h : vx_L C n d A u H) : vx_L C n d A U H := by
  obtain ⟨c, k, i, f, a, cell, h1, h2, h3, h4, h5, h6, h7, h8, h9, h10⟩ := h
  obtain ⟨k', hi', he⟩ := State.fieldFound?_setVm hvm h2
  exact ⟨c, k', i, f, a, cell, by rw [hvm.findClass]; exact h1, hi', h3, by rw [he]; exact h4, h5, h6, h7, h8, by rw [he]; exact h9, h10⟩
theorem vx_L.kept {C n d : String} {A : Nat → Prop} {U : State} {H H1 : Heap} (h : vx_L C n d A U H) (hq : ∀ a : Nat, a < H.size → ¬ A a → H1[a]? = H[a]?) : vx_L C n d A U H1 := by
  obtain ⟨c, k, i, f, a, cell, h1, h2, h3, h4, h5, h6, h7, h8, h9, h10⟩ := h
  exact ⟨c, k, i, f, a, cell, h1, h2, h3, h4, by rw [hq a (Array.getElem?_eq_some_iff.mp h5).1 h10]; exact h5, h6, h7, h8, h9, h10⟩
theorem vx_L.narrow {C n d : String} {A B : Nat → Prop} {U : State} {H : Heap} (h : vx_L C n d A U H) (hAB : ∀ q, B q → A q) : vx_L C n d B U H := by
  obtain ⟨c, k, i, f, a, cell, h1, h2, h3, h4, h5, h6, h7, h8, h9, h10⟩ := h
  exact ⟨c, k, i, f, a, cell, h1, h2, h3, h4, h5, h6, h7, h8, h9, fun z => h10 (hAB _ z)⟩
theorem vx_L.word {C n d : String} {A : Nat → Prop} {s : State} {args : Array Value} (h : vx_L C n d A s s.heap) : (Cond.laysStatic C n d).before args s = true := by
  obtain ⟨c, k, i, f, a, cell, h1, h2, h3, h4, h5, h6, h7, h8, h9, -⟩ := h
  show (Cond.laysStatic C n d).holds args s none s [] = true
  exact Cond.laysStatic_of h1 h2 h3 h4 h5 h6 h7 h8 h9
/-- .. and what it holds: null or some reference -/
def vx_Zq (C n d : String) (A : Nat → Prop) (U : State) (H : Heap) : Prop := va_Zq C n d A U H ∧ vx_L C n d A U H
theorem vx_Zq.moved {C n d : String} {A : Nat → Prop} {u U : State} {H : Heap} (hvm : u.vm.Alike U.vm) (h : vx_Zq C n d A u H) : vx_Zq C n d A U H := ⟨va_Zq.moved hvm h.1, vx_L.moved hvm h.2⟩
theorem vx_Zq.kept {C n d : String} {A : Nat → Prop} {U : State} {H H1 : Heap} (h : vx_Zq C n d A U H) (hq : ∀ a : Nat, a < H.size → ¬ A a → H1[a]? = H[a]?) : vx_Zq C n d A U H1 := ⟨va_Zq.kept h.1 hq, vx_L.kept h.2 hq⟩
theorem vx_Zq.narrow {C n d : String} {A B : Nat → Prop} {U : State} {H : Heap} (h : vx_Zq C n d A U H) (hAB : ∀ q, B q → A q) : vx_Zq C n d B U H := ⟨va_Zq.narrow h.1 hAB, vx_L.narrow h.2 hAB⟩
theorem vx_Zqof {args : Array Value} {s : State} {C n d : String} {A : Nat → Prop} (hl : (Cond.laysStatic C n d).before args s = true) (hini : (Cond.initialized C).before args s = true) (h : (Cond.isRef (.static C n d)).before args s = true) (hA : ∀ a : Nat, a < s.heap.size → ¬ A a) : vx_Zq C n d A s s.heap := by
  refine ⟨va_Zqof hl hini h hA, ?_⟩
  obtain ⟨c, k, i, f, a, cell, h1, h2, h3, h4, h5, h6, h7, h8, h9⟩ := Cond.laysStatic_spec hl
  exact ⟨c, k, i, f, a, cell, h1, h2, h3, h4, h5, h6, h7, h8, h9, hA a (Array.getElem?_eq_some_iff.mp h5).1⟩
theorem vx_isRef {C n d : String} {v : Value} {A : Nat → Prop} {s : State} {args : Array Value} (h : va_Z C n d v A s s.heap) (hv : v.isRef = true) : (Cond.isRef (.static C n d)).before args s = true := by
  obtain ⟨cf, kf, fi, f, a, cell, h1, h2, h3, h4, h5, h6, h7, -⟩ := h
  have he : (Term.static C n d).eval args s none [] s = some v := by
    simp [Term.eval, State.fieldNamed?, h1, h2, h4, h5, h6, h7]
  simp only [Cond.before, Cond.holds, Cond.value, he]
  cases v <;> simp_all [Value.isRef]
theorem vx_isRefq {C n d : String} {A : Nat → Prop} {s : State} {args : Array Value} (h : va_Zq C n d A s s.heap) : (Cond.isRef (.static C n d)).before args s = true := by
  rcases h with h | ⟨t, h⟩
  · exact vx_isRef h rfl
  · exact vx_isRef h rfl
/-- the same frame, seen from here: as if the method were called anew in this heap -/
theorem vx_rebase {T : State} (X : Stand p l e R s m args below meth c T locs cells slots) {R' : Room} (hf : R'.frames ≤ R.frames) (hl : R'.locals ≤ R.locals) (hc : cells + R'.cells ≤ R.cells) (hs : slots + R'.slots ≤ R.slots) :
    Stand p l e R' ((T.setVm s.vm).setFrames (.invoking m args :: below)) m args below meth c T [] 0 0 := by
  have htop : (T.setVm s.vm).topJava?.isSome := X.here.top
  have hF : ((T.setVm s.vm).setFrames (.invoking m args :: below)).frames = .invoking m args :: below := State.frames_setFrames _ (State.cur_lt_of_top htop)
  obtain ⟨g₀, hg0⟩ := Option.isSome_iff_exists.mp htop
  obtain ⟨r, hr⟩ := State.topJava?_eq_some.mp hg0
  have hl9 : e.platform.stackLimits (T.setVm s.vm).me = e.platform.stackLimits s.me := X.limits
  have hb9 : (T.setVm s.vm).me.stackBytes = s.me.stackBytes := X.bytes
  refine ⟨X.admits, X.cas, X.clock, hF, ?_, X.hears, X.method, X.code, X.here, X.tail, X.warmed, ?_, ?_, ?_⟩
  · have h := X.room
    have hU : ((T.setVm s.vm).setFrames (.invoking m args :: below)).localsInUse = s.localsInUse := by
      rw [State.localsInUse_invoking hF (meth := meth) (c := c) X.method X.code, State.localsInUse_invoking X.frames X.method X.code]
    simp only [State.hasRoom, Bool.and_eq_true, decide_eq_true_eq] at h ⊢
    obtain ⟨⟨⟨⟨h1, h2, h3, h4, h5, h6⟩, h7⟩, h8⟩, h9⟩ := h
    rw [X.frames, List.length_cons] at h2 h3
    have q1 := X.heapSize
    have q2 := X.used
    simp only [hF, hU, List.length_cons, State.stackLimits_setFrames, State.stackBytes_setFrames, hl9, hb9]
    refine ⟨⟨⟨⟨by omega, by omega, by omega, by omega, by omega, h6⟩, ?_⟩, ?_⟩, X.book⟩
    · show T.heap.size + R'.cells ≤ e.platform.maxCells
      omega
    · show T.slotsUsed + R'.slots ≤ e.platform.maxSlots
      omega
  · rw [State.stackLimits_setFrames]; rfl
  · rw [State.stackBytes_setFrames]; rfl
  · refine ⟨?_, Nat.le_refl _, Nat.le_refl _, ?_, ?_, fun a c9 h9 => ⟨c9, h9, rfl, rfl, fun _ _ => rfl⟩⟩
    · obtain ⟨t, ht, -⟩ := State.frames_cons hr
      show T.setVm s.vm = { ((T.setVm s.vm).setFrames (.invoking m args :: below)).setFrames (T.setVm s.vm).frames with heap := T.heap, slotsUsed := T.slotsUsed }
      rw [State.setFrames_setFrames, State.setFrames_self ht]
      rfl
    · show T.slotsUsed = T.slotsUsed + ((T.heap.toList.drop T.heap.size).map (·.slots.size)).sum
      rw [List.drop_eq_nil_of_le (Nat.le_of_eq Array.length_toList)]
      rfl
    · show ((T.heap.toList.drop T.heap.size).map (·.slots.size)).sum ≤ 0
      rw [List.drop_eq_nil_of_le (Nat.le_of_eq Array.length_toList)]
      exact Nat.le_refl _
/-- 'throw new E()': new; dup; invokespecial; athrow -/
theorem vx_throw0 {cc : ByteArray} {pc : Nat} (hexec : p.tables.exec = Jvm.exec) (hb : c.code = cc) (hl : l.stackTraces = false) {own cls : String} {names : List String} {ik ic mc ms : Nat} {A : Nat → Prop}
    (hown : s.vm.findClass own = some m.cls) (hcls : Bundle.fit cls = true) (hnames : ∀ n ∈ names, Bundle.fit n = true)
    (hk : (Cond.classLink own ik cls).before args s = true) (hini : (Cond.initialized cls).before args s = true) (hat : ∀ w ∈ vx_at0 own ic cls names, w.before args s = true)
    (hgood : ∀ w ∈ Cond.classLink own ik cls :: Cond.initialized cls :: vx_at0 own ic cls names, vx_ot w = true)
    (hU : vx_Zq Bundle.tN "UNASSIGNED_STACK" Bundle.steD A s s.heap) (hN : vx_Zq Bundle.tN "SUPPRESSED_SENTINEL" Bundle.listD A s s.heap) (hS : va_S A s.heap H locs) (hsize : ls.size = c.maxLocals)
    (d0 : decode cc pc = .ok (.new ik, 3)) (d3 : decode cc (pc + 3) = .ok (.dup, 1)) (d4 : decode cc (pc + 4) = .ok (.invokespecial ic, 3)) (d7 : decode cc (pc + 7) = .ok (.athrow, 1))
    (hout : ∀ x ∈ c.exceptionTable.toList, covers x (pc + 7) = false)
    (hRframes : names.length + 3 < R.frames) (hRlocals : (rest.map fun v => v.category).sum + (13 * (names.length + 1) + 42) ≤ R.locals) (hRcells : cells + 1 ≤ R.cells) (hRslots : slots + 6 ≤ R.slots) (hlocks : meth.locks = false)
    (hx : ∀ t : State, s.vm.Alike t.vm → H.size ≤ t.heap.size → (∀ q : Nat, q < H.size → t.heap[q]? = H[q]?) → XC cls s t)
    (hf : ∀ z ∈ locs, free z.base) (hc : cells + 1 ≤ mc) (hs : slots + 6 ≤ ms) :
    W p l e R s m args below meth c H locs cells slots (vx_MQ below Qc XC args s mc ms free) (F0 m pc ls rest) := by
  intro T hT X
  have htr : e.platform.stackTraces = false := (show e.platform.stackTraces = l.stackTraces by rw [X.admits.platform]).trans hl
  have Y := vx_rebase X (R' := { frames := R.frames, locals := R.locals, cells := 1, slots := 6 }) (Nat.le_refl _) (Nat.le_refl _) hRcells hRslots
  obtain ⟨s', hA⟩ : ∃ z, z = (T.setVm s.vm).setFrames (.invoking m args :: below) := ⟨_, rfl⟩
  rw [← hA] at Y
  have hvm : s'.vm = s.vm := by rw [hA]; rfl
  have hhp : s'.heap = H := by rw [hA]; exact hT
  have hW0 : s.WarmedH s'.vm := by rw [hvm]; exact State.WarmedH.refl s
  have hat' : ∀ w ∈ vx_at0 own ic cls names, w.before args s' = true := fun w hw => vx_ot_at hW0 hvm.symm (hgood w (List.mem_cons_of_mem _ (List.mem_cons_of_mem _ hw))) (hat w hw)
  have hk' : (Cond.classLink own ik cls).before args s' = true := vx_ot_at hW0 hvm.symm (hgood _ List.mem_cons_self) hk
  have hini' : (Cond.initialized cls).before args s' = true := vx_ot_at hW0 hvm.symm (hgood _ (List.mem_cons_of_mem _ List.mem_cons_self)) hini
  have hU' : vx_Zq Bundle.tN "UNASSIGNED_STACK" Bundle.steD A s' s'.heap := by rw [hhp]; exact vx_Zq.moved hW0.alike (hU.kept hS.2.1)
  have hN' : vx_Zq Bundle.tN "SUPPRESSED_SENTINEL" Bundle.listD A s' s'.heap := by rw [hhp]; exact vx_Zq.moved hW0.alike (hN.kept hS.2.1)
  have h : ∀ w ∈ Bundle.ownAtoms0 own ic cls names, w.before args s' = true := vx_own hat' (vx_isRefq hU'.1) (vx_isRefq hN'.1) hU'.2.word hN'.2.word
  have hown' : s'.vm.findClass own = some m.cls := by rw [hvm]; exact hown
  have hins : (Cond.instantiable cls 6).before args s' = true := h _ (by simp [Bundle.ownAtoms0])
  obtain ⟨vm₁, cX, kX, hfX, hkX, -, -, X₁, st1⟩ := Y.newCold hexec (own := own) (C := cls) (index := ik) (n := 6) hown' hk' hins hini'
    (g := F0 m pc ls rest) rfl (by rw [hb]; exact d0) (Nat.le_refl _) (Nat.le_refl _)
  generalize hT1 : (T.setVm vm₁).pushCell { cls := cX, slots := kX.instanceTypes.map defaultValue, vm := .none } = T1 at X₁ st1
  have hcat : (Value.ref T.heap.size).category = 1 := rfl
  have hcellA : T1.heap[T.heap.size]? = some (freshCell cX kX) := by rw [← hT1]; exact State.heap_pushCell_size _ _
  have d3' : decode c.code (pc + 3) = .ok (.dup, 1) := by rw [hb]; exact d3
  obtain ⟨U, hsteps, hrun, hend, hW, hsame, ce, hce, hO⟩ := X₁.ctorThrow0 hexec htr (own := own) (cls := cls) (names := names) (ic := ic) hown' hcls hnames h (fun x hx => nomatch hx) hfX hkX hcellA (by rw [hhp, hT]; exact Nat.le_refl _)
    (g := { method := m, pc := pc + 4, locals := ls, stack := .ref T.heap.size :: .ref T.heap.size :: rest, locked := none }) rfl hsize rfl rfl (rest := rest) rfl
    (by rw [hb]; exact d4) (by rw [hb]; exact d7) hout hRframes (by simp only [List.map_cons, List.sum_cons, hcat]; omega) hlocks
  obtain ⟨f1, f2⟩ := vx_frame hsame
  rw [hhp] at f1 f2
  have hWs : s.WarmedH U.vm := State.WarmedH.trans hW0 hW
  have hcl : s.vm.findClass cls = some ce.cls := by
    have h9 := hO.cls
    rw [hvm] at h9
    exact h9
  have hall : s.sameButNew ({ U with vm := s.vm } : State) locs mc ms := by
    subst hA
    obtain ⟨e1, e2⟩ := hsame
    rw [State.setFrames_setFrames] at e1
    have h2 : (T.setVm s.vm).sameButNew ({ U with vm := s.vm } : State) [] (0 + 1) (0 + 6) := ⟨e1, e2⟩
    have h3 := X.same.trans h2
    rw [List.append_nil] at h3
    exact h3.mono hc hs
  refine ⟨U, ?_, .threw T.heap.size, hrun, hend, Or.inr ⟨T.heap.size, rfl, cls, ce, locs, hx U hWs.alike f1 (fun q hq => f2 q hq (fun z hz => nomatch hz)), hce, hO.vm, hcl, hWs, hall, hf⟩⟩
  refine st1 _ ?_
  show Steps p.tables e below (T1.setTop { method := m, pc := pc + 3, locals := ls, stack := .ref T.heap.size :: rest, locked := none }) _
  jvm_step X₁.here [X₁.here.top, hexec, d3', Value.category]
  exact hsteps
/-- 'throw new E("text")': new; dup; ldc; invokespecial; athrow -/
theorem vx_throwS {cc : ByteArray} {pc : Nat} (hexec : p.tables.exec = Jvm.exec) (hb : c.code = cc) (hl : l.stackTraces = false) {own cls text : String} {names : List String} {ik is ic mc ms sa : Nat} {A : Nat → Prop}
    (hown : s.vm.findClass own = some m.cls) (hcls : Bundle.fit cls = true) (hnames : ∀ n ∈ names, Bundle.fit n = true)
    (hk : (Cond.classLink own ik cls).before args s = true) (hini : (Cond.initialized cls).before args s = true) (hstr : vk_R own is text sa s) (hat : ∀ w ∈ vx_atS own ic cls names, w.before args s = true)
    (hgood : ∀ w ∈ Cond.classLink own ik cls :: Cond.initialized cls :: vx_atS own ic cls names, vx_ot w = true)
    (hU : vx_Zq Bundle.tN "UNASSIGNED_STACK" Bundle.steD A s s.heap) (hN : vx_Zq Bundle.tN "SUPPRESSED_SENTINEL" Bundle.listD A s s.heap) (hS : va_S A s.heap H locs) (hsize : ls.size = c.maxLocals)
    (d0 : decode cc pc = .ok (.new ik, 3)) (d3 : decode cc (pc + 3) = .ok (.dup, 1)) (d4 : decode cc (pc + 4) = .ok (.ldc is, 2)) (d6 : decode cc (pc + 6) = .ok (.invokespecial ic, 3)) (d9 : decode cc (pc + 9) = .ok (.athrow, 1))
    (hout : ∀ x ∈ c.exceptionTable.toList, covers x (pc + 9) = false)
    (hRframes : names.length + 3 < R.frames) (hRlocals : (rest.map fun v => v.category).sum + (13 * (names.length + 1) + 43) ≤ R.locals) (hRcells : cells + 1 ≤ R.cells) (hRslots : slots + 6 ≤ R.slots) (hlocks : meth.locks = false)
    (hx : ∀ t : State, s.vm.Alike t.vm → H.size ≤ t.heap.size → (∀ q : Nat, q < H.size → t.heap[q]? = H[q]?) → XC cls s t)
    (hf : ∀ z ∈ locs, free z.base) (hc : cells + 1 ≤ mc) (hs : slots + 6 ≤ ms) :
    W p l e R s m args below meth c H locs cells slots (vx_MQ below Qc XC args s mc ms free) (F0 m pc ls rest) := by
  intro T hT X
  have htr : e.platform.stackTraces = false := (show e.platform.stackTraces = l.stackTraces by rw [X.admits.platform]).trans hl
  have Y := vx_rebase X (R' := { frames := R.frames, locals := R.locals, cells := 1, slots := 6 }) (Nat.le_refl _) (Nat.le_refl _) hRcells hRslots
  obtain ⟨s', hA⟩ : ∃ z, z = (T.setVm s.vm).setFrames (.invoking m args :: below) := ⟨_, rfl⟩
  rw [← hA] at Y
  have hvm : s'.vm = s.vm := by rw [hA]; rfl
  have hhp : s'.heap = H := by rw [hA]; exact hT
  have hW0 : s.WarmedH s'.vm := by rw [hvm]; exact State.WarmedH.refl s
  have hat' : ∀ w ∈ vx_atS own ic cls names, w.before args s' = true := fun w hw => vx_ot_at hW0 hvm.symm (hgood w (List.mem_cons_of_mem _ (List.mem_cons_of_mem _ hw))) (hat w hw)
  have hk' : (Cond.classLink own ik cls).before args s' = true := vx_ot_at hW0 hvm.symm (hgood _ List.mem_cons_self) hk
  have hini' : (Cond.initialized cls).before args s' = true := vx_ot_at hW0 hvm.symm (hgood _ (List.mem_cons_of_mem _ List.mem_cons_self)) hini
  have hU' : vx_Zq Bundle.tN "UNASSIGNED_STACK" Bundle.steD A s' s'.heap := by rw [hhp]; exact vx_Zq.moved hW0.alike (hU.kept hS.2.1)
  have hN' : vx_Zq Bundle.tN "SUPPRESSED_SENTINEL" Bundle.listD A s' s'.heap := by rw [hhp]; exact vx_Zq.moved hW0.alike (hN.kept hS.2.1)
  have h : ∀ w ∈ Bundle.ownAtoms own ic cls names, w.before args s' = true := vx_own hat' (vx_isRefq hU'.1) (vx_isRefq hN'.1) hU'.2.word hN'.2.word
  have hown' : s'.vm.findClass own = some m.cls := by rw [hvm]; exact hown
  have hins : (Cond.instantiable cls 6).before args s' = true := h _ (by simp [Bundle.ownAtoms])
  obtain ⟨vm₁, cX, kX, hfX, hkX, -, -, X₁, st1⟩ := Y.newCold hexec (own := own) (C := cls) (index := ik) (n := 6) hown' hk' hins hini'
    (g := F0 m pc ls rest) rfl (by rw [hb]; exact d0) (Nat.le_refl _) (Nat.le_refl _)
  generalize hT1 : (T.setVm vm₁).pushCell { cls := cX, slots := kX.instanceTypes.map defaultValue, vm := .none } = T1 at X₁ st1
  have hcat : (Value.ref T.heap.size).category = 1 := rfl
  have hcellA : T1.heap[T.heap.size]? = some (freshCell cX kX) := by rw [← hT1]; exact State.heap_pushCell_size _ _
  have d3' : decode c.code (pc + 3) = .ok (.dup, 1) := by rw [hb]; exact d3
  have d4' : decode c.code (pc + 4) = .ok (.ldc is, 2) := by rw [hb]; exact d4
  have hstr' : vk_R own is text sa s' := vk_R.warm hW0 hstr
  obtain ⟨U, hsteps, hrun, hend, hW, hsame, ce, hce, hO⟩ := X₁.ctorThrowS hexec htr (own := own) (cls := cls) (names := names) (ic := ic) hown' hcls hnames h (fun x hx => nomatch hx) hfX hkX hcellA (by rw [hhp, hT]; exact Nat.le_refl _) (msg := .ref sa) rfl
    (g := { method := m, pc := pc + 6, locals := ls, stack := .ref sa :: .ref T.heap.size :: .ref T.heap.size :: rest, locked := none }) rfl hsize rfl rfl (rest := rest) rfl
    (by rw [hb]; exact d6) (by rw [hb]; exact d9) hout hRframes (by simp only [List.map_cons, List.sum_cons, hcat]; omega) hlocks
  obtain ⟨f1, f2⟩ := vx_frame hsame
  rw [hhp] at f1 f2
  have hWs : s.WarmedH U.vm := State.WarmedH.trans hW0 hW
  have hcl : s.vm.findClass cls = some ce.cls := by
    have h9 := hO.cls
    rw [hvm] at h9
    exact h9
  have hall : s.sameButNew ({ U with vm := s.vm } : State) locs mc ms := by
    subst hA
    obtain ⟨e1, e2⟩ := hsame
    rw [State.setFrames_setFrames] at e1
    have h2 : (T.setVm s.vm).sameButNew ({ U with vm := s.vm } : State) [] (0 + 1) (0 + 6) := ⟨e1, e2⟩
    have h3 := X.same.trans h2
    rw [List.append_nil] at h3
    exact h3.mono hc hs
  refine ⟨U, ?_, .threw T.heap.size, hrun, hend, Or.inr ⟨T.heap.size, rfl, cls, ce, locs, hx U hWs.alike f1 (fun q hq => f2 q hq (fun z hz => nomatch hz)), hce, hO.vm, hcl, hWs, hall, hf⟩⟩
  refine st1 _ ?_
  show Steps p.tables e below (T1.setTop { method := m, pc := pc + 3, locals := ls, stack := .ref T.heap.size :: rest, locked := none }) _
  jvm_step X₁.here [X₁.here.top, hexec, d3', Value.category]
  exact X₁.ldcString hexec (own := own) (text := text) (index := is) (a := sa) hown' hstr'.1 hstr'.2
    (g := { method := m, pc := pc + 4, locals := ls, stack := .ref T.heap.size :: .ref T.heap.size :: rest, locked := none }) rfl d4' _ hsteps
/-- 'throw new E("text")', the text by a wide index -/
theorem vx_throwSW {cc : ByteArray} {pc : Nat} (hexec : p.tables.exec = Jvm.exec) (hb : c.code = cc) (hl : l.stackTraces = false) {own cls text : String} {names : List String} {ik is ic mc ms sa : Nat} {A : Nat → Prop}
    (hown : s.vm.findClass own = some m.cls) (hcls : Bundle.fit cls = true) (hnames : ∀ n ∈ names, Bundle.fit n = true)
    (hk : (Cond.classLink own ik cls).before args s = true) (hini : (Cond.initialized cls).before args s = true) (hstr : vk_R own is text sa s) (hat : ∀ w ∈ vx_atS own ic cls names, w.before args s = true)
    (hgood : ∀ w ∈ Cond.classLink own ik cls :: Cond.initialized cls :: vx_atS own ic cls names, vx_ot w = true)
    (hU : vx_Zq Bundle.tN "UNASSIGNED_STACK" Bundle.steD A s s.heap) (hN : vx_Zq Bundle.tN "SUPPRESSED_SENTINEL" Bundle.listD A s s.heap) (hS : va_S A s.heap H locs) (hsize : ls.size = c.maxLocals)
    (d0 : decode cc pc = .ok (.new ik, 3)) (d3 : decode cc (pc + 3) = .ok (.dup, 1)) (d4 : decode cc (pc + 4) = .ok (.ldc_w is, 3)) (d7 : decode cc (pc + 7) = .ok (.invokespecial ic, 3)) (d10 : decode cc (pc + 10) = .ok (.athrow, 1))
    (hout : ∀ x ∈ c.exceptionTable.toList, covers x (pc + 10) = false)
    (hRframes : names.length + 3 < R.frames) (hRlocals : (rest.map fun v => v.category).sum + (13 * (names.length + 1) + 43) ≤ R.locals) (hRcells : cells + 1 ≤ R.cells) (hRslots : slots + 6 ≤ R.slots) (hlocks : meth.locks = false)
    (hx : ∀ t : State, s.vm.Alike t.vm → H.size ≤ t.heap.size → (∀ q : Nat, q < H.size → t.heap[q]? = H[q]?) → XC cls s t)
    (hf : ∀ z ∈ locs, free z.base) (hc : cells + 1 ≤ mc) (hs : slots + 6 ≤ ms) :
    W p l e R s m args below meth c H locs cells slots (vx_MQ below Qc XC args s mc ms free) (F0 m pc ls rest) := by
  intro T hT X
  have htr : e.platform.stackTraces = false := (show e.platform.stackTraces = l.stackTraces by rw [X.admits.platform]).trans hl
  have Y := vx_rebase X (R' := { frames := R.frames, locals := R.locals, cells := 1, slots := 6 }) (Nat.le_refl _) (Nat.le_refl _) hRcells hRslots
  obtain ⟨s', hA⟩ : ∃ z, z = (T.setVm s.vm).setFrames (.invoking m args :: below) := ⟨_, rfl⟩
  rw [← hA] at Y
  have hvm : s'.vm = s.vm := by rw [hA]; rfl
  have hhp : s'.heap = H := by rw [hA]; exact hT
  have hW0 : s.WarmedH s'.vm := by rw [hvm]; exact State.WarmedH.refl s
  have hat' : ∀ w ∈ vx_atS own ic cls names, w.before args s' = true := fun w hw => vx_ot_at hW0 hvm.symm (hgood w (List.mem_cons_of_mem _ (List.mem_cons_of_mem _ hw))) (hat w hw)
  have hk' : (Cond.classLink own ik cls).before args s' = true := vx_ot_at hW0 hvm.symm (hgood _ List.mem_cons_self) hk
  have hini' : (Cond.initialized cls).before args s' = true := vx_ot_at hW0 hvm.symm (hgood _ (List.mem_cons_of_mem _ List.mem_cons_self)) hini
  have hU' : vx_Zq Bundle.tN "UNASSIGNED_STACK" Bundle.steD A s' s'.heap := by rw [hhp]; exact vx_Zq.moved hW0.alike (hU.kept hS.2.1)
  have hN' : vx_Zq Bundle.tN "SUPPRESSED_SENTINEL" Bundle.listD A s' s'.heap := by rw [hhp]; exact vx_Zq.moved hW0.alike (hN.kept hS.2.1)
  have h : ∀ w ∈ Bundle.ownAtoms own ic cls names, w.before args s' = true := vx_own hat' (vx_isRefq hU'.1) (vx_isRefq hN'.1) hU'.2.word hN'.2.word
  have hown' : s'.vm.findClass own = some m.cls := by rw [hvm]; exact hown
  have hins : (Cond.instantiable cls 6).before args s' = true := h _ (by simp [Bundle.ownAtoms])
  obtain ⟨vm₁, cX, kX, hfX, hkX, -, -, X₁, st1⟩ := Y.newCold hexec (own := own) (C := cls) (index := ik) (n := 6) hown' hk' hins hini'
    (g := F0 m pc ls rest) rfl (by rw [hb]; exact d0) (Nat.le_refl _) (Nat.le_refl _)
  generalize hT1 : (T.setVm vm₁).pushCell { cls := cX, slots := kX.instanceTypes.map defaultValue, vm := .none } = T1 at X₁ st1
  have hcat : (Value.ref T.heap.size).category = 1 := rfl
  have hcellA : T1.heap[T.heap.size]? = some (freshCell cX kX) := by rw [← hT1]; exact State.heap_pushCell_size _ _
  have d3' : decode c.code (pc + 3) = .ok (.dup, 1) := by rw [hb]; exact d3
  have d4' : decode c.code (pc + 4) = .ok (.ldc_w is, 3) := by rw [hb]; exact d4
  have hstr' : vk_R own is text sa s' := vk_R.warm hW0 hstr
  obtain ⟨U, hsteps, hrun, hend, hW, hsame, ce, hce, hO⟩ := X₁.ctorThrowS hexec htr (own := own) (cls := cls) (names := names) (ic := ic) hown' hcls hnames h (fun x hx => nomatch hx) hfX hkX hcellA (by rw [hhp, hT]; exact Nat.le_refl _) (msg := .ref sa) rfl
    (g := { method := m, pc := pc + 7, locals := ls, stack := .ref sa :: .ref T.heap.size :: .ref T.heap.size :: rest, locked := none }) rfl hsize rfl rfl (rest := rest) rfl
    (by rw [hb]; exact d7) (by rw [hb]; exact d10) hout hRframes (by simp only [List.map_cons, List.sum_cons, hcat]; omega) hlocks
  obtain ⟨f1, f2⟩ := vx_frame hsame
  rw [hhp] at f1 f2
  have hWs : s.WarmedH U.vm := State.WarmedH.trans hW0 hW
  have hcl : s.vm.findClass cls = some ce.cls := by
    have h9 := hO.cls
    rw [hvm] at h9
    exact h9
  have hall : s.sameButNew ({ U with vm := s.vm } : State) locs mc ms := by
    subst hA
    obtain ⟨e1, e2⟩ := hsame
    rw [State.setFrames_setFrames] at e1
    have h2 : (T.setVm s.vm).sameButNew ({ U with vm := s.vm } : State) [] (0 + 1) (0 + 6) := ⟨e1, e2⟩
    have h3 := X.same.trans h2
    rw [List.append_nil] at h3
    exact h3.mono hc hs
  refine ⟨U, ?_, .threw T.heap.size, hrun, hend, Or.inr ⟨T.heap.size, rfl, cls, ce, locs, hx U hWs.alike f1 (fun q hq => f2 q hq (fun z hz => nomatch hz)), hce, hO.vm, hcl, hWs, hall, hf⟩⟩
  refine st1 _ ?_
  show Steps p.tables e below (T1.setTop { method := m, pc := pc + 3, locals := ls, stack := .ref T.heap.size :: rest, locked := none }) _
  jvm_step X₁.here [X₁.here.top, hexec, d3', Value.category]
  exact X₁.ldcStringW hexec (own := own) (text := text) (index := is) (a := sa) hown' hstr'.1 hstr'.2
    (g := { method := m, pc := pc + 4, locals := ls, stack := .ref T.heap.size :: .ref T.heap.size :: rest, locked := none }) rfl d4' _ hsteps
end Ends
section Bodies
variable {l : Launch}
theorem vx_ofW {y : MethodName} {ws ws' : List Cond} {rm : Room} {Pc : Array Value → State → Prop} {Qc : Array Value → State → Outcome → State → Prop} {XC : String → State → State → Prop} {mc ms : Nat} {free : Addr → Prop} {cc : ByteArray} {maxL : Nat} {ret : Option FieldType}
    (hy : plainName y.cls = true) (hw : ws = Cond.code y cc maxL ret :: ws')
    (body : ∀ p e s m args below meth c s₁, BodyLoose p l y (headSpec ws rm) cc maxL ret e s m args below meth c s₁ → c.maxLocals = maxL → (∀ x ∈ c.exceptionTable.toList, False) → Pc args s →
      W p l e (headSpec ws rm).room s m args below meth c s.heap [] 0 0 (vx_MQ below Qc XC args s mc ms free) (entryFrame m args maxL)) : vx_Met l y ws rm Pc Qc XC mc ms free := by
  refine MetFree.of_bodyS (code := cc) (maxLocals := maxL) (ret := ret) hy ?_ ?_
  · intro args s m h hn
    obtain ⟨meth, c, h1, h2, h3, h4, h5, h6, -, -⟩ := Cond.code_spec hn (atoms_spec (ws := ws) h _ (by rw [hw]; exact List.mem_cons_self))
    exact ⟨meth, c, h1, h2, h3, h4, h5, h6⟩
  · intro p e s m args below meth c s₁ B hml hP _
    have hh0 : s₁.heap = s.heap := by rw [B.state]; rfl
    have ht : ∀ x ∈ c.exceptionTable.toList, False := by
      obtain ⟨meth9, c9, h1, h2, -, -, -, -, h7, -⟩ := Cond.code_spec B.named (atoms_spec (ws := ws) B.pre _ (by rw [hw]; exact List.mem_cons_self))
      cases Option.some.inj (h1.symm.trans B.method)
      cases Option.some.inj (h2.symm.trans (Stand.of_body B).code)
      intro x hx
      rw [Array.isEmpty_iff.mp h7] at hx
      cases hx
    obtain ⟨t, a1, o, b1, b2, b3⟩ := body p e s m args below meth c s₁ B hml ht hP s₁ hh0 (Stand.of_body B)
    exact ⟨t, o, a1, b1, b2, b3⟩
/-- the table of a body with handlers -/
theorem vx_table {p : Program} {x y : MethodName} {S : Spec} {cc bytes : ByteArray} {maxL maxL' : Nat} {ret ret' : Option FieldType} {e : Env} {s s₁ : State} {m : MethodId} {args : Array Value} {below : List Frame} {meth : Method} {c : Code} {hh : List (Nat × Nat × Nat × Nat)}
    (B : BodyLoose p l y S cc maxL ret e s m args below meth c s₁) (h : (Cond.codeWith y bytes maxL' ret' hh).before args s = true) : c.exceptionTable.toList = tableOf hh := by
  obtain ⟨m9, meth9, c9, hn9, h1, h2, -, -, h6, -⟩ := Cond.codeWith_spec h
  cases Option.some.inj (hn9.symm.trans B.named)
  cases Option.some.inj (h1.symm.trans B.method)
  cases Option.some.inj (h2.symm.trans (Stand.of_body B).code)
  rw [← h6, table_eq]
end Bodies
end VXA
/-! ===== END ===== -/
/-! ===== BEGIN a static call of a method with an exception table ===== -/
section VXS
variable {p : Program} {l : Launch} {e : Env} {R : Room} {s : State} {m : MethodId} {args : Array Value} {below : List Frame} {meth : Method} {c : Code} {T : State} {H : Heap} {locs : List Loc} {cells slots : Nat}
abbrev vx_CSW (R : Room) (s : State) (args : Array Value) (own : String) (index : Nat) (y : MethodName) (bytes : ByteArray) (maxL : Nat) (ret : Option FieldType) (hh : List (Nat × Nat × Nat × Nat)) (ws : List Cond) (rm : Room) (mc ms n : Nat) : Prop :=
  (rm.cells = mc ∧ rm.slots = ms ∧ rm.frames + 1 ≤ R.frames ∧ 8 + (maxL + 11) + rm.locals ≤ R.locals ∧ (∀ w ∈ ws, ∀ (a' : Array Value) (U : State), s.WarmedH U.vm → w.before a' U = true) ∧ Cond.codeWith y bytes maxL ret hh ∈ ws) ∧
  (Cond.codeWith y bytes maxL ret hh).before args s = true ∧ (Cond.initialized y.cls).before args s = true ∧ (y.cls ≠ "java/lang/invoke/MethodHandle" ∧ y.cls ≠ "java/lang/invoke/VarHandle") ∧
  (∀ sig, parseMethodDescriptor y.desc = some sig → n = sig.parameters.length) ∧ (Cond.methodLink own index y).before args s = true ∧ (Cond.static y).before args s = true
theorem vx_cwSW {own : String} {index maxL mc ms : Nat} {y : MethodName} {bytes : ByteArray} {ret : Option FieldType} {hh : List (Nat × Nat × Nat × Nat)} {Ts ws ws' : List Cond} {rm : Room} (n : Nat) (ht : ∀ w ∈ Ts, w.before args s = true) (hT : GoodIn Ts (va_wsS own index y ws)) (hw : ws = Cond.codeWith y bytes maxL ret hh :: ws') (hrc : rm.cells = mc) (hrs : rm.slots = ms)
    (hd : y.cls ≠ "java/lang/invoke/MethodHandle" ∧ y.cls ≠ "java/lang/invoke/VarHandle" ∧ (parseMethodDescriptor y.desc).map (fun d => d.parameters.length) = some n) (hR : rm.frames + 1 ≤ R.frames ∧ 8 + (maxL + 11) + rm.locals ≤ R.locals) :
    vx_CSW R s args own index y bytes maxL ret hh ws rm mc ms n := by
  have ok : ∀ w ∈ va_wsS own index y ws, w.before args s = true := fun w h => ht w (hT w h).1
  have hG : GoodIn Ts ws := fun w h => hT w (by unfold va_wsS; exact List.mem_append_right _ h)
  have hc : Cond.codeWith y bytes maxL ret hh ∈ ws := by rw [hw]; exact List.mem_cons_self
  refine ⟨⟨hrc, hrs, hR.1, hR.2, pay_in ht hG, hc⟩, ht _ (hG _ hc).1, ok _ (by simp [va_wsS]), ⟨hd.1, hd.2.1⟩, fun sig h => ?_, ok _ (by simp [va_wsS]), ok _ (by simp [va_wsS])⟩
  have h2 := hd.2.2
  rw [h] at h2
  exact (Option.some.inj h2).symm
theorem vx_callSW (X : Stand p l e R s m args below meth c T locs cells slots) (hexec : p.tables.exec = Jvm.exec) {own : String} {index : Nat} {y : MethodName} {bytes : ByteArray} {maxL : Nat} {ret : Option FieldType} {hh : List (Nat × Nat × Nat × Nat)}
    (hown : s.vm.findClass own = some m.cls) (hlink : (Cond.methodLink own index y).before args s = true) (hstat : (Cond.static y).before args s = true) (hinit : (Cond.initialized y.cls).before args s = true)
    (hcode : (Cond.codeWith y bytes maxL ret hh).before args s = true) (hy : y.cls ≠ "java/lang/invoke/MethodHandle" ∧ y.cls ≠ "java/lang/invoke/VarHandle")
    {W9 : Nat} {Pre : Pt → Array Value → Prop} {Post : Pt → Array Value → Option Value → Pt → Prop} (hK : Back l R p e below s args y 3 W9 Pre Post)
    {g : JFrame} (hg : g.method = m) (hsize : g.locals.size = c.maxLocals) {argsL rest : List Value} (hlen : ∀ sig, parseMethodDescriptor y.desc = some sig → argsL.length = sig.parameters.length)
    (hstack : g.stack = argsL.reverse ++ rest) (hW : 2 * g.monitorRoom + (rest.map fun v => v.category).sum ≤ W9) (hdg : decode c.code g.pc = .ok (.invokestatic index, 3))
    (hpre : ∀ vm₁, s.WarmedH vm₁ → Pre ⟨T.setVm vm₁, locs, cells, slots⟩ argsL.toArray) :
    ∃ (v : Option Value) (vm₁ : Vm) (B : Pt), s.WarmedH vm₁ ∧ Stand p l e R s m args below meth c B.U B.locs B.cells B.slots ∧ Post ⟨T.setVm vm₁, locs, cells, slots⟩ argsL.toArray v B ∧
      ∀ target, Steps p.tables e below (B.U.setTop { g with pc := g.pc + 3, stack := v.toList ++ rest }) target → Steps p.tables e below (T.setTop g) target := by
  obtain ⟨mk, methM, cM, hnamed, hmethM, -, -, -, -, -, -, hsigM⟩ := Cond.codeWith_spec hcode
  have hstatic : methM.isStatic = true := Cond.static_spec hnamed hmethM hstat
  obtain ⟨kP, hkP, -⟩ := className_of_methodNamed hnamed
  have hinitP : kP.init = .initialized := Cond.initialized_spec (findClass_of_methodNamed hnamed) hkP hinit
  obtain ⟨vm₁, X₁, hstep₁⟩ := X.invokestatic hexec hown hlink hnamed hmethM hstatic hkP hinitP hy (g := g) hg (argsL := argsL) (rest := rest) (hlen _ hsigM) hstack hdg
  obtain ⟨v, B, X', hpost, hsteps⟩ := hK m meth c ⟨T.setVm vm₁, locs, cells, slots⟩ { g with stack := rest } (.invokestatic index) mk argsL.toArray X₁ hg hsize hdg hW (X₁.named hnamed) (hpre vm₁ X₁.warmed)
  exact ⟨v, vm₁, B, X₁.warmed, X', hpost, fun target h => hstep₁ _ fun acts => by rw [doInvoke_state]; exact hsteps.trans h⟩
theorem vx_runSW {y : MethodName} {bytes cc : ByteArray} {maxL nL mc ms n index : Nat} {ret : Option FieldType} {hh : List (Nat × Nat × Nat × Nat)} {ws : List Cond} {rm : Room} {Pc : Array Value → State → Prop} {Qc : Array Value → State → Outcome → State → Prop} {free : Addr → Prop} {Ts : List Cond} {own : String} {As rest : List Value} {g : JFrame}
    (S : CallFix p m c cc nL s args Ts own) (hM : Met l y ws rm Pc Qc mc ms free) (cw : vx_CSW R s args own index y bytes maxL ret hh ws rm mc ms n) (hp : PreS s H Pc As)
    (hg : g.method = m) (hn : As.length = n) (hsize : g.locals.size = nL) (hstack : g.stack = As.reverse ++ rest) (hW : 2 * g.monitorRoom + (rest.map fun v => v.category).sum ≤ 8) (hdg : decode cc g.pc = .ok (.invokestatic index, 3)) (hf : cells + mc ≤ R.cells ∧ slots + ms ≤ R.slots) :
    va_Run p l e R s m args below meth c H locs cells slots mc ms g rest (Qc As.toArray) (free) := by
  obtain ⟨⟨hrc, hrs, hfr, hlo, hws, hcw⟩, hcode, hini, hy, hlen, hl, hstt⟩ := cw
  have hK : Back l R p e below s args y 3 8 (PreOf R mc ms Pc) (PostOf Qc mc ms free) := va_backW (hh := hh) (bytes := bytes) (maxL := maxL) (ret := ret) hM hp.1 hrc hrs hfr hlo hws hcw (fun a' U hW => word_at hW (Or.inl (by first | rfl | simp [Cond.onTables, Cond.keeps, Cond.steady])) hini)
  obtain ⟨hx, hb, hml, ho, -⟩ := S
  intro T hT X
  obtain ⟨v, vm₁, ⟨U', l2, c2, s2⟩, hW₁, X', ⟨g', mk, t, L, e1, e2, hq, h1, hL, h2, h3⟩, st⟩ := vx_callSW X hx (hh := hh) (bytes := bytes) (maxL := maxL) (ret := ret) ho hl hstt hini hcode hy hK hg (hsize.trans hml.symm) (argsL := As) (rest := rest) (fun sig h => hn.trans (hlen sig h)) hstack hW (by rw [hb]; exact hdg)
    (fun vm₁ hW₁ => ⟨hf.1, hf.2, hp.2 (T.setVm vm₁) hT hW₁⟩)
  dsimp only [Pt.U, Pt.locs, Pt.cells, Pt.slots] at X' e1 e2 h1 h2 h3 st
  subst h1; subst h2; subst h3
  exact ⟨v, (T.setVm vm₁).calling g' mk As.toArray, t, U', L, hT, X', hL, e1, e2, hq, st⟩
/-- not caught here, past rows that name other classes: it goes on to the caller -/
theorem vx_outP {p : Program} {l : Launch} {e : Env} {R : Room} {s : State} {m : MethodId} {args : Array Value} {below : List Frame} {meth : Method} {c : Code} {H : Heap} {locs : List Loc} {cells slots : Nat} {free : Addr → Prop} {ls : Array Slot} {rest : List Value} {Qc : Array Value → State → Outcome → State → Prop} {XC : String → State → State → Prop}
    {pc : Nat} {own E : String} {ce : Cell} {q : Addr} {mc ms : Nat} (hown : s.vm.findClass own = some m.cls) (hlocks : meth.locks = false)
    (hpass : ∀ z ∈ c.exceptionTable.toList, covers z pc = false ∨ (z.catchType ≠ 0 ∧ ∃ nm : String, (Cond.classLink own z.catchType nm).before args s = true ∧ va_Nc E nm s)) (hcell : H[q]? = some ce) (hv : ce.vm = .none) (hcl : s.vm.findClass E = some ce.cls)
    (hx : ∀ t : State, t.heap = H → s.vm.Alike t.vm → XC E s t) (hf : ∀ z ∈ locs, free z.base) (hc : cells ≤ mc) (hs : slots ≤ ms) :
    vx_W p l e R s m args below meth c H locs cells slots (vx_MQ below Qc XC args s mc ms free) (F0 m pc ls rest) q := by
  intro T hT X
  have hpl : e.platform.magicAccessors = ({} : Platform).magicAccessors := by rw [X.admits.platform]
  obtain ⟨vm', hW', X', st⟩ := X.outThrough hlocks q (g := F0 m pc ls rest) rfl rfl rfl (cell := ce) (by rw [hT]; exact hcell) (by rw [hv]; rfl)
    (by obtain ⟨k9, h9, -⟩ := Vm.findClass_spec hcl; exact ⟨k9, h9⟩) (fun z hz => by
      rcases hpass z hz with h | ⟨hz0, nm, hl1, hn1⟩
      · exact Or.inl h
      · obtain ⟨c6, hc6, hcl6⟩ := Cond.classLink_spec hown hl1 e.platform hpl
        obtain ⟨a8, b8, h1, h2, h3⟩ := hn1
        cases Option.some.inj (h1.symm.trans hcl)
        cases Option.some.inj (h2.symm.trans hc6)
        exact Or.inr ⟨hz0, _, hcl6, h3⟩)
  obtain ⟨g₀, hfr⟩ := X'.frames_eq
  have hcell9 : ((T.setVm vm').setFrames (.throwing q :: below)).heap[q]? = some ce := by
    show T.heap[q]? = some ce
    rw [hT]; exact hcell
  have hend : Ended ((T.setVm vm').setFrames (.throwing q :: below)) below (.threw q) := State.frames_setFrames _ (State.cur_lt_of_frames hfr)
  refine ⟨(T.setVm vm').setFrames (.throwing q :: below), ?_, .threw q, X'.here.running, hend, Or.inr ⟨q, rfl, E, ce, locs, hx _ hT (X'.ends _).1.alike, hcell9, hv, hcl, (X'.ends _).1, (X'.ends _).2.mono hc hs, hf⟩⟩
  rw [X.pushThrowing_eq]
  exact st
/-- a thing of a world lies in the heap -/
theorem vx_lt {D : va_G} {cl : List vw_C} {ws : va_W} {H1 : Heap} (h : va_P D cl ws H1) {k : Nat} {q : Nat × va_E} (hk : ws[k]? = some q) : q.1 < H1.size := (h k q hk).lt
end VXS
/-! ===== END ===== -/
/-! ===== BEGIN methods with a table of their own: called by a name, returning or throwing ===== -/
section VXH
/-! vx_backW, vx_callVX, vx_callSX, vx_callVW, vx_runVW, vx_runVX, vx_runSX, vx_ofWH follow the same proofs as their sisters above (Free/Laws.lean, Shelf42/LK1.lean); vx_outP calls Shelf42/NT130.lean (outThrough). -/
section
variable {l : Launch} {R : Room} {p : Program} {e : Env} {below : List Frame} {s : State} {sargs : Array Value} {y : MethodName} {len W9 : Nat}
theorem vx_backW {ws : List Cond} {rm : Room} {Pc : Array Value → State → Prop} {Qc : Array Value → State → Outcome → State → Prop} {XC : String → State → State → Prop} {mc ms : Nat} {free : Addr → Prop} {bytes : ByteArray} {maxL : Nat} {ret : Option FieldType} {hh : List (Nat × Nat × Nat × Nat)}
    (hM : vx_Met l y ws rm Pc Qc XC mc ms free) (hblind : FrameBlind Pc) (hrc : rm.cells = mc) (hrs : rm.slots = ms)
    (hframes : rm.frames + 1 ≤ R.frames) (hlocals : W9 + (maxL + 11) + rm.locals ≤ R.locals)
    (hws : ∀ w ∈ ws, ∀ a' U, s.WarmedH U.vm → w.before a' U = true) (hcode : Cond.codeWith y bytes maxL ret hh ∈ ws) (hinit : ∀ a' U, s.WarmedH U.vm → (Cond.initialized y.cls).before a' U = true) :
    vx_Back l R p e below s sargs y len W9 (PreOf R mc ms Pc) (PostOf Qc mc ms free) (vx_Post XC mc ms free) := by
  intro m meth c A g ig mk a X hg hsize hdg hW hn hp
  have h1 : (headSpec ws rm).pre.before a A.U = true := atoms_intro fun w hw => hws w hw _ _ X.warmed
  have h2 : (Cond.codeWith y bytes maxL ret hh).before a A.U = true := hws _ hcode _ _ X.warmed
  have h3 : (Cond.initialized y.cls).before a A.U = true := hinit _ _ X.warmed
  have h4 : A.cells + (headSpec ws rm).room.cells ≤ R.cells := by rw [show (headSpec ws rm).room.cells = mc from hrc]; exact hp.1
  have h5 : A.slots + (headSpec ws rm).room.slots ≤ R.slots := by rw [show (headSpec ws rm).room.slots = ms from hrs]; exact hp.2.1
  have hPc : Pc a (A.U.calling g mk a) := hblind _ _ _ _ hp.2.2
  obtain ⟨U, Ls, c0, s0⟩ := A
  dsimp only [Pt.U, Pt.locs, Pt.cells, Pt.slots] at h1 h2 h3 h4 h5 X hn hPc ⊢
  obtain ⟨m9, methY, cY, hn9, hmY, hcY, -, hlY, -⟩ := Cond.codeWith_spec h2
  cases Option.some.inj (hn9.symm.trans hn)
  obtain ⟨kY, hkY, -⟩ := className_of_methodNamed hn
  have hinitY : kY.init = .initialized := Cond.initialized_spec (findClass_of_methodNamed hn) hkY h3
  have h : At U g.method c below := by rw [hg]; exact X.here
  have hlocals9 : W9 + (maxL + 11) + (headSpec ws rm).room.locals ≤ R.locals := hlocals
  have happ : (headSpec ws rm).appliesLoose y e.platform (U.calling g mk a) = true :=
    Spec.appliesLoose_calling (g := g) h hdg hn hkY hinitY
      (X.room_calling (g := g) (R' := (headSpec ws rm).room) hsize hmY hcY hframes (by rw [hlY]; omega) h4 h5) h1
  obtain ⟨mid, hmid⟩ := h.above
  have hfr : (U.setTop g).frames = (.java g :: mid) ++ below := by rw [State.frames_setTop' g h.top, hmid]; rfl
  obtain ⟨o, s₂, hsteps, -, hend, hq⟩ := Steps.callFree hM p X.admits X.cas X.clock (acts := []) hfr happ hPc trivial
  have hq' : vx_Q Qc XC mc ms free a (U.calling g mk a) o s₂ := hq
  rw [State.frames_setTop' g h.top] at hend
  obtain ⟨g₀, hg0⟩ := Option.isSome_iff_exists.mp h.top
  obtain ⟨r, hr⟩ := State.topJava?_eq_some.mp hg0
  have hr' : (({ U with heap := s₂.heap, slotsUsed := s₂.slotsUsed } : State).setVm s₂.vm).frames = .java g₀ :: r := hr
  rcases hq' with ⟨hqc, L, hfe, hL⟩ | ⟨q, rfl, E, ce, L, hx, hce, hcv, hcl, hW₂, hsm, hL⟩
  · obtain ⟨⟨v, rfl⟩, hW₂, e2, q2, q3, q4, q5, q6⟩ := id hfe
    have e3 : s₂ = ({ (U.calling g mk a).setFrames s₂.frames with heap := s₂.heap, slotsUsed := s₂.slotsUsed } : State).setVm s₂.vm := by
      have : s₂ = ({ s₂ with vm := (U.calling g mk a).vm } : State).setVm s₂.vm := rfl
      rw [e2] at this
      exact this
    obtain ⟨c₂, i₂, len₂, hc₂, hd₂, hf₂⟩ := hend
    have hW' : U.WarmedH s₂.vm := hW₂
    have hcc : c₂ = c := by
      have h1 : s₂.code? g.method = U.code? g.method := by
        rw [State.code?_eq, State.code?_eq, hW'.alike.method?]
      exact Option.some.inj (hc₂.symm.trans (h1.trans h.code))
    subst hcc
    have hlen : len₂ = len := by rw [hdg] at hd₂; cases hd₂; rfl
    subst hlen
    have hs₂ : s₂ = (({ U with heap := s₂.heap, slotsUsed := s₂.slotsUsed } : State).setVm s₂.vm).setTop { g with pc := g.pc + len₂, stack := v.toList ++ g.stack } := by
      refine e3.trans ?_
      rw [hf₂, State.calling_eq h.top, State.setFrames_setFrames, State.setTop_of_frames _ hr', hr]
      rfl
    have hsame : U.sameButNew ({ U with heap := s₂.heap, slotsUsed := s₂.slotsUsed } : State) L mc ms := by
      refine ⟨?_, q2, q3, q4, q5, q6⟩
      obtain ⟨t, ht, -⟩ := State.frames_cons hr
      show ({ U with heap := s₂.heap, slotsUsed := s₂.slotsUsed } : State) = { U.setFrames U.frames with heap := s₂.heap, slotsUsed := s₂.slotsUsed }
      rw [State.setFrames_self ht]
    subst hg
    refine Or.inl ⟨v, ⟨(({ U with heap := s₂.heap, slotsUsed := s₂.slotsUsed } : State).setVm s₂.vm), Ls ++ L, c0 + mc, s0 + ms⟩,
      ⟨X.admits, X.cas, X.clock, X.frames, X.room, X.hears, X.method, X.code, (X.here.setHeapUsed s₂.heap s₂.slotsUsed).setVm hW'.alike, X.tail, State.WarmedH.trans X.warmed hW', X.limits, X.bytes, X.same.trans (hsame.setVm s.vm)⟩,
      ⟨g, mk, s₂, L, rfl, rfl, hqc, rfl, hL, rfl, rfl⟩, ?_⟩
    show Steps p.tables e below _ ((({ U with heap := s₂.heap, slotsUsed := s₂.slotsUsed } : State).setVm s₂.vm).setTop { g with pc := g.pc + len₂, stack := v.toList ++ g.stack })
    rw [← hs₂]
    exact hsteps
  · obtain ⟨e2, q2, q3, q4, q5, q6⟩ := id hsm
    have e3 : s₂ = ({ (U.calling g mk a).setFrames s₂.frames with heap := s₂.heap, slotsUsed := s₂.slotsUsed } : State).setVm s₂.vm := by
      have : s₂ = ({ s₂ with vm := (U.calling g mk a).vm } : State).setVm s₂.vm := rfl
      rw [e2] at this
      exact this
    have hf₂ : s₂.frames = .throwing q :: .java g :: U.frames.tail := hend
    have hW' : U.WarmedH s₂.vm := hW₂
    have hs₂ : s₂ = ((({ U with heap := s₂.heap, slotsUsed := s₂.slotsUsed } : State).setVm s₂.vm).setTop g).pushFrame (.throwing q) := by
      refine e3.trans ?_
      rw [hf₂, State.calling_eq h.top, State.setFrames_setFrames, State.pushFrame, State.frames_setTop _ hr', State.setTop_of_frames _ hr', State.setFrames_setFrames, hr]
      rfl
    have hsame : U.sameButNew ({ U with heap := s₂.heap, slotsUsed := s₂.slotsUsed } : State) L mc ms := by
      refine ⟨?_, q2, q3, q4, q5, q6⟩
      obtain ⟨t, ht, -⟩ := State.frames_cons hr
      show ({ U with heap := s₂.heap, slotsUsed := s₂.slotsUsed } : State) = { U.setFrames U.frames with heap := s₂.heap, slotsUsed := s₂.slotsUsed }
      rw [State.setFrames_self ht]
    subst hg
    refine Or.inr ⟨q, ⟨(({ U with heap := s₂.heap, slotsUsed := s₂.slotsUsed } : State).setVm s₂.vm), Ls ++ L, c0 + mc, s0 + ms⟩,
      ⟨X.admits, X.cas, X.clock, X.frames, X.room, X.hears, X.method, X.code, (X.here.setHeapUsed s₂.heap s₂.slotsUsed).setVm hW'.alike, X.tail, State.WarmedH.trans X.warmed hW', X.limits, X.bytes, X.same.trans (hsame.setVm s.vm)⟩,
      ⟨g, mk, s₂, L, E, ce, rfl, rfl, hx, hce, hcv, hcl, rfl, hL, rfl, rfl⟩, ?_⟩
    show Steps p.tables e below _ (((({ U with heap := s₂.heap, slotsUsed := s₂.slotsUsed } : State).setVm s₂.vm).setTop g).pushFrame (.throwing q))
    rw [← hs₂]
    exact hsteps
end
variable {p : Program} {l : Launch} {e : Env} {R : Room} {s : State} {m : MethodId} {args : Array Value} {below : List Frame} {meth : Method} {c : Code} {T : State} {H : Heap} {locs : List Loc} {cells slots : Nat}
theorem vx_callVX (X : Stand p l e R s m args below meth c T locs cells slots) (hexec : p.tables.exec = Jvm.exec) {own C : String} {index : Nat} {y : MethodName} {bytes : ByteArray} {maxL : Nat} {ret : Option FieldType} {hh : List (Nat × Nat × Nat × Nat)}
    (hown : s.vm.findClass own = some m.cls) (hlink : (Cond.methodLink own index y).before args s = true) (hinst : (Cond.instanceMethod y).before args s = true) (hsel : (Cond.selects C y y).before args s = true)
    (hcode : (Cond.codeWith y bytes maxL ret hh).before args s = true) (hy : y.cls ≠ "java/lang/invoke/MethodHandle" ∧ y.cls ≠ "java/lang/invoke/VarHandle")
    {W9 : Nat} {Pre : Pt → Array Value → Prop} {Post : Pt → Array Value → Option Value → Pt → Prop} {PostX : Pt → Array Value → Addr → Pt → Prop} (hK : vx_Back l R p e below s args y 3 W9 Pre Post PostX)
    {b : Addr} {cellB : Cell} (hcell : T.heap[b]? = some cellB) (hobj : cellB.vm.isStatics = false) (hcls : s.vm.findClass C = some cellB.cls)
    {g : JFrame} (hg : g.method = m) (hsize : g.locals.size = c.maxLocals) {argsL rest : List Value} (hlen : ∀ sig, parseMethodDescriptor y.desc = some sig → argsL.length = sig.parameters.length)
    (hstack : g.stack = argsL.reverse ++ .ref b :: rest) (hW : 2 * g.monitorRoom + (rest.map fun v => v.category).sum ≤ W9) (hdg : decode c.code g.pc = .ok (.invokevirtual index, 3))
    (hpre : ∀ vm₁, s.WarmedH vm₁ → Pre ⟨T.setVm vm₁, locs, cells, slots⟩ (Value.ref b :: argsL).toArray) :
    (∃ (v : Option Value) (vm₁ : Vm) (B : Pt), s.WarmedH vm₁ ∧ Stand p l e R s m args below meth c B.U B.locs B.cells B.slots ∧ Post ⟨T.setVm vm₁, locs, cells, slots⟩ (Value.ref b :: argsL).toArray v B ∧
      ∀ target, Steps p.tables e below (B.U.setTop { g with pc := g.pc + 3, stack := v.toList ++ rest }) target → Steps p.tables e below (T.setTop g) target) ∨
    (∃ (q : Addr) (vm₁ : Vm) (B : Pt), s.WarmedH vm₁ ∧ Stand p l e R s m args below meth c B.U B.locs B.cells B.slots ∧ PostX ⟨T.setVm vm₁, locs, cells, slots⟩ (Value.ref b :: argsL).toArray q B ∧
      Steps p.tables e below (T.setTop g) ((B.U.setTop { g with stack := rest }).pushFrame (.throwing q))) := by
  obtain ⟨mk, methM, hnamed, hmethM, hstM, habM⟩ := Cond.instanceMethod_spec hinst
  obtain ⟨m8, methM', cM, hn8, hmethM', -, -, -, -, -, -, hsigM⟩ := Cond.codeWith_spec hcode
  cases Option.some.inj (hn8.symm.trans hnamed)
  cases hmethM.symm.trans hmethM'
  obtain ⟨c2, r2, m2, q1, q2, q3, q4, kP, hkP, hkPi⟩ := Cond.selects_spec hsel
  cases hcls.symm.trans q1
  cases (State.methodFound?_of_named hnamed hy).symm.trans q2
  cases hnamed.symm.trans q3
  have hselP : selectMethod e.platform s.vm cellB.cls mk = .method mk := by rw [Launch.admits_selectMethod X.admits]; exact q4
  obtain ⟨vm₁, X₁, hstep₁⟩ := X.invokevirtual hexec hown hlink hnamed hmethM hstM hkP hkPi hy (a := b) (cell := cellB) hcell
    (fun z h => by rw [h] at hobj; cases hobj) hselP hmethM habM hkP hkPi (g := g) hg (argsL := argsL) (rest := rest) (hlen _ hsigM) hstack hdg
  rcases hK m meth c ⟨T.setVm vm₁, locs, cells, slots⟩ { g with stack := rest } (.invokevirtual index) mk (Value.ref b :: argsL).toArray X₁ hg hsize hdg hW (X₁.named hnamed) (hpre vm₁ X₁.warmed) with ⟨v, B, X', hpost, hsteps⟩ | ⟨q, B, X', hpost, hsteps⟩
  · exact Or.inl ⟨v, vm₁, B, X₁.warmed, X', hpost, fun target h => hstep₁ _ fun acts => by rw [doInvoke_state]; exact hsteps.trans h⟩
  · exact Or.inr ⟨q, vm₁, B, X₁.warmed, X', hpost, hstep₁ _ fun acts => by rw [doInvoke_state]; exact hsteps⟩
theorem vx_callSX (X : Stand p l e R s m args below meth c T locs cells slots) (hexec : p.tables.exec = Jvm.exec) {own : String} {index : Nat} {y : MethodName} {bytes : ByteArray} {maxL : Nat} {ret : Option FieldType} {hh : List (Nat × Nat × Nat × Nat)}
    (hown : s.vm.findClass own = some m.cls) (hlink : (Cond.methodLink own index y).before args s = true) (hstat : (Cond.static y).before args s = true) (hinit : (Cond.initialized y.cls).before args s = true)
    (hcode : (Cond.codeWith y bytes maxL ret hh).before args s = true) (hy : y.cls ≠ "java/lang/invoke/MethodHandle" ∧ y.cls ≠ "java/lang/invoke/VarHandle")
    {W9 : Nat} {Pre : Pt → Array Value → Prop} {Post : Pt → Array Value → Option Value → Pt → Prop} {PostX : Pt → Array Value → Addr → Pt → Prop} (hK : vx_Back l R p e below s args y 3 W9 Pre Post PostX)
    {g : JFrame} (hg : g.method = m) (hsize : g.locals.size = c.maxLocals) {argsL rest : List Value} (hlen : ∀ sig, parseMethodDescriptor y.desc = some sig → argsL.length = sig.parameters.length)
    (hstack : g.stack = argsL.reverse ++ rest) (hW : 2 * g.monitorRoom + (rest.map fun v => v.category).sum ≤ W9) (hdg : decode c.code g.pc = .ok (.invokestatic index, 3))
    (hpre : ∀ vm₁, s.WarmedH vm₁ → Pre ⟨T.setVm vm₁, locs, cells, slots⟩ argsL.toArray) :
    (∃ (v : Option Value) (vm₁ : Vm) (B : Pt), s.WarmedH vm₁ ∧ Stand p l e R s m args below meth c B.U B.locs B.cells B.slots ∧ Post ⟨T.setVm vm₁, locs, cells, slots⟩ argsL.toArray v B ∧
      ∀ target, Steps p.tables e below (B.U.setTop { g with pc := g.pc + 3, stack := v.toList ++ rest }) target → Steps p.tables e below (T.setTop g) target) ∨
    (∃ (q : Addr) (vm₁ : Vm) (B : Pt), s.WarmedH vm₁ ∧ Stand p l e R s m args below meth c B.U B.locs B.cells B.slots ∧ PostX ⟨T.setVm vm₁, locs, cells, slots⟩ argsL.toArray q B ∧
      Steps p.tables e below (T.setTop g) ((B.U.setTop { g with stack := rest }).pushFrame (.throwing q))) := by
  obtain ⟨mk, methM, cM, hnamed, hmethM, -, -, -, -, -, -, hsigM⟩ := Cond.codeWith_spec hcode
  have hstatic : methM.isStatic = true := Cond.static_spec hnamed hmethM hstat
  obtain ⟨kP, hkP, -⟩ := className_of_methodNamed hnamed
  have hinitP : kP.init = .initialized := Cond.initialized_spec (findClass_of_methodNamed hnamed) hkP hinit
  obtain ⟨vm₁, X₁, hstep₁⟩ := X.invokestatic hexec hown hlink hnamed hmethM hstatic hkP hinitP hy (g := g) hg (argsL := argsL) (rest := rest) (hlen _ hsigM) hstack hdg
  rcases hK m meth c ⟨T.setVm vm₁, locs, cells, slots⟩ { g with stack := rest } (.invokestatic index) mk argsL.toArray X₁ hg hsize hdg hW (X₁.named hnamed) (hpre vm₁ X₁.warmed) with ⟨v, B, X', hpost, hsteps⟩ | ⟨q, B, X', hpost, hsteps⟩
  · exact Or.inl ⟨v, vm₁, B, X₁.warmed, X', hpost, fun target h => hstep₁ _ fun acts => by rw [doInvoke_state]; exact hsteps.trans h⟩
  · exact Or.inr ⟨q, vm₁, B, X₁.warmed, X', hpost, hstep₁ _ fun acts => by rw [doInvoke_state]; exact hsteps⟩
theorem vx_callVW (X : Stand p l e R s m args below meth c T locs cells slots) (hexec : p.tables.exec = Jvm.exec) {own C : String} {index : Nat} {y : MethodName} {bytes : ByteArray} {maxL : Nat} {ret : Option FieldType} {hh : List (Nat × Nat × Nat × Nat)}
    (hown : s.vm.findClass own = some m.cls) (hlink : (Cond.methodLink own index y).before args s = true) (hinst : (Cond.instanceMethod y).before args s = true) (hsel : (Cond.selects C y y).before args s = true)
    (hcode : (Cond.codeWith y bytes maxL ret hh).before args s = true) (hy : y.cls ≠ "java/lang/invoke/MethodHandle" ∧ y.cls ≠ "java/lang/invoke/VarHandle")
    {W9 : Nat} {Pre : Pt → Array Value → Prop} {Post : Pt → Array Value → Option Value → Pt → Prop} (hK : Back l R p e below s args y 3 W9 Pre Post)
    {b : Addr} {cellB : Cell} (hcell : T.heap[b]? = some cellB) (hobj : cellB.vm.isStatics = false) (hcls : s.vm.findClass C = some cellB.cls)
    {g : JFrame} (hg : g.method = m) (hsize : g.locals.size = c.maxLocals) {argsL rest : List Value} (hlen : ∀ sig, parseMethodDescriptor y.desc = some sig → argsL.length = sig.parameters.length)
    (hstack : g.stack = argsL.reverse ++ .ref b :: rest) (hW : 2 * g.monitorRoom + (rest.map fun v => v.category).sum ≤ W9) (hdg : decode c.code g.pc = .ok (.invokevirtual index, 3))
    (hpre : ∀ vm₁, s.WarmedH vm₁ → Pre ⟨T.setVm vm₁, locs, cells, slots⟩ (Value.ref b :: argsL).toArray) :
    ∃ (v : Option Value) (vm₁ : Vm) (B : Pt), s.WarmedH vm₁ ∧ Stand p l e R s m args below meth c B.U B.locs B.cells B.slots ∧ Post ⟨T.setVm vm₁, locs, cells, slots⟩ (Value.ref b :: argsL).toArray v B ∧
      ∀ target, Steps p.tables e below (B.U.setTop { g with pc := g.pc + 3, stack := v.toList ++ rest }) target → Steps p.tables e below (T.setTop g) target := by
  obtain ⟨mk, methM, hnamed, hmethM, hstM, habM⟩ := Cond.instanceMethod_spec hinst
  obtain ⟨m8, methM', cM, hn8, hmethM', -, -, -, -, -, -, hsigM⟩ := Cond.codeWith_spec hcode
  cases Option.some.inj (hn8.symm.trans hnamed)
  cases hmethM.symm.trans hmethM'
  obtain ⟨c2, r2, m2, q1, q2, q3, q4, kP, hkP, hkPi⟩ := Cond.selects_spec hsel
  cases hcls.symm.trans q1
  cases (State.methodFound?_of_named hnamed hy).symm.trans q2
  cases hnamed.symm.trans q3
  have hselP : selectMethod e.platform s.vm cellB.cls mk = .method mk := by rw [Launch.admits_selectMethod X.admits]; exact q4
  obtain ⟨vm₁, X₁, hstep₁⟩ := X.invokevirtual hexec hown hlink hnamed hmethM hstM hkP hkPi hy (a := b) (cell := cellB) hcell
    (fun z h => by rw [h] at hobj; cases hobj) hselP hmethM habM hkP hkPi (g := g) hg (argsL := argsL) (rest := rest) (hlen _ hsigM) hstack hdg
  obtain ⟨v, B, X', hpost, hsteps⟩ := hK m meth c ⟨T.setVm vm₁, locs, cells, slots⟩ { g with stack := rest } (.invokevirtual index) mk (Value.ref b :: argsL).toArray X₁ hg hsize hdg hW (X₁.named hnamed) (hpre vm₁ X₁.warmed)
  exact ⟨v, vm₁, B, X₁.warmed, X', hpost, fun target h => hstep₁ _ fun acts => by rw [doInvoke_state]; exact hsteps.trans h⟩
abbrev vx_CVW (R : Room) (s : State) (args : Array Value) (own C : String) (index : Nat) (y : MethodName) (bytes : ByteArray) (maxL : Nat) (ret : Option FieldType) (hh : List (Nat × Nat × Nat × Nat)) (ws : List Cond) (rm : Room) (mc ms n : Nat) : Prop :=
  (rm.cells = mc ∧ rm.slots = ms ∧ rm.frames + 1 ≤ R.frames ∧ 8 + (maxL + 11) + rm.locals ≤ R.locals ∧ (∀ w ∈ ws, ∀ (a' : Array Value) (U : State), s.WarmedH U.vm → w.before a' U = true) ∧ Cond.codeWith y bytes maxL ret hh ∈ ws) ∧
  (Cond.codeWith y bytes maxL ret hh).before args s = true ∧ (Cond.initialized y.cls).before args s = true ∧ (y.cls ≠ "java/lang/invoke/MethodHandle" ∧ y.cls ≠ "java/lang/invoke/VarHandle") ∧
  (∀ sig, parseMethodDescriptor y.desc = some sig → n = sig.parameters.length) ∧ (Cond.methodLink own index y).before args s = true ∧ (Cond.instanceMethod y).before args s = true ∧ (Cond.selects C y y).before args s = true
theorem vx_cwVW {own C : String} {index maxL mc ms : Nat} {y : MethodName} {bytes : ByteArray} {ret : Option FieldType} {hh : List (Nat × Nat × Nat × Nat)} {Ts ws ws' : List Cond} {rm : Room} (n : Nat) (ht : ∀ w ∈ Ts, w.before args s = true) (hT : GoodIn Ts (wsV own index C y ws)) (hw : ws = Cond.codeWith y bytes maxL ret hh :: ws') (hrc : rm.cells = mc) (hrs : rm.slots = ms)
    (hd : y.cls = C ∧ y.cls ≠ "java/lang/invoke/MethodHandle" ∧ y.cls ≠ "java/lang/invoke/VarHandle" ∧ (parseMethodDescriptor y.desc).map (fun d => d.parameters.length) = some n) (hR : rm.frames + 1 ≤ R.frames ∧ 8 + (maxL + 11) + rm.locals ≤ R.locals) :
    vx_CVW R s args own C index y bytes maxL ret hh ws rm mc ms n := by
  obtain ⟨hC, hd⟩ := hd
  subst hC
  have ok : ∀ w ∈ wsV own index y.cls y ws, w.before args s = true := fun w h => ht w (hT w h).1
  have hG : GoodIn Ts ws := fun w h => hT w (by unfold wsV; exact List.mem_append_right _ h)
  have hc : Cond.codeWith y bytes maxL ret hh ∈ ws := by rw [hw]; exact List.mem_cons_self
  refine ⟨⟨hrc, hrs, hR.1, hR.2, pay_in ht hG, hc⟩, ht _ (hG _ hc).1, ok _ (by simp [wsV]), ⟨hd.1, hd.2.1⟩, fun sig h => ?_, ok _ (by simp [wsV]), ok _ (by simp [wsV]), ok _ (by simp [wsV])⟩
  have h2 := hd.2.2
  rw [h] at h2
  exact (Option.some.inj h2).symm
theorem vx_runVW {y : MethodName} {bytes cc : ByteArray} {maxL nL mc ms n index : Nat} {ret : Option FieldType} {hh : List (Nat × Nat × Nat × Nat)} {ws : List Cond} {rm : Room} {Pc : Array Value → State → Prop} {Qc : Array Value → State → Outcome → State → Prop} {free : Addr → Prop} {Ts : List Cond} {own C : String} {b : Addr} {As rest : List Value} {g : JFrame}
    (S : CallFix p m c cc nL s args Ts own) (hM : Met l y ws rm Pc Qc mc ms free) (cw : vx_CVW R s args own C index y bytes maxL ret hh ws rm mc ms n) (hp : PreV s H C b Pc As)
    (hg : g.method = m) (hn : As.length = n) (hsize : g.locals.size = nL) (hstack : g.stack = As.reverse ++ .ref b :: rest) (hW : 2 * g.monitorRoom + (rest.map fun v => v.category).sum ≤ 8) (hdg : decode cc g.pc = .ok (.invokevirtual index, 3)) (hf : cells + mc ≤ R.cells ∧ slots + ms ≤ R.slots) :
    va_Run p l e R s m args below meth c H locs cells slots mc ms g rest (Qc (Value.ref b :: As).toArray) free := by
  obtain ⟨⟨hrc, hrs, hfr, hlo, hws, hcw⟩, hcode, hini, hy, hlen, hl, hin, hse⟩ := cw
  have hK : Back l R p e below s args y 3 8 (PreOf R mc ms Pc) (PostOf Qc mc ms free) := va_backW (hh := hh) (bytes := bytes) (maxL := maxL) (ret := ret) hM hp.1 hrc hrs hfr hlo hws hcw (fun a' U hW => word_at hW (Or.inl (by first | rfl | simp [Cond.onTables, Cond.keeps, Cond.steady])) hini)
  obtain ⟨hx, hb, hml, ho, -⟩ := S
  obtain ⟨-, ⟨cellB, hcB, hoB, hclB⟩, hPc⟩ := hp
  intro T hT X
  obtain ⟨v, vm₁, ⟨U', l2, c2, s2⟩, hW₁, X', ⟨g', mk, t, L, e1, e2, hq, h1, hL, h2, h3⟩, st⟩ := vx_callVW X hx (C := C) (hh := hh) (bytes := bytes) (maxL := maxL) (ret := ret) ho hl hin hse hcode hy hK (by rw [hT]; exact hcB) hoB hclB hg (hsize.trans hml.symm) (argsL := As) (rest := rest) (fun sig h => hn.trans (hlen sig h)) hstack hW (by rw [hb]; exact hdg)
    (fun vm₁ hW₁ => ⟨hf.1, hf.2, hPc (T.setVm vm₁) hT hW₁⟩)
  dsimp only [Pt.U, Pt.locs, Pt.cells, Pt.slots] at X' e1 e2 h1 h2 h3 st
  subst h1; subst h2; subst h3
  exact ⟨v, (T.setVm vm₁).calling g' mk (Value.ref b :: As).toArray, t, U', L, hT, X', hL, e1, e2, hq, st⟩
section
variable {y : MethodName} {bytes cc : ByteArray} {maxL nL mc ms n index : Nat} {ret : Option FieldType} {ws : List Cond} {rm : Room} {Pc : Array Value → State → Prop} {Qc : Array Value → State → Outcome → State → Prop} {XC : String → State → State → Prop} {free : Addr → Prop} {Ts : List Cond} {own C : String} {b : Addr} {As rest : List Value} {g : JFrame}
theorem vx_runVX {hh : List (Nat × Nat × Nat × Nat)} (S : CallFix p m c cc nL s args Ts own) (hM : vx_Met l y ws rm Pc Qc XC mc ms free) (cw : vx_CVW R s args own C index y bytes maxL ret hh ws rm mc ms n) (hp : PreV s H C b Pc As)
    (hg : g.method = m) (hn : As.length = n) (hsize : g.locals.size = nL) (hstack : g.stack = As.reverse ++ .ref b :: rest) (hW : 2 * g.monitorRoom + (rest.map fun v => v.category).sum ≤ 8) (hdg : decode cc g.pc = .ok (.invokevirtual index, 3)) (hf : cells + mc ≤ R.cells ∧ slots + ms ≤ R.slots) :
    vx_Run p l e R s m args below meth c H locs cells slots mc ms g rest (Qc (Value.ref b :: As).toArray) XC free := by
  obtain ⟨⟨hrc, hrs, hfr, hlo, hws, hcw⟩, hcode, hini, hy, hlen, hl, hin, hse⟩ := cw
  have hK : vx_Back l R p e below s args y 3 8 (PreOf R mc ms Pc) (PostOf Qc mc ms free) (vx_Post XC mc ms free) := vx_backW (hh := hh) (bytes := bytes) (maxL := maxL) (ret := ret) hM hp.1 hrc hrs hfr hlo hws hcw (fun a' U hW => word_at hW (Or.inl (by first | rfl | simp [Cond.onTables, Cond.keeps, Cond.steady])) hini)
  obtain ⟨hx, hb, hml, ho, -⟩ := S
  obtain ⟨-, ⟨cellB, hcB, hoB, hclB⟩, hPc⟩ := hp
  intro T hT X
  rcases vx_callVX X hx (C := C) (hh := hh) (bytes := bytes) (maxL := maxL) (ret := ret) ho hl hin hse hcode hy hK (by rw [hT]; exact hcB) hoB hclB hg (hsize.trans hml.symm) (argsL := As) (rest := rest) (fun sig h => hn.trans (hlen sig h)) hstack hW (by rw [hb]; exact hdg)
    (fun vm₁ hW₁ => ⟨hf.1, hf.2, hPc (T.setVm vm₁) hT hW₁⟩) with ⟨v, vm₁, ⟨U', l2, c2, s2⟩, hW₁, X', ⟨g', mk, t, L, e1, e2, hq, h1, hL, h2, h3⟩, st⟩ | ⟨q, vm₁, ⟨U', l2, c2, s2⟩, hW₁, X', ⟨g', mk, t, L, E, ce, e1, e2, hq, hce, hcv, hcl, h1, hL, h2, h3⟩, st⟩
  · dsimp only [Pt.U, Pt.locs, Pt.cells, Pt.slots] at X' e1 e2 h1 h2 h3 st
    subst h1; subst h2; subst h3
    exact Or.inl ⟨v, (T.setVm vm₁).calling g' mk (Value.ref b :: As).toArray, t, U', L, hT, X', hL, e1, e2, hq, st⟩
  · dsimp only [Pt.U, Pt.locs, Pt.cells, Pt.slots] at X' e1 e2 h1 h2 h3 st hcl
    subst h1; subst h2; subst h3
    exact Or.inr ⟨q, (T.setVm vm₁).calling g' mk (Value.ref b :: As).toArray, t, U', L, E, ce, hT, X', hL, e1, e2, hq, hce, hcv, vx_cls hW₁ hcl, st⟩
theorem vx_runSX {hh : List (Nat × Nat × Nat × Nat)} (S : CallFix p m c cc nL s args Ts own) (hM : vx_Met l y ws rm Pc Qc XC mc ms free) (cw : vx_CSW R s args own index y bytes maxL ret hh ws rm mc ms n) (hp : PreS s H Pc As)
    (hg : g.method = m) (hn : As.length = n) (hsize : g.locals.size = nL) (hstack : g.stack = As.reverse ++ rest) (hW : 2 * g.monitorRoom + (rest.map fun v => v.category).sum ≤ 8) (hdg : decode cc g.pc = .ok (.invokestatic index, 3)) (hf : cells + mc ≤ R.cells ∧ slots + ms ≤ R.slots) :
    vx_Run p l e R s m args below meth c H locs cells slots mc ms g rest (Qc As.toArray) XC free := by
  obtain ⟨⟨hrc, hrs, hfr, hlo, hws, hcw⟩, hcode, hini, hy, hlen, hl, hstt⟩ := cw
  have hK : vx_Back l R p e below s args y 3 8 (PreOf R mc ms Pc) (PostOf Qc mc ms free) (vx_Post XC mc ms free) := vx_backW (hh := hh) (bytes := bytes) (maxL := maxL) (ret := ret) hM hp.1 hrc hrs hfr hlo hws hcw (fun a' U hW => word_at hW (Or.inl (by first | rfl | simp [Cond.onTables, Cond.keeps, Cond.steady])) hini)
  obtain ⟨hx, hb, hml, ho, -⟩ := S
  intro T hT X
  rcases vx_callSX X hx (hh := hh) (bytes := bytes) (maxL := maxL) (ret := ret) ho hl hstt hini hcode hy hK hg (hsize.trans hml.symm) (argsL := As) (rest := rest) (fun sig h => hn.trans (hlen sig h)) hstack hW (by rw [hb]; exact hdg)
    (fun vm₁ hW₁ => ⟨hf.1, hf.2, hp.2 (T.setVm vm₁) hT hW₁⟩) with ⟨v, vm₁, ⟨U', l2, c2, s2⟩, hW₁, X', ⟨g', mk, t, L, e1, e2, hq, h1, hL, h2, h3⟩, st⟩ | ⟨q, vm₁, ⟨U', l2, c2, s2⟩, hW₁, X', ⟨g', mk, t, L, E, ce, e1, e2, hq, hce, hcv, hcl, h1, hL, h2, h3⟩, st⟩
  · dsimp only [Pt.U, Pt.locs, Pt.cells, Pt.slots] at X' e1 e2 h1 h2 h3 st
    subst h1; subst h2; subst h3
    exact Or.inl ⟨v, (T.setVm vm₁).calling g' mk As.toArray, t, U', L, hT, X', hL, e1, e2, hq, st⟩
  · dsimp only [Pt.U, Pt.locs, Pt.cells, Pt.slots] at X' e1 e2 h1 h2 h3 st hcl
    subst h1; subst h2; subst h3
    exact Or.inr ⟨q, (T.setVm vm₁).calling g' mk As.toArray, t, U', L, E, ce, hT, X', hL, e1, e2, hq, hce, hcv, vx_cls hW₁ hcl, st⟩
end
end VXH
theorem vx_ofWH {l : Launch} {y : MethodName} {ws ws' : List Cond} {rm : Room} {Pc : Array Value → State → Prop} {Qc : Array Value → State → Outcome → State → Prop} {XC : String → State → State → Prop} {mc ms : Nat} {free : Addr → Prop} {cc : ByteArray} {maxL : Nat} {ret : Option FieldType} {hh : List (Nat × Nat × Nat × Nat)}
    (hy : plainName y.cls = true) (hw : ws = Cond.codeWith y cc maxL ret hh :: ws')
    (body : ∀ p e s m args below meth c s₁, BodyLoose p l y (headSpec ws rm) cc maxL ret e s m args below meth c s₁ → c.maxLocals = maxL → Pc args s →
      W p l e (headSpec ws rm).room s m args below meth c s.heap [] 0 0 (vx_MQ below Qc XC args s mc ms free) (entryFrame m args maxL)) : vx_Met l y ws rm Pc Qc XC mc ms free := by
  refine MetFree.of_bodyS (code := cc) (maxLocals := maxL) (ret := ret) hy ?_ ?_
  · intro args s m h hn
    obtain ⟨m9, meth, c, hn9, h1, h2, h3, h4, -, h5, h6, -⟩ := Cond.codeWith_spec (atoms_spec (ws := ws) h _ (by rw [hw]; exact List.mem_cons_self))
    cases hn.symm.trans hn9
    exact ⟨meth, c, h1, h2, h3, h4, h5, h6⟩
  · intro p e s m args below meth c s₁ B hml hP _
    have hh0 : s₁.heap = s.heap := by rw [B.state]; rfl
    obtain ⟨t, a1, o, b1, b2, b3⟩ := body p e s m args below meth c s₁ B hml hP s₁ hh0 (Stand.of_body B)
    exact ⟨t, o, a1, b1, b2, b3⟩
/-! ===== END ===== -/
end
section
def RX0 : String := "LinkedIndex"
def RX1 : String := "LinkedIndexModel"
def RL : String := "LinkedIndexLaw"
def TX0 : u_T := fun k => match k with
  | 0 => ("LinkedIndex", "keys", "[J", true)
  | 1 => ("LinkedIndex", "values", "[J", true)
  | 2 => ("LinkedIndex", "keyCount", "I", false)
  | 3 => ("LinkedIndex", "slotKinds", "[I", true)
  | 4 => ("LinkedIndex", "slotKeys", "[J", true)
  | _ => ("LinkedIndex", "slotValues", "[J", true)
def tyX0 : Nat → FieldType := fun k => match k with
  | 0 => .array .long
  | 1 => .array .long
  | 2 => .int
  | 3 => .array .int
  | 4 => .array .long
  | _ => .array .long
theorem nmX0 : ∀ a, a < 6 → ∀ b, b < 6 → a ≠ b → (TX0 a).2.1 ≠ (TX0 b).2.1 := by decide +kernel
theorem tyX0_ok : ∀ k, k < 6 → parseFieldDescriptor (TX0 k).2.2.1 = some (tyX0 k) := by decide +kernel
def TX1 : u_T := fun k => match k with
  | 0 => ("LinkedIndexModel", "code", "I", false)
  | 1 => ("LinkedIndexModel", "size", "I", false)
  | 2 => ("LinkedIndexModel", "keys", "[J", true)
  | 3 => ("LinkedIndexModel", "values", "[J", true)
  | 4 => ("LinkedIndexModel", "kinds", "[I", true)
  | 5 => ("LinkedIndexModel", "asked", "[J", true)
  | _ => ("LinkedIndexModel", "given", "[J", true)
def tyX1 : Nat → FieldType := fun k => match k with
  | 0 => .int
  | 1 => .int
  | 2 => .array .long
  | 3 => .array .long
  | 4 => .array .int
  | 5 => .array .long
  | _ => .array .long
theorem nmX1 : ∀ a, a < 7 → ∀ b, b < 7 → a ≠ b → (TX1 a).2.1 ≠ (TX1 b).2.1 := by decide +kernel
theorem tyX1_ok : ∀ k, k < 7 → parseFieldDescriptor (TX1 k).2.2.1 = some (tyX1 k) := by decide +kernel
abbrev vwCl : List vw_C := [(RX0, TX0, 6), (RX1, TX1, 7)]
/-- the tables' words that a warming keeps -/
def ALL : List Cond := lw_tbl.filter goodWord
theorem al_in {w : Cond} {i : Nat} (h : lw_tbl[i]? = some w) (hg : goodWord w = true) : w ∈ ALL := List.mem_filter.mpr ⟨List.mem_of_getElem? h, hg⟩
theorem al_tbl {w : Cond} (h : w ∈ ALL) : w ∈ lw_tbl := (List.mem_filter.mp h).1
theorem wm {w x : Cond} (h : w ∈ ALL) : w ∈ x :: ALL := List.mem_cons_of_mem _ h
theorem al_good {w : Cond} (h : w ∈ ALL) : (w.onTables && w.keeps) = true ∨ ∃ ty, w = .arrayClass ty := good_of_word (List.mem_filter.mp h).2
theorem gd_up {ws : List Cond} {x : Cond} (h : GoodIn ALL ws) : GoodIn (x :: ALL) ws := fun w hw => ⟨wm (h w hw).1, (h w hw).2⟩
theorem gd_I {x : Cond} (h : x ∈ ALL) : GoodIn ALL (x :: ALL) := by
  intro w hw
  rcases List.mem_cons.mp hw with rfl | hw
  · exact ⟨h, al_good h⟩
  · exact ⟨hw, al_good hw⟩
theorem gd_V {own C : String} {idx : Nat} {y : MethodName} {x : Cond} (h1 : Cond.methodLink own idx y ∈ ALL) (h2 : Cond.instanceMethod y ∈ ALL) (h3 : Cond.selects C y y ∈ ALL) (h4 : Cond.initialized C ∈ ALL) (h5 : x ∈ ALL) : GoodIn ALL (wsV own idx C y (x :: ALL)) := by
  intro w hw
  unfold wsV at hw
  rcases List.mem_append.mp hw with hw | hw
  · rcases List.mem_cons.mp hw with rfl | hw
    · exact ⟨h1, al_good h1⟩
    · rcases List.mem_cons.mp hw with rfl | hw
      · exact ⟨h2, al_good h2⟩
      · rcases List.mem_cons.mp hw with rfl | hw
        · exact ⟨h3, al_good h3⟩
        · rcases List.mem_cons.mp hw with rfl | hw
          · exact ⟨h4, al_good h4⟩
          · cases hw
  · exact gd_I h5 w hw
theorem gd_S {own : String} {idx : Nat} {y : MethodName} {x : Cond} (h1 : Cond.methodLink own idx y ∈ ALL) (h2 : Cond.static y ∈ ALL) (h3 : Cond.initialized y.cls ∈ ALL) (h5 : x ∈ ALL) : GoodIn ALL (va_wsS own idx y (x :: ALL)) := by
  intro w hw
  unfold va_wsS at hw
  rcases List.mem_append.mp hw with hw | hw
  · rcases List.mem_cons.mp hw with rfl | hw
    · exact ⟨h1, al_good h1⟩
    · rcases List.mem_cons.mp hw with rfl | hw
      · exact ⟨h2, al_good h2⟩
      · rcases List.mem_cons.mp hw with rfl | hw
        · exact ⟨h3, al_good h3⟩
        · cases hw
  · exact gd_I h5 w hw
theorem ui_X0 : ∀ w ∈ u_ws RX0 TX0 6, w ∈ ALL := fun w h => List.mem_filter.mpr ((by decide +kernel : ∀ w ∈ u_ws RX0 TX0 6, w ∈ lw_tbl ∧ goodWord w = true) w h)
theorem ui_X1 : ∀ w ∈ u_ws RX1 TX1 7, w ∈ ALL := fun w h => List.mem_filter.mpr ((by decide +kernel : ∀ w ∈ u_ws RX1 TX1 7, w ∈ lw_tbl ∧ goodWord w = true) w h)
abbrev cX0_init : ByteArray := prog_1_method_1_code
def yX0_init : MethodName := ⟨RX0, "<init>", "()V"⟩
def wsX0_init : List Cond := .code yX0_init cX0_init 2 none :: ALL
abbrev cX0_crash : ByteArray := prog_1_method_7_code
def yX0_crash : MethodName := ⟨RX0, "crash", "()I"⟩
def wsX0_crash : List Cond := .code yX0_crash cX0_crash 3 (some .int) :: ALL
abbrev cX0_size : ByteArray := prog_1_method_9_code
def yX0_size : MethodName := ⟨RX0, "size", "()I"⟩
def wsX0_size : List Cond := .code yX0_size cX0_size 1 (some .int) :: ALL
abbrev cX0_count : ByteArray := prog_1_method_12_code
def yX0_count : MethodName := ⟨RX0, "count", "(JJ)I"⟩
def wsX0_count : List Cond := .code yX0_count cX0_count 7 (some .int) :: ALL
abbrev cX0_placeOf : ByteArray := prog_1_method_18_code
def yX0_placeOf : MethodName := ⟨RX0, "placeOf", "(J)I"⟩
def wsX0_placeOf : List Cond := .code yX0_placeOf cX0_placeOf 4 (some .int) :: ALL
abbrev cX0_sum : ByteArray := prog_1_method_13_code
def yX0_sum : MethodName := ⟨RX0, "sum", "(JJ)J"⟩
def wsX0_sum : List Cond := .code yX0_sum cX0_sum 8 (some .long) :: ALL
abbrev cL_begin : ByteArray := method_3_code
def yL_begin : MethodName := ⟨RL, "begin", "(LLinkedIndex;IIJJ)I"⟩
def wsL_begin : List Cond := .codeWith yL_begin cL_begin 8 (some .int) [(0, 9, 12, 13), (0, 9, 16, 15)] :: ALL
abbrev cX0_begin : ByteArray := prog_1_method_2_code
def yX0_begin : MethodName := ⟨RX0, "begin", "(IIJJ)V"⟩
def wsX0_begin : List Cond := .code yX0_begin cX0_begin 7 none :: ALL
abbrev cX0_requireSlot : ByteArray := prog_1_method_14_code
def yX0_requireSlot : MethodName := ⟨RX0, "requireSlot", "(I)V"⟩
def wsX0_requireSlot : List Cond := .code yX0_requireSlot cX0_requireSlot 1 none :: ALL
abbrev cL_step : ByteArray := method_4_code
def yL_step : MethodName := ⟨RL, "step", "(LLinkedIndex;II)I"⟩
def wsL_step : List Cond := .codeWith yL_step cL_step 4 (some .int) [(0, 6, 9, 13), (0, 6, 12, 15)] :: ALL
abbrev cX0_step : ByteArray := prog_1_method_3_code
def yX0_step : MethodName := ⟨RX0, "step", "(II)V"⟩
def wsX0_step : List Cond := .code yX0_step cX0_step 3 none :: ALL
abbrev cX0_requireSteps : ByteArray := prog_1_method_15_code
def yX0_requireSteps : MethodName := ⟨RX0, "requireSteps", "(I)V"⟩
def wsX0_requireSteps : List Cond := .code yX0_requireSteps cX0_requireSteps 1 none :: ALL
abbrev cX0_requireOperation : ByteArray := prog_1_method_16_code
def yX0_requireOperation : MethodName := ⟨RX0, "requireOperation", "(I)V"⟩
def wsX0_requireOperation : List Cond := .code yX0_requireOperation cX0_requireOperation 2 none :: ALL
abbrev cL_finish : ByteArray := method_5_code
def yL_finish : MethodName := ⟨RL, "finish", "(LLinkedIndex;I[J)I"⟩
def wsL_finish : List Cond := .codeWith yL_finish cL_finish 4 (some .int) [(0, 8, 11, 13), (0, 8, 14, 15), (0, 8, 17, 25)] :: ALL
abbrev cX0_finish : ByteArray := prog_1_method_4_code
def yX0_finish : MethodName := ⟨RX0, "finish", "(I)J"⟩
def wsX0_finish : List Cond := .code yX0_finish cX0_finish 7 (some .long) :: ALL
abbrev cX0_finishPut : ByteArray := prog_1_method_20_code
def yX0_finishPut : MethodName := ⟨RX0, "finishPut", "(II)J"⟩
def wsX0_finishPut : List Cond := .code yX0_finishPut cX0_finishPut 4 (some .long) :: ALL
abbrev cX0_isAt : ByteArray := prog_1_method_19_code
def yX0_isAt : MethodName := ⟨RX0, "isAt", "(IJ)Z"⟩
def wsX0_isAt : List Cond := .code yX0_isAt cX0_isAt 4 (some .boolean) :: ALL
abbrev cX0_openGap : ByteArray := prog_1_method_21_code
def yX0_openGap : MethodName := ⟨RX0, "openGap", "(I)V"⟩
def wsX0_openGap : List Cond := .code yX0_openGap cX0_openGap 3 none :: ALL
abbrev cX0_closeGap : ByteArray := prog_1_method_22_code
def yX0_closeGap : MethodName := ⟨RX0, "closeGap", "(I)V"⟩
def wsX0_closeGap : List Cond := .code yX0_closeGap cX0_closeGap 3 none :: ALL
abbrev cL_drop : ByteArray := method_6_code
def yL_drop : MethodName := ⟨RL, "drop", "(LLinkedIndex;I[J)I"⟩
def wsL_drop : List Cond := .codeWith yL_drop cL_drop 4 (some .int) [(0, 16, 19, 13)] :: ALL
abbrev cX0_drop : ByteArray := prog_1_method_5_code
def yX0_drop : MethodName := ⟨RX0, "drop", "(I)Z"⟩
def wsX0_drop : List Cond := .code yX0_drop cX0_drop 3 (some .boolean) :: ALL
abbrev cL_tidy : ByteArray := method_7_code
def yL_tidy : MethodName := ⟨RL, "tidy", "(LLinkedIndex;I)I"⟩
def wsL_tidy : List Cond := .codeWith yL_tidy cL_tidy 3 (some .int) [(0, 5, 8, 13)] :: ALL
abbrev cX0_tidy : ByteArray := prog_1_method_6_code
def yX0_tidy : MethodName := ⟨RX0, "tidy", "(I)V"⟩
def wsX0_tidy : List Cond := .code yX0_tidy cX0_tidy 2 none :: ALL
abbrev cL_kind : ByteArray := method_8_code
def yL_kind : MethodName := ⟨RL, "kind", "(LLinkedIndex;I[J)I"⟩
def wsL_kind : List Cond := .codeWith yL_kind cL_kind 4 (some .int) [(0, 9, 12, 13)] :: ALL
abbrev cX0_kind : ByteArray := prog_1_method_8_code
def yX0_kind : MethodName := ⟨RX0, "kind", "(I)I"⟩
def wsX0_kind : List Cond := .code yX0_kind cX0_kind 2 (some .int) :: ALL
abbrev cL_key : ByteArray := method_9_code
def yL_key : MethodName := ⟨RL, "key", "(LLinkedIndex;I[J)I"⟩
def wsL_key : List Cond := .codeWith yL_key cL_key 4 (some .int) [(0, 8, 11, 42)] :: ALL
abbrev cX0_key : ByteArray := prog_1_method_10_code
def yX0_key : MethodName := ⟨RX0, "key", "(I)J"⟩
def wsX0_key : List Cond := .code yX0_key cX0_key 2 (some .long) :: ALL
abbrev cX0_requirePlace : ByteArray := prog_1_method_17_code
def yX0_requirePlace : MethodName := ⟨RX0, "requirePlace", "(I)V"⟩
def wsX0_requirePlace : List Cond := .code yX0_requirePlace cX0_requirePlace 2 none :: ALL
abbrev cL_value : ByteArray := method_10_code
def yL_value : MethodName := ⟨RL, "value", "(LLinkedIndex;I[J)I"⟩
def wsL_value : List Cond := .codeWith yL_value cL_value 4 (some .int) [(0, 8, 11, 42)] :: ALL
abbrev cX0_value : ByteArray := prog_1_method_11_code
def yX0_value : MethodName := ⟨RX0, "value", "(I)J"⟩
def wsX0_value : List Cond := .code yX0_value cX0_value 2 (some .long) :: ALL
abbrev cX1_init : ByteArray := prog_3_method_1_code
def yX1_init : MethodName := ⟨RX1, "<init>", "()V"⟩
def wsX1_init : List Cond := .code yX1_init cX1_init 1 none :: ALL
abbrev cX1_thrown : ByteArray := prog_3_method_2_code
def yX1_thrown : MethodName := ⟨RX1, "thrown", "()I"⟩
def wsX1_thrown : List Cond := .code yX1_thrown cX1_thrown 1 (some .int) :: ALL
abbrev cX1_begin : ByteArray := prog_3_method_4_code
def yX1_begin : MethodName := ⟨RX1, "begin", "(IIJJ)V"⟩
def wsX1_begin : List Cond := .code yX1_begin cX1_begin 7 none :: ALL
abbrev cX1_isSlot : ByteArray := prog_3_method_3_code
def yX1_isSlot : MethodName := ⟨RX1, "isSlot", "(I)Z"⟩
def wsX1_isSlot : List Cond := .code yX1_isSlot cX1_isSlot 1 (some .boolean) :: ALL
abbrev cX1_step : ByteArray := prog_3_method_5_code
def yX1_step : MethodName := ⟨RX1, "step", "(II)V"⟩
def wsX1_step : List Cond := .code yX1_step cX1_step 3 none :: ALL
abbrev cX1_finish : ByteArray := prog_3_method_9_code
def yX1_finish : MethodName := ⟨RX1, "finish", "(I)J"⟩
def wsX1_finish : List Cond := .code yX1_finish cX1_finish 8 (some .long) :: ALL
abbrev cX1_rank : ByteArray := prog_3_method_6_code
def yX1_rank : MethodName := ⟨RX1, "rank", "(J)I"⟩
def wsX1_rank : List Cond := .code yX1_rank cX1_rank 4 (some .int) :: ALL
abbrev cX1_put : ByteArray := prog_3_method_7_code
def yX1_put : MethodName := ⟨RX1, "put", "(IZJJ)J"⟩
def wsX1_put : List Cond := .code yX1_put cX1_put 8 (some .long) :: ALL
abbrev cX1_take : ByteArray := prog_3_method_8_code
def yX1_take : MethodName := ⟨RX1, "take", "(I)J"⟩
def wsX1_take : List Cond := .code yX1_take cX1_take 5 (some .long) :: ALL
abbrev cX1_drop : ByteArray := prog_3_method_10_code
def yX1_drop : MethodName := ⟨RX1, "drop", "(I)Z"⟩
def wsX1_drop : List Cond := .code yX1_drop cX1_drop 3 (some .boolean) :: ALL
abbrev cX1_tidy : ByteArray := prog_3_method_11_code
def yX1_tidy : MethodName := ⟨RX1, "tidy", "(I)V"⟩
def wsX1_tidy : List Cond := .code yX1_tidy cX1_tidy 2 none :: ALL
abbrev cX1_crash : ByteArray := prog_3_method_12_code
def yX1_crash : MethodName := ⟨RX1, "crash", "()I"⟩
def wsX1_crash : List Cond := .code yX1_crash cX1_crash 3 (some .int) :: ALL
abbrev cX1_kind : ByteArray := prog_3_method_13_code
def yX1_kind : MethodName := ⟨RX1, "kind", "(I)I"⟩
def wsX1_kind : List Cond := .code yX1_kind cX1_kind 2 (some .int) :: ALL
abbrev cX1_size : ByteArray := prog_3_method_14_code
def yX1_size : MethodName := ⟨RX1, "size", "()I"⟩
def wsX1_size : List Cond := .code yX1_size cX1_size 1 (some .int) :: ALL
abbrev cX1_key : ByteArray := prog_3_method_15_code
def yX1_key : MethodName := ⟨RX1, "key", "(I)J"⟩
def wsX1_key : List Cond := .code yX1_key cX1_key 2 (some .long) :: ALL
abbrev cX1_value : ByteArray := prog_3_method_16_code
def yX1_value : MethodName := ⟨RX1, "value", "(I)J"⟩
def wsX1_value : List Cond := .code yX1_value cX1_value 2 (some .long) :: ALL
abbrev cX1_count : ByteArray := prog_3_method_17_code
def yX1_count : MethodName := ⟨RX1, "count", "(JJ)I"⟩
def wsX1_count : List Cond := .code yX1_count cX1_count 7 (some .int) :: ALL
abbrev cX1_sum : ByteArray := prog_3_method_18_code
def yX1_sum : MethodName := ⟨RX1, "sum", "(JJ)J"⟩
def wsX1_sum : List Cond := .code yX1_sum cX1_sum 8 (some .long) :: ALL
abbrev cL_law : ByteArray := code
def yL_law : MethodName := ⟨RL, "law", "([I)Z"⟩
end
section
/-! pure: the place of a key, gaps, counts; no machine here -/
def rkF (K : Nat → Int64) (key : Int64) : Nat → Nat → Nat
  | 0, i => i
  | f + 1, i => if K i < key then rkF K key f (i + 1) else i
/-- how many of the first n keys stand below key, counted from the left until one does not -/
def rk (K : Nat → Int64) (key : Int64) (n : Nat) : Nat := rkF K key n 0
theorem rkF_le (K : Nat → Int64) (key : Int64) : ∀ f i : Nat, rkF K key f i ≤ i + f := by
  intro f
  induction f with
  | zero => intro i; exact Nat.le_refl _
  | succ f ih =>
    intro i
    unfold rkF
    split
    · have := ih (i + 1); omega
    · omega
theorem rkF_lo (K : Nat → Int64) (key : Int64) : ∀ f i j : Nat, i ≤ j → j < rkF K key f i → K j < key := by
  intro f
  induction f with
  | zero =>
    intro i j h1 h2
    have h2 : j < i := h2
    omega
  | succ f ih =>
    intro i j h1 h2
    unfold rkF at h2
    split at h2
    · rename_i hlt
      by_cases e : j = i
      · rw [e]; exact hlt
      · exact ih (i + 1) j (by omega) h2
    · omega
theorem rkF_hi (K : Nat → Int64) (key : Int64) : ∀ f i : Nat, rkF K key f i < i + f → ¬ K (rkF K key f i) < key := by
  intro f
  induction f with
  | zero =>
    intro i h
    have h : i < i + 0 := h
    omega
  | succ f ih =>
    intro i h
    unfold rkF at h ⊢
    split
    · rename_i hlt
      rw [if_pos hlt] at h
      exact ih (i + 1) (by omega)
    · assumption
theorem rk_le (K : Nat → Int64) (key : Int64) (n : Nat) : rk K key n ≤ n := by
  have := rkF_le K key n 0
  unfold rk
  omega
theorem rkF_s {K : Nat → Int64} {key : Int64} {n i : Nat} (h : i < n) (hk : K i < key) : rkF K key (n - i) i = rkF K key (n - (i + 1)) (i + 1) := by
  have e : n - i = (n - (i + 1)) + 1 := by omega
  rw [e]
  show (if K i < key then _ else _) = _
  rw [if_pos hk]
theorem rkF_e {K : Nat → Int64} {key : Int64} {n i : Nat} (h : i < n) (hk : ¬ K i < key) : rkF K key (n - i) i = i := by
  have e : n - i = (n - (i + 1)) + 1 := by omega
  rw [e]
  show (if K i < key then _ else _) = _
  rw [if_neg hk]
theorem rkF_z {K : Nat → Int64} {key : Int64} {n i : Nat} (h : n ≤ i) : rkF K key (n - i) i = i := by
  have e : n - i = 0 := by omega
  rw [e]
  rfl
/-- the cells from r on go up by one, d of them, the last first -/
def opF (r : Nat) : Nat → (Nat → Int64) → (Nat → Int64)
  | 0, K => K
  | d + 1, K => opF r d (vp_updL K (r + d + 1) (K (r + d)))
theorem opF_eq (r : Nat) : ∀ (d : Nat) (K : Nat → Int64) (j : Nat), opF r d K j = if r < j ∧ j ≤ r + d then K (j - 1) else K j := by
  intro d
  induction d with
  | zero =>
    intro K j
    rw [if_neg (by omega)]
    rfl
  | succ d ih =>
    intro K j
    show opF r d _ j = _
    rw [ih]
    by_cases h1 : r < j ∧ j ≤ r + d
    · rw [if_pos h1, if_pos (by omega)]
      unfold vp_updL
      rw [if_neg (by omega)]
    · rw [if_neg h1]
      unfold vp_updL
      by_cases h2 : j = r + d + 1
      · rw [if_pos h2, if_pos (by omega)]
        congr 1
        omega
      · rw [if_neg h2, if_neg (by omega)]
/-- the cells from i on take their right neighbours' values, f of them, the first first -/
def clF : Nat → Nat → (Nat → Int64) → (Nat → Int64)
  | 0, _, K => K
  | f + 1, i, K => clF f (i + 1) (vp_updL K i (K (i + 1)))
theorem clF_eq : ∀ (f i : Nat) (K : Nat → Int64) (j : Nat), clF f i K j = if i ≤ j ∧ j < i + f then K (j + 1) else K j := by
  intro f
  induction f with
  | zero =>
    intro i K j
    rw [if_neg (by omega)]
    rfl
  | succ f ih =>
    intro i K j
    show clF f (i + 1) _ j = _
    rw [ih]
    by_cases h1 : i + 1 ≤ j ∧ j < i + 1 + f
    · rw [if_pos h1, if_pos (by omega)]
      unfold vp_updL
      rw [if_neg (by omega)]
    · rw [if_neg h1]
      unfold vp_updL
      by_cases h2 : j = i
      · rw [if_pos h2, if_pos (by omega), h2]
      · rw [if_neg h2, if_neg (by omega)]
/-- the first n keys do not fall -/
def mono (K : Nat → Int64) (n : Nat) : Prop := ∀ i j : Nat, i ≤ j → j < n → K i ≤ K j
theorem mono_0 (K : Nat → Int64) : mono K 0 := fun _ _ _ h => absurd h (Nat.not_lt_zero _)
theorem i64_le {x y : Int64} (h : x < y) : x ≤ y := by
  rw [Int64.lt_iff_toInt_lt] at h
  rw [Int64.le_iff_toInt_le]
  omega
theorem i64_nlt {x y : Int64} (h : ¬ x < y) : y ≤ x := by
  rw [Int64.lt_iff_toInt_lt] at h
  rw [Int64.le_iff_toInt_le]
  omega
theorem i64_nle {x y : Int64} (h : ¬ x ≤ y) : y < x := by
  rw [Int64.le_iff_toInt_le] at h
  rw [Int64.lt_iff_toInt_lt]
  omega
theorem i64_ltle {x y z : Int64} (h : x < y) (h2 : y ≤ z) : x < z := by
  rw [Int64.lt_iff_toInt_lt] at h ⊢
  rw [Int64.le_iff_toInt_le] at h2
  omega
theorem i64_nltle {x y : Int64} (h : x < y) : ¬ y ≤ x := by
  rw [Int64.lt_iff_toInt_lt] at h
  rw [Int64.le_iff_toInt_le]
  omega
theorem i64_rf (x : Int64) : x ≤ x := by
  rw [Int64.le_iff_toInt_le]
  omega
theorem i64_tr {x y z : Int64} (h : x ≤ y) (h2 : y ≤ z) : x ≤ z := by
  rw [Int64.le_iff_toInt_le] at h h2 ⊢
  omega
theorem mono_put {K : Nat → Int64} {n : Nat} (key : Int64) (h : mono K n) : mono (vp_updL (opF (rk K key n) (n - rk K key n) K) (rk K key n) key) (n + 1) := by
  have hr := rk_le K key n
  have lo : ∀ j, j < rk K key n → K j < key := fun j hj => rkF_lo K key n 0 j (Nat.zero_le _) hj
  have hi : rk K key n < n → key ≤ K (rk K key n) := fun hj => i64_nlt (rkF_hi K key n 0 (by show rk K key n < _; omega))
  generalize rk K key n = r at hr lo hi ⊢
  have val : ∀ j, j < n + 1 → vp_updL (opF r (n - r) K) r key j = if j < r then K j else if j = r then key else K (j - 1) := by
    intro j hj
    unfold vp_updL
    rw [opF_eq]
    by_cases e1 : j = r
    · rw [if_pos e1, if_neg (by omega), if_pos e1]
    · rw [if_neg e1]
      by_cases e2 : j < r
      · rw [if_neg (by omega), if_pos e2]
      · rw [if_pos (by omega), if_neg e2, if_neg e1]
  intro i j hij hj
  rw [val i (by omega), val j hj]
  by_cases i1 : i < r
  · rw [if_pos i1]
    by_cases j1 : j < r
    · rw [if_pos j1]; exact h i j hij (by omega)
    · rw [if_neg j1]
      by_cases j2 : j = r
      · rw [if_pos j2]; exact i64_le (lo i i1)
      · rw [if_neg j2]; exact h i (j - 1) (by omega) (by omega)
  · rw [if_neg i1, if_neg (show ¬ j < r by omega)]
    by_cases i2 : i = r
    · rw [if_pos i2]
      by_cases j2 : j = r
      · rw [if_pos j2]; exact i64_rf _
      · rw [if_neg j2]; exact i64_tr (hi (by omega)) (h r (j - 1) (by omega) (by omega))
    · rw [if_neg i2, if_neg (show ¬ j = r by omega)]
      exact h (i - 1) (j - 1) (by omega) (by omega)
theorem mono_take {K : Nat → Int64} {n : Nat} (r : Nat) (h : mono K n) : mono (clF (n - 1 - r) r K) (n - 1) := by
  intro i j hij hj
  rw [clF_eq, clF_eq]
  by_cases i1 : r ≤ i ∧ i < r + (n - 1 - r)
  · rw [if_pos i1, if_pos (show r ≤ j ∧ j < r + (n - 1 - r) by omega)]
    exact h (i + 1) (j + 1) (by omega) (by omega)
  · rw [if_neg i1]
    by_cases j1 : r ≤ j ∧ j < r + (n - 1 - r)
    · rw [if_pos j1]; exact h i (j + 1) (by omega) (by omega)
    · rw [if_neg j1]; exact h i j hij (by omega)
/-- counting from i on while the key is not above to_ -/
def cC {α : Type} (add : α → α → α) (w : Nat → α) (K : Nat → Int64) (to_ : Int64) : Nat → Nat → α → α
  | 0, _, acc => acc
  | f + 1, i, acc => if K i ≤ to_ then cC add w K to_ f (i + 1) (add acc (w i)) else acc
/-- counting every key between fr and to_ -/
def cM {α : Type} (add : α → α → α) (z : α) (w : Nat → α) (K : Nat → Int64) (fr to_ : Int64) : Nat → Nat → α → α
  | 0, _, acc => acc
  | f + 1, i, acc => cM add z w K fr to_ f (i + 1) (add acc (if fr ≤ K i ∧ K i ≤ to_ then w i else z))
section
variable {α : Type} {add : α → α → α} {z : α} {w : Nat → α} {K : Nat → Int64} {fr to_ : Int64}
theorem cM_none (hz : ∀ x, add x z = x) : ∀ (f i : Nat) (acc : α), (∀ j, i ≤ j → j < i + f → ¬ (fr ≤ K j ∧ K j ≤ to_)) → cM add z w K fr to_ f i acc = acc := by
  intro f
  induction f with
  | zero => intro i acc _; rfl
  | succ f ih =>
    intro i acc h
    show cM add z w K fr to_ f (i + 1) _ = acc
    rw [if_neg (h i (Nat.le_refl _) (by omega)), hz]
    exact ih (i + 1) acc (fun j h1 h2 => h j (by omega) (by omega))
theorem cM_cC (hz : ∀ x, add x z = x) : ∀ (f i : Nat) (acc : α), mono K (i + f) → (∀ j, i ≤ j → j < i + f → fr ≤ K j) → cM add z w K fr to_ f i acc = cC add w K to_ f i acc := by
  intro f
  induction f with
  | zero => intro i acc _ _; rfl
  | succ f ih =>
    intro i acc hm h
    show cM add z w K fr to_ f (i + 1) _ = if K i ≤ to_ then _ else _
    by_cases hk : K i ≤ to_
    · rw [if_pos hk, if_pos ⟨h i (Nat.le_refl _) (by omega), hk⟩]
      exact ih (i + 1) _ (by rw [show i + 1 + f = i + (f + 1) by omega]; exact hm) (fun j h1 h2 => h j (by omega) (by omega))
    · rw [if_neg hk, if_neg (fun q => hk q.2), hz]
      refine cM_none hz f (i + 1) acc (fun j h1 h2 q => ?_)
      exact hk (i64_tr (hm i j (by omega) (by omega)) q.2)
theorem cM_skip (hz : ∀ x, add x z = x) : ∀ (f i g : Nat) (acc : α), (∀ j, i ≤ j → j < i + f → K j < fr) → cM add z w K fr to_ (f + g) i acc = cM add z w K fr to_ g (i + f) acc := by
  intro f
  induction f with
  | zero => intro i g acc _; rw [Nat.zero_add, Nat.add_zero]
  | succ f ih =>
    intro i g acc h
    rw [show f + 1 + g = (f + g) + 1 by omega]
    show cM add z w K fr to_ (f + g) (i + 1) _ = _
    rw [if_neg (fun q => i64_nltle (h i (Nat.le_refl _) (by omega)) q.1), hz, ih (i + 1) g acc (fun j h1 h2 => h j (by omega) (by omega))]
    rw [show i + 1 + f = i + (f + 1) by omega]
theorem cM_is (hz : ∀ x, add x z = x) {n : Nat} (hm : mono K n) (acc : α) : cM add z w K fr to_ n 0 acc = cC add w K to_ (n - rk K fr n) (rk K fr n) acc := by
  have hr := rk_le K fr n
  have lo : ∀ j, j < rk K fr n → K j < fr := fun j hj => rkF_lo K fr n 0 j (Nat.zero_le _) hj
  have hi : rk K fr n < n → fr ≤ K (rk K fr n) := fun hj => i64_nlt (rkF_hi K fr n 0 (by show rk K fr n < _; omega))
  generalize rk K fr n = r at hr lo hi ⊢
  have e := cM_skip (w := w) (to_ := to_) hz r 0 (n - r) acc (fun j _ h2 => lo j (by omega))
  rw [show r + (n - r) = n by omega, Nat.zero_add] at e
  rw [e]
  refine cM_cC hz (n - r) r acc (by rw [show r + (n - r) = n by omega]; exact hm) (fun j h1 h2 => ?_)
  exact i64_tr (hi (by omega)) (hm r j h1 (by omega))
end
/-- the answers' words -/
abbrev okS (x : Int32) : Prop := ¬ x < 0 ∧ x < 8
abbrev okN (x : Int32) : Prop := ¬ x < 0 ∧ x ≤ 20
abbrev okK (x : Int32) : Prop := ¬ x < 0 ∧ x ≤ 3
theorem okS_of {x : Int32} (h : okS x) : ∃ j : Nat, j < 8 ∧ x = nI j := by
  rcases pk_ix x (n := 8) (by decide) with h1 | h1 | h1
  · exact absurd h1 h.1
  · have h2 := h.2
    rw [Int32.lt_iff_toInt_lt] at h2
    rw [Int32.le_iff_toInt_le] at h1
    have e : (nI 8).toInt = 8 := by decide
    have e2 : (8 : Int32).toInt = 8 := by decide
    omega
  · exact h1
theorem okS_n {j : Nat} (h : j < 8) : okS (nI j) := ⟨nI_pos (by omega), nI_lt h (by decide)⟩
theorem okS_7 {x : Int32} (h : ¬ x < 0) (h2 : ¬ 7 < x) : okS x := by
  refine ⟨h, ?_⟩
  rw [Int32.lt_iff_toInt_lt] at h2 ⊢
  have e : (8 : Int32).toInt = 8 := by decide
  have e2 : (7 : Int32).toInt = 7 := by decide
  omega
theorem okS_7n {x : Int32} (h : 7 < x) : ¬ okS x := by
  intro q
  have q2 := q.2
  rw [Int32.lt_iff_toInt_lt] at h q2
  have e : (8 : Int32).toInt = 8 := by decide
  have e2 : (7 : Int32).toInt = 7 := by decide
  omega
/-- a slot's kind -/
def kOk (x : Int32) : Prop := x = -1 ∨ x = 0 ∨ x = 1 ∨ x = 2 ∨ x = 3
theorem okK_of {x : Int32} (h : okK x) : x = 0 ∨ x = 1 ∨ x = 2 ∨ x = 3 := by
  obtain ⟨h1, h2⟩ := h
  rw [Int32.lt_iff_toInt_lt] at h1
  rw [Int32.le_iff_toInt_le] at h2
  have e : (0 : Int32).toInt = 0 := by decide
  have e1 : (1 : Int32).toInt = 1 := by decide
  have e2 : (2 : Int32).toInt = 2 := by decide
  have e3 : (3 : Int32).toInt = 3 := by decide
  have hx : x.toInt = 0 ∨ x.toInt = 1 ∨ x.toInt = 2 ∨ x.toInt = 3 := by omega
  rcases hx with hx | hx | hx | hx
  · exact Or.inl (Int32.toInt_inj.mp (by omega))
  · exact Or.inr (Or.inl (Int32.toInt_inj.mp (by omega)))
  · exact Or.inr (Or.inr (Or.inl (Int32.toInt_inj.mp (by omega))))
  · exact Or.inr (Or.inr (Or.inr (Int32.toInt_inj.mp (by omega))))
theorem kOk_pos {x : Int32} (h : kOk x) : 0 < x + 1 ↔ ¬ x = -1 := by
  rcases h with h | h | h | h | h <;> subst h <;> decide
theorem kOk_nz {x : Int32} (h : kOk x) : x + 1 = 0 ↔ x = -1 := by
  rcases h with h | h | h | h | h <;> subst h <;> decide
theorem kOk_m {x : Int32} : x + 1 - 1 = x := by
  first
    | exact Int32.add_sub_cancel x 1
    | (apply Int32.toBitVec_inj.mp; simp)
theorem upd_1 (kd : Nat → Int32) (i : Nat) (x : Int32) : upd (fun j => kd j + 1) i (x + 1) = fun j => upd kd i x j + 1 := by
  funext j
  unfold upd
  by_cases h : j = i
  · simp [h]
  · simp [h]
theorem upd_0 (kd : Nat → Int32) (i : Nat) : upd (fun j => kd j + 1) i 0 = fun j => upd kd i (-1) j + 1 := by
  have h := upd_1 kd i (-1)
  rw [show (-1 : Int32) + 1 = 0 by decide] at h
  exact h
theorem upd_same {kd : Nat → Int32} {i : Nat} {x : Int32} (h : kd i = x) : upd kd i x = kd := by
  funext j
  unfold upd
  by_cases e : j = i
  · rw [if_pos e, e, h]
  · rw [if_neg e]
theorem upd_ok {kd : Nat → Int32} {i : Nat} {x : Int32} (h : ∀ j, j < 8 → kOk (kd j)) (hx : kOk x) : ∀ j, j < 8 → kOk (upd kd i x j) := by
  intro j hj
  unfold upd
  by_cases e : j = i
  · rw [if_pos e]; exact hx
  · rw [if_neg e]; exact h j hj
def crF : Nat → Nat → (Nat → Int32) → Int32 → (Nat → Int32) × Int32
  | 0, _, kd, acc => (kd, acc)
  | f + 1, i, kd, acc => crF f (i + 1) (upd kd i (-1)) (if kd i = -1 then acc else acc + 1)
theorem crF_ok : ∀ (f i : Nat) (kd : Nat → Int32) (acc : Int32), (∀ j, j < 8 → kOk (kd j)) → ∀ j, j < 8 → kOk ((crF f i kd acc).1 j) := by
  intro f
  induction f with
  | zero => intro i kd acc h; exact h
  | succ f ih => intro i kd acc h; exact ih (i + 1) _ _ (upd_ok h (Or.inl rfl))
/-! what each call answers, over a state (n, K, V, kd, SK, SV): n keys K with values V, the slots' kinds kd (-1: empty), keys SK, values SV -/
abbrev ix (x : Int32) : Nat := x.toNatClampNeg
theorem ix_n {j : Nat} (h : j < 8) : ix (nI j) = j := nI_clamp (by omega)
def tcE (cd : Int32) (E : String) : Prop := (E = "java/lang/IllegalArgumentException" ∧ cd = 1) ∨ (E = "java/lang/IllegalStateException" ∧ cd = 2) ∨ (E = "java/util/NoSuchElementException" ∧ cd = 3)
def tcI (cd : Int32) (E : String) : Prop := E = "java/lang/IndexOutOfBoundsException" ∧ cd = 1
def cdB (slot kind : Int32) (kd : Nat → Int32) : Int32 := if okS slot ∧ okK kind then (if kd (ix slot) = -1 then 0 else 2) else 1
def kdB (slot kind : Int32) (kd : Nat → Int32) : Nat → Int32 := if cdB slot kind kd = 0 then upd kd (ix slot) kind else kd
def svB (slot kind : Int32) (kd : Nat → Int32) (key : Int64) (SK : Nat → Int64) : Nat → Int64 := if cdB slot kind kd = 0 then vp_updL SK (ix slot) key else SK
def cdT (slot x : Int32) (kd : Nat → Int32) : Int32 := if okS slot ∧ okN x then (if kd (ix slot) = -1 then 2 else 0) else 1
def cdD (slot : Int32) : Int32 := if okS slot then 0 else 1
def kdD (slot : Int32) (kd : Nat → Int32) : Nat → Int32 := if okS slot then upd kd (ix slot) (-1) else kd
def cdY (x : Int32) : Int32 := if okN x then 0 else 1
abbrev okP (x : Int32) (n : Nat) : Prop := ¬ x < 0 ∧ x < nI n
def cdP (x : Int32) (n : Nat) : Int32 := if okP x n then 0 else 1
theorem okP_of {x : Int32} {n : Nat} (hn : n < 2 ^ 31) (h : okP x n) : ∃ j : Nat, j < n ∧ x = nI j := by
  obtain ⟨j, hj, rfl⟩ := nI_of h.1
  exact ⟨j, (nI_ltI hj hn).mp h.2, rfl⟩
/-- the key k stands at place r -/
abbrev atR (K : Nat → Int64) (n : Nat) (key : Int64) (r : Nat) : Prop := r < n ∧ K r = key
/-- finish: its code, its answer, and the state behind it -/
def fin (n : Nat) (K V : Nat → Int64) (kd : Nat → Int32) (SK SV : Nat → Int64) (slot : Int32) : Int32 × Int64 × Nat × (Nat → Int64) × (Nat → Int64) × (Nat → Int32) :=
  if okS slot then
    if kd (ix slot) = -1 then (2, 0, n, K, V, kd) else
    if kd (ix slot) = 1 then
      if atR K n (SK (ix slot)) (rk K (SK (ix slot)) n) then (0, 1, n, K, vp_updL V (rk K (SK (ix slot)) n) (SV (ix slot)), upd kd (ix slot) (-1))
      else if 100 ≤ n then (2, 0, n, K, V, kd)
      else (0, 0, n + 1, vp_updL (opF (rk K (SK (ix slot)) n) (n - rk K (SK (ix slot)) n) K) (rk K (SK (ix slot)) n) (SK (ix slot)), vp_updL (opF (rk K (SK (ix slot)) n) (n - rk K (SK (ix slot)) n) V) (rk K (SK (ix slot)) n) (SV (ix slot)), upd kd (ix slot) (-1))
    else if kd (ix slot) = 3 then
      if rk K (SK (ix slot)) n < n then (0, K (rk K (SK (ix slot)) n), n, K, V, upd kd (ix slot) (-1)) else (3, 0, n, K, V, upd kd (ix slot) (-1))
    else if atR K n (SK (ix slot)) (rk K (SK (ix slot)) n) then
      if kd (ix slot) = 2 then (0, V (rk K (SK (ix slot)) n), n - 1, clF (n - 1 - rk K (SK (ix slot)) n) (rk K (SK (ix slot)) n) K, clF (n - 1 - rk K (SK (ix slot)) n) (rk K (SK (ix slot)) n) V, upd kd (ix slot) (-1))
      else (0, V (rk K (SK (ix slot)) n), n, K, V, upd kd (ix slot) (-1))
    else (3, 0, n, K, V, upd kd (ix slot) (-1))
  else (1, 0, n, K, V, kd)
/-- what holds of every state that is come by -/
def inv (n : Nat) (K : Nat → Int64) (kd : Nat → Int32) : Prop := n ≤ 100 ∧ mono K n ∧ ∀ j, j < 8 → kOk (kd j)
theorem inv_B {n : Nat} {K : Nat → Int64} {kd : Nat → Int32} (slot kind : Int32) (h : inv n K kd) : inv n K (kdB slot kind kd) := by
  refine ⟨h.1, h.2.1, ?_⟩
  unfold kdB
  by_cases e : cdB slot kind kd = 0
  · rw [if_pos e]
    have hk : okS slot ∧ okK kind := by
      unfold cdB at e
      by_cases q : okS slot ∧ okK kind
      · exact q
      · rw [if_neg q] at e; exact absurd e (by decide)
    exact upd_ok h.2.2 (Or.inr (okK_of hk.2))
  · rw [if_neg e]; exact h.2.2
theorem inv_D {n : Nat} {K : Nat → Int64} {kd : Nat → Int32} (slot : Int32) (h : inv n K kd) : inv n K (kdD slot kd) := by
  refine ⟨h.1, h.2.1, ?_⟩
  unfold kdD
  by_cases e : okS slot
  · rw [if_pos e]; exact upd_ok h.2.2 (Or.inl rfl)
  · rw [if_neg e]; exact h.2.2
theorem inv_F {n : Nat} {K V : Nat → Int64} {kd : Nat → Int32} {SK SV : Nat → Int64} (slot : Int32) (h : inv n K kd) : inv (fin n K V kd SK SV slot).2.2.1 (fin n K V kd SK SV slot).2.2.2.1 (fin n K V kd SK SV slot).2.2.2.2.2 := by
  have hk : ∀ j, j < 8 → kOk (upd kd (ix slot) (-1) j) := upd_ok h.2.2 (Or.inl rfl)
  unfold fin
  by_cases h1 : okS slot
  · rw [if_pos h1]
    by_cases h2 : kd (ix slot) = -1
    · rw [if_pos h2]; exact h
    · rw [if_neg h2]
      by_cases h3 : kd (ix slot) = 1
      · rw [if_pos h3]
        by_cases h4 : atR K n (SK (ix slot)) (rk K (SK (ix slot)) n)
        · rw [if_pos h4]; exact ⟨h.1, h.2.1, hk⟩
        · rw [if_neg h4]
          by_cases h5 : 100 ≤ n
          · rw [if_pos h5]; exact h
          · rw [if_neg h5]; exact ⟨by show n + 1 ≤ 100; omega, mono_put _ h.2.1, hk⟩
      · rw [if_neg h3]
        by_cases h4 : kd (ix slot) = 3
        · rw [if_pos h4]
          by_cases h5 : rk K (SK (ix slot)) n < n
          · rw [if_pos h5]; exact ⟨h.1, h.2.1, hk⟩
          · rw [if_neg h5]; exact ⟨h.1, h.2.1, hk⟩
        · rw [if_neg h4]
          by_cases h5 : atR K n (SK (ix slot)) (rk K (SK (ix slot)) n)
          · rw [if_pos h5]
            by_cases h6 : kd (ix slot) = 2
            · rw [if_pos h6]
              have h0 := h.1
              exact ⟨by show n - 1 ≤ 100; omega, mono_take _ h.2.1, hk⟩
            · rw [if_neg h6]; exact ⟨h.1, h.2.1, hk⟩
          · rw [if_neg h5]; exact ⟨h.1, h.2.1, hk⟩
  · rw [if_neg h1]; exact h
def cntS (K : Nat → Int64) (n : Nat) (fr to_ : Int64) : Int32 := cC (fun x y : Int32 => x + y) (fun _ => 1) K to_ (n - rk K fr n) (rk K fr n) 0
def sumS (K V : Nat → Int64) (n : Nat) (fr to_ : Int64) : Int64 := cC (fun x y : Int64 => x + y) V K to_ (n - rk K fr n) (rk K fr n) 0
theorem cdB_1 {slot kind : Int32} {kd : Nat → Int32} (h : ¬ (okS slot ∧ okK kind)) : cdB slot kind kd = 1 := by
  unfold cdB
  rw [if_neg h]
theorem cdB_2 {slot kind : Int32} {kd : Nat → Int32} (h : okS slot ∧ okK kind) (h2 : ¬ kd (ix slot) = -1) : cdB slot kind kd = 2 := by
  unfold cdB
  rw [if_pos h, if_neg h2]
theorem cdB_0 {slot kind : Int32} {kd : Nat → Int32} (h : okS slot ∧ okK kind) (h2 : kd (ix slot) = -1) : cdB slot kind kd = 0 := by
  unfold cdB
  rw [if_pos h, if_pos h2]
theorem cdT_1 {slot x : Int32} {kd : Nat → Int32} (h : ¬ (okS slot ∧ okN x)) : cdT slot x kd = 1 := by
  unfold cdT
  rw [if_neg h]
theorem cdT_2 {slot x : Int32} {kd : Nat → Int32} (h : okS slot ∧ okN x) (h2 : kd (ix slot) = -1) : cdT slot x kd = 2 := by
  unfold cdT
  rw [if_pos h, if_pos h2]
theorem cdT_0 {slot x : Int32} {kd : Nat → Int32} (h : okS slot ∧ okN x) (h2 : ¬ kd (ix slot) = -1) : cdT slot x kd = 0 := by
  unfold cdT
  rw [if_pos h, if_neg h2]
theorem tcE_1 {cd : Int32} (h : cd = 1) : tcE cd "java/lang/IllegalArgumentException" := Or.inl ⟨rfl, h⟩
theorem tcE_2 {cd : Int32} (h : cd = 2) : tcE cd "java/lang/IllegalStateException" := Or.inr (Or.inl ⟨rfl, h⟩)
theorem tcE_3 {cd : Int32} (h : cd = 3) : tcE cd "java/util/NoSuchElementException" := Or.inr (Or.inr ⟨rfl, h⟩)
/-- a key and its value put at place r -/
def fpN (n : Nat) (K : Nat → Int64) (key : Int64) (r : Nat) : Nat := if atR K n key r then n else n + 1
def fpK (n : Nat) (K : Nat → Int64) (key : Int64) (r : Nat) : Nat → Int64 := if atR K n key r then K else vp_updL (opF r (n - r) K) r key
def fpV (n : Nat) (K V : Nat → Int64) (key val : Int64) (r : Nat) : Nat → Int64 := vp_updL (if atR K n key r then V else opF r (n - r) V) r val
theorem cdB_n3 (slot kind : Int32) (kd : Nat → Int32) : ¬ cdB slot kind kd = 3 := by
  unfold cdB
  by_cases h : okS slot ∧ okK kind
  · rw [if_pos h]
    by_cases h2 : kd (ix slot) = -1
    · rw [if_pos h2]; decide
    · rw [if_neg h2]; decide
  · rw [if_neg h]; decide
theorem cdT_n3 (slot x : Int32) (kd : Nat → Int32) : ¬ cdT slot x kd = 3 := by
  unfold cdT
  by_cases h : okS slot ∧ okN x
  · rw [if_pos h]
    by_cases h2 : kd (ix slot) = -1
    · rw [if_pos h2]; decide
    · rw [if_neg h2]; decide
  · rw [if_neg h]; decide
/-- what the law's own cell holds behind a call with this code and answer -/
def oS (cd : Int32) (v : Int64) (o : Nat → Int64) : Nat → Int64 := if cd = 0 then vp_updL o 0 v else o
theorem oS_0 {cd : Int32} {v : Int64} {o : Nat → Int64} (h : cd = 0) : oS cd v o = vp_updL o 0 v := if_pos h
theorem oS_n {cd : Int32} {v : Int64} {o : Nat → Int64} (h : ¬ cd = 0) : oS cd v o = o := if_neg h
theorem oS_at {cd : Int32} {v : Int64} {o : Nat → Int64} (h : cd = 0) : oS cd v o 0 = v := by rw [oS_0 h]; rfl
theorem cdD_0 {slot : Int32} (h : cdD slot = 0) : okS slot := by
  unfold cdD at h
  by_cases q : okS slot
  · exact q
  · rw [if_neg q] at h; exact absurd h (by decide)
theorem cdP_0 {x : Int32} {n : Nat} (h : cdP x n = 0) : okP x n := by
  unfold cdP at h
  by_cases q : okP x n
  · exact q
  · rw [if_neg q] at h; exact absurd h (by decide)
/-- a long out of two ints of the script: the high word, the low word -/
def lwL (x y : Int32) : Int64 := (x.toInt64 <<< ((32 : Int32).toInt64 &&& 63)) ||| (y.toInt64 &&& 4294967295)
end
section
def zT : List (Nat × String) := [(36, "no such kind"), (43, "the slot is not empty"), (66, "no such key"), (75, "no such slot"), (77, "n is not 0 .. 20"), (79, "the slot is empty"), (84, "there are 100 keys")]
/-! the worlds of this claim -/
/-- the class's object at a 0 and its arrays: n keys K with values V; the slots' kinds kd, keys SK, values SV -/
def wX (a : Nat → Nat) (k : Nat → ClassId) (n : Nat) (K V : Nat → Int64) (kd : Nat → Int32) (SK SV : Nat → Int64) : va_W :=
  [(a 0, .inr (0, [.ref (a 1), .ref (a 2), .int (nI n), .ref (a 3), .ref (a 4), .ref (a 5)])), (a 1, .inl (k 1, 100, .inr (.inl K))), (a 2, .inl (k 2, 100, .inr (.inl V))), (a 3, .inl (k 3, 8, .inl kd)), (a 4, .inl (k 4, 8, .inr (.inl SK))), (a 5, .inl (k 5, 8, .inr (.inl SV)))]
def tX (k : Nat → ClassId) : List (ClassId × FieldType) := [(k 1, .long), (k 2, .long), (k 3, .int), (k 4, .long), (k 5, .long)]
/-- the reference's object at b 0 and its arrays; kd is its own array of kinds -/
def wM (b : Nat → Nat) (g : Nat → ClassId) (cd : Int32) (n : Nat) (K V : Nat → Int64) (kd : Nat → Int32) (SK SV : Nat → Int64) : va_W :=
  [(b 0, .inr (1, [.int cd, .int (nI n), .ref (b 1), .ref (b 2), .ref (b 3), .ref (b 4), .ref (b 5)])), (b 1, .inl (g 1, 100, .inr (.inl K))), (b 2, .inl (g 2, 100, .inr (.inl V))), (b 3, .inl (g 3, 8, .inl kd)), (b 4, .inl (g 4, 8, .inr (.inl SK))), (b 5, .inl (g 5, 8, .inr (.inl SV)))]
def tM (g : Nat → ClassId) : List (ClassId × FieldType) := [(g 1, .long), (g 2, .long), (g 3, .int), (g 4, .long), (g 5, .long)]
/-- the law's own array of one long -/
def wO (q : Nat) (z : ClassId) (o : Nat → Int64) : va_W := [(q, .inl (z, 1, .inr (.inl o)))]
def tO (z : ClassId) : List (ClassId × FieldType) := [(z, .long)]
theorem vP_kd {D : va_G} {cl : List vw_C} {ws : va_W} {H : Heap} {q0 a n : Nat} {cA : ClassId} {f g : Nat → Int32} (hP : va_P D cl ws H) (hq : ws[q0]? = some (a, .inl (cA, n, .inl f))) (h : ∀ j, j < n → f j = g j) : va_P D cl (ws.set q0 (a, .inl (cA, n, .inl g))) H := by
  have hl := (List.getElem?_eq_some_iff.mp hq).1
  intro k q hk
  by_cases hkp : k = q0
  · subst hkp
    rw [List.getElem?_set_self hl] at hk
    cases hk
    have h0 : H[a]? = some (vp_cell cA (n, .inl f)) := hP k _ hq
    show H[a]? = some (vp_cell cA (n, .inl g))
    rw [h0]
    congr 1
    rw [vp_cell_i, vp_cell_i]
    unfold arrV
    congr 2
    funext j
    show Value.int (f j.val) = Value.int (g j.val)
    rw [h j.val j.isLt]
  · rw [List.getElem?_set_ne (Ne.symm hkp)] at hk
    exact hP k q hk
/-! the rows of this proof's own over the kit: worlds with what a throw needs, calls, ends -/
def zE : List String := ["java/lang/IllegalArgumentException", "java/lang/IllegalStateException", "java/util/NoSuchElementException", "java/lang/IndexOutOfBoundsException"]
def zY : List String := ["java/lang/RuntimeException", "java/lang/Exception", "java/lang/Throwable"]
def zN : List (String × String) := [("java/lang/IllegalStateException", "java/lang/IllegalArgumentException"), ("java/util/NoSuchElementException", "java/lang/IllegalArgumentException"), ("java/util/NoSuchElementException", "java/lang/IllegalStateException")]
abbrev zNm : List String := ["java/lang/RuntimeException", "java/lang/Exception"]
/-- the texts and the words of a throw that the tables alone don't keep -/
def zs (U : State) : Prop := (∀ q ∈ zT, ∃ a, vk_R RX0 q.1 q.2 a U) ∧ (∀ E ∈ zE, va_Nw (.castable E E) U) ∧ (∀ Y ∈ zY, va_Nw (.declares ⟨Y, "<init>", "(Ljava/lang/String;)V"⟩) U) ∧ ∀ q ∈ zN, va_Nc q.1 q.2 U
theorem zs.warm {s U : State} (hW : s.WarmedH U.vm) (h : zs s) : zs U := by
  refine ⟨fun q hq => ?_, fun E hE => va_Nw.warmC hW (h.2.1 E hE), fun Y hY => va_Nw.warmD hW (h.2.2.1 Y hY), fun q hq => va_Nc.moved hW.alike (h.2.2.2 q hq)⟩
  obtain ⟨a, ha⟩ := h.1 q hq
  exact ⟨a, vk_R.warm hW ha⟩
theorem zs.same {s U : State} (hv : U.vm = s.vm) (h : zs s) : zs U := by
  have ha : s.vm.Alike U.vm := by rw [hv]; exact Vm.Alike.refl _
  refine ⟨fun q hq => ?_, fun E hE => va_Nw.same rfl hv.symm (h.2.1 E hE), fun Y hY => va_Nw.same rfl hv.symm (h.2.2.1 Y hY), fun q hq => va_Nc.moved ha (h.2.2.2 q hq)⟩
  obtain ⟨a, h9⟩ := h.1 q hq
  exact ⟨a, vk_R.same hv h9⟩
def zx (A : Nat → Prop) (U : State) (H : Heap) : Prop := vx_Zq Bundle.tN "UNASSIGNED_STACK" Bundle.steD A U H ∧ vx_Zq Bundle.tN "SUPPRESSED_SENTINEL" Bundle.listD A U H ∧ zs U
theorem zx.at {A B : Nat → Prop} {s U : State} {H0 H : Heap} (h : zx A s H0) (hq : ∀ a : Nat, a < H0.size → ¬ A a → H[a]? = H0[a]?) (hAB : ∀ q, B q → A q) (hW : s.WarmedH U.vm) : zx B U H :=
  ⟨vx_Zq.moved hW.alike ((h.1.kept hq).narrow hAB), vx_Zq.moved hW.alike ((h.2.1.kept hq).narrow hAB), zs.warm hW h.2.2⟩
theorem zx.same {A : Nat → Prop} {s U : State} {H : Heap} (hv : U.vm = s.vm) (h : zx A s H) : zx A U H := by
  have ha : s.vm.Alike U.vm := by rw [hv]; exact Vm.Alike.refl _
  exact ⟨vx_Zq.moved ha h.1, vx_Zq.moved ha h.2.1, zs.same hv h.2.2⟩
/-- a method's start: the world w, its array classes, what a throw needs -/
def cP (D : va_G) (tys : List (ClassId × FieldType)) (w : va_W) (av : List Value) (sz : Nat) : Array Value → State → Prop :=
  va_Pc av (fun U => U.heap.size = sz ∧ va_P D vwCl w U.heap ∧ va_K D vwCl tys U ∧ va_D (fun _ => True) w ∧ zx (va_A w sz) U U.heap)
theorem cP_blind {D : va_G} {tys : List (ClassId × FieldType)} {w : va_W} {av : List Value} {sz : Nat} : FrameBlind (cP D tys w av sz) := by
  intro a U g mk q
  obtain ⟨q0, q1, qP, qK, qD, qZ⟩ := q
  exact ⟨q0, q1, qP, va_K.moved (u := U) (U := U.calling g mk a) (Vm.Alike.refl U.vm) qK, qD, zx.same (s := U) (U := U.calling g mk a) rfl qZ⟩
def cB (D : va_G) (tys : List (ClassId × FieldType)) (A : Nat → Prop) (w : va_W) (t : State) : Prop := va_P D vwCl w t.heap ∧ va_K D vwCl tys t ∧ va_D A w
abbrev cQv (D : va_G) (tys : List (ClassId × FieldType)) (φ : Prop) (w : va_W) (A : Nat → Prop) : Array Value → State → Outcome → State → Prop := va_Qv (fun _ : Unit => φ) (fun _ t => cB D tys A w t) A
abbrev cQi (D : va_G) (tys : List (ClassId × FieldType)) (φ : Int32 → Prop) (w : va_W) (A : Nat → Prop) : Array Value → State → Outcome → State → Prop := va_Qi (fun (r : Int32) (_ : Unit) => φ r) (fun _ t => cB D tys A w t) A
abbrev cQl (D : va_G) (tys : List (ClassId × FieldType)) (φ : Int64 → Prop) (w : va_W) (A : Nat → Prop) : Array Value → State → Outcome → State → Prop := va_Ql (fun (r : Int64) (_ : Unit) => φ r) (fun _ t => cB D tys A w t) A
abbrev cX (D : va_G) (tys : List (ClassId × FieldType)) (ψ : String → Prop) (w : va_W) (A : Nat → Prop) : String → State → State → Prop := vx_X (fun _ : Unit => True) (fun E _ t => ψ E ∧ cB D tys A w t) A
theorem cSub {ws wc : va_W} {isC : List Nat} (hC : isC.map (fun i => ws[i]?) = wc.map some) : isC.filterMap (fun i => ws[i]?) = wc := by
  have h := congrArg (List.filterMap id) hC
  rw [List.filterMap_map, List.filterMap_map] at h
  have e1 : (id ∘ fun i : Nat => ws[i]?) = fun i : Nat => ws[i]? := rfl
  have e2 : (id ∘ some : Nat × va_E → Option (Nat × va_E)) = some := rfl
  rw [e1, e2, List.filterMap_some] at h
  exact h
section LXA
variable {p : Program} {l : Launch} {e : Env} {R : Room} {s : State} {m : MethodId} {args : Array Value} {below : List Frame} {meth : Method} {c : Code} {H : Heap} {locs : List Loc} {cells slots : Nat} {Q : State → Prop}
variable {cc : ByteArray} {pc : Nat} {ls : Array Slot} {rest st0 : List Value} {D : va_G} {A : Nat → Prop} {a : Nat} {tys tc : List (ClassId × FieldType)} {ws wc wr w1 w2 : va_W} {H0 : Heap} {mc ms : Nat}
theorem cPre {av : List Value} (hP : va_P D vwCl ws H) (hD : va_D A ws) (hK : va_K D vwCl tys s) (hS : va_S A s.heap H locs) (hA : ∀ q, s.heap.size ≤ q → A q) (hZ : zx A s s.heap) (isC : List Nat) (hC : isC.map (fun i => ws[i]?) = wc.map some) (hn : va_nd isC = true) (isT : List Nat) (hT : isT.filterMap (fun i => tys[i]?) = tc) :
    ∀ U : State, U.heap = H → s.WarmedH U.vm → cP D tc wc av H.size av.toArray U := by
  intro U hU hW
  have hF := va_free (wc := wc) hD hS hA isC hC
  refine ⟨rfl, by rw [hU], ?_, va_K.moved hW.alike (hK.sub isT hT), (hD.sub isC hn hC).weaken (fun _ _ _ _ => trivial), ?_⟩
  · rw [hU]; exact hP.sub isC (cSub hC)
  · rw [hU]; exact zx.at hZ hS.2.1 hF hW
/-- numbers on the stack by other names -/
theorem xi {x y : Int32} (h : x = y) (k : W p l e R s m args below meth c H locs cells slots Q (F0 m pc ls (.int y :: rest))) : W p l e R s m args below meth c H locs cells slots Q (F0 m pc ls (.int x :: rest)) := by rw [h]; exact k
theorem xl {x y : Int64} (h : x = y) (k : W p l e R s m args below meth c H locs cells slots Q (F0 m pc ls (.long y :: rest))) : W p l e R s m args below meth c H locs cells slots Q (F0 m pc ls (.long x :: rest)) := by rw [h]; exact k
theorem x_lald (hexec : p.tables.exec = Jvm.exec) (hb : c.code = cc) (hK : va_K D vwCl tys s) (hP : va_P D vwCl ws H) (q0 t0 : Nat) {cA : ClassId} {n : Nat} {f : Nat → Int64} (ha : ws[q0]? = some (a, .inl (cA, n, .inr (.inl f)))) (ht : tys[t0]? = some (cA, .long)) {j : Nat} (hj : j < n) (hn : n < 2 ^ 31) (hdg : decode cc pc = .ok (.laload, 1))
    (kk : W p l e R s m args below meth c H locs cells slots Q (F0 m (pc + 1) ls (.long (f j) :: rest))) : W p l e R s m args below meth c H locs cells slots Q (F0 m pc ls (.int (nI j) :: .ref a :: rest)) := by
  refine va_lald hexec hb hK hP q0 t0 ha ht (vp_in_nI hj hn) hdg ?_
  rw [nI_clamp (Nat.lt_trans hj hn)]
  exact kk
theorem x_iald (hexec : p.tables.exec = Jvm.exec) (hb : c.code = cc) (hK : va_K D vwCl tys s) (hP : va_P D vwCl ws H) (q0 t0 : Nat) {cA : ClassId} {n : Nat} {f : Nat → Int32} (ha : ws[q0]? = some (a, .inl (cA, n, .inl f))) (ht : tys[t0]? = some (cA, .int)) {j : Nat} (hj : j < n) (hn : n < 2 ^ 31) (hdg : decode cc pc = .ok (.iaload, 1))
    (kk : W p l e R s m args below meth c H locs cells slots Q (F0 m (pc + 1) ls (.int (f j) :: rest))) : W p l e R s m args below meth c H locs cells slots Q (F0 m pc ls (.int (nI j) :: .ref a :: rest)) := by
  refine va_iald hexec hb hK hP q0 t0 ha ht (vp_in_nI hj hn) hdg ?_
  rw [nI_clamp (Nat.lt_trans hj hn)]
  exact kk
theorem x_last (hexec : p.tables.exec = Jvm.exec) (hb : c.code = cc) (hK : va_K D vwCl tys s) (hP : va_P D vwCl ws H) (hD : va_D A ws) (hS : va_S A H0 H locs) (q0 t0 : Nat) {cA : ClassId} {n : Nat} {f : Nat → Int64} (ha : ws[q0]? = some (a, .inl (cA, n, .inr (.inl f)))) (ht : tys[t0]? = some (cA, .long)) {j : Nat} {x : Int64} (hj : j < n) (hn : n < 2 ^ 31) (hdg : decode cc pc = .ok (.lastore, 1))
    (kk : ∀ (H1 : Heap) (locs1 : List Loc), va_P D vwCl (ws.set q0 (a, .inl (cA, n, .inr (.inl (vp_updL f j x))))) H1 → va_D A (ws.set q0 (a, .inl (cA, n, .inr (.inl (vp_updL f j x))))) → va_S A H0 H1 locs1 → W p l e R s m args below meth c H1 locs1 cells slots Q (F0 m (pc + 1) ls rest)) : W p l e R s m args below meth c H locs cells slots Q (F0 m pc ls (.long x :: .int (nI j) :: .ref a :: rest)) := by
  refine va_last hexec hb hK hP hD hS q0 t0 ha ht (vp_in_nI hj hn) hdg ?_
  rw [nI_clamp (Nat.lt_trans hj hn)]
  exact kk
theorem x_iast (hexec : p.tables.exec = Jvm.exec) (hb : c.code = cc) (hK : va_K D vwCl tys s) (hP : va_P D vwCl ws H) (hD : va_D A ws) (hS : va_S A H0 H locs) (q0 t0 : Nat) {cA : ClassId} {n : Nat} {f : Nat → Int32} (ha : ws[q0]? = some (a, .inl (cA, n, .inl f))) (ht : tys[t0]? = some (cA, .int)) {j : Nat} {x : Int32} (hj : j < n) (hn : n < 2 ^ 31) (hdg : decode cc pc = .ok (.iastore, 1))
    (kk : ∀ (H1 : Heap) (locs1 : List Loc), va_P D vwCl (ws.set q0 (a, .inl (cA, n, .inl (upd f j x)))) H1 → va_D A (ws.set q0 (a, .inl (cA, n, .inl (upd f j x)))) → va_S A H0 H1 locs1 → W p l e R s m args below meth c H1 locs1 cells slots Q (F0 m (pc + 1) ls rest)) : W p l e R s m args below meth c H locs cells slots Q (F0 m pc ls (.int x :: .int (nI j) :: .ref a :: rest)) := by
  refine va_iast hexec hb hK hP hD hS q0 t0 ha ht (vp_in_nI hj hn) hdg ?_
  rw [nI_clamp (Nat.lt_trans hj hn)]
  exact kk
theorem x_sld (hexec : p.tables.exec = Jvm.exec) (hb : c.code = cc) {b L : Nat} {xs : Nat → Int32} (hX : va_X b L xs s H0) (hbl : b < H0.size) (hbA : ¬ A b) (hS : va_S A H0 H locs) {j : Nat} (hj : j < L) (hL : L < 2 ^ 31) (hdg : decode cc pc = .ok (.iaload, 1))
    (kk : W p l e R s m args below meth c H locs cells slots Q (F0 m (pc + 1) ls (.int (xs j) :: rest))) : W p l e R s m args below meth c H locs cells slots Q (F0 m pc ls (.int (nI j) :: .ref b :: rest)) := by
  refine va_sld hexec hb hX hbl hbA hS (vp_in_nI hj hL) hdg ?_
  rw [nI_clamp (Nat.lt_trans hj hL)]
  exact kk
theorem kx_i {φ : Int32 → Prop} {ψ : String → Prop} {av : Array Value} (hr : vx_Run p l e R s m args below meth c H locs cells slots mc ms (F0 m pc ls st0) rest (cQi D tc φ w1 (va_A wc H.size) av) (cX D tc ψ w2 (va_A wc H.size)) (va_A wc H.size))
    (hP : va_P D vwCl ws H) (hD : va_D A ws) (hS : va_S A s.heap H locs) (hA : ∀ q, s.heap.size ≤ q → A q) (isC isR : List Nat) (hC : isC.map (fun i => ws[i]?) = wc.map some) (hR : isR.map (fun i => ws[i]?) = wr.map some) (hn : va_nd isR = true) (hdis : ∀ i ∈ isR, i ∉ isC)
    (kx : ∀ (E : String) (ce : Cell) (q9 : Addr) (H1 : Heap) (locs1 : List Loc), ψ E → va_P D vwCl (wr ++ w2) H1 → va_D A (wr ++ w2) → va_S A s.heap H1 locs1 → H1[q9]? = some ce → ce.vm = .none → s.vm.findClass E = some ce.cls → vx_W p l e R s m args below meth c H1 locs1 (cells + mc) (slots + ms) Q (F0 m pc ls rest) q9)
    (kk : ∀ (r : Int32) (H1 : Heap) (locs1 : List Loc), φ r → va_P D vwCl (wr ++ w1) H1 → va_D A (wr ++ w1) → va_S A s.heap H1 locs1 → W p l e R s m args below meth c H1 locs1 (cells + mc) (slots + ms) Q (F0 m (pc + 3) ls (.int r :: rest))) : W p l e R s m args below meth c H locs cells slots Q (F0 m pc ls st0) := by
  have hF := va_free (wc := wc) hD hS hA isC hC
  refine vx_calli hr hS (fun q _ h => hF q h) hF (fun q _ h => hF q h) ?_ ?_
  · intro E ce q9 u t H1 locs1 ht hvm hp hB hz hk hS1 hce hcv hcl
    obtain ⟨h1, hP1, hK1, hD1⟩ := hB
    rw [ht] at hP1
    obtain ⟨j1, j2⟩ := va_join hP hD isC isR hC hR hn hdis hk hF hP1 hD1
    exact kx E ce q9 H1 locs1 h1 j1 j2 hS1 hce hcv hcl
  · intro r u t H1 locs1 ht hvm hp hB hz hk hS1
    obtain ⟨hP1, hK1, hD1⟩ := hB
    rw [ht] at hP1
    obtain ⟨j1, j2⟩ := va_join hP hD isC isR hC hR hn hdis hk hF hP1 hD1
    exact kk r H1 locs1 hp j1 j2 hS1
theorem kn_i {φ : Int32 → Prop} {av : Array Value} (hr : va_Run p l e R s m args below meth c H locs cells slots mc ms (F0 m pc ls st0) rest (cQi D tc φ w1 (va_A wc H.size) av) (va_A wc H.size))
    (hP : va_P D vwCl ws H) (hD : va_D A ws) (hS : va_S A s.heap H locs) (hA : ∀ q, s.heap.size ≤ q → A q) (isC isR : List Nat) (hC : isC.map (fun i => ws[i]?) = wc.map some) (hR : isR.map (fun i => ws[i]?) = wr.map some) (hn : va_nd isR = true) (hdis : ∀ i ∈ isR, i ∉ isC)
    (kk : ∀ (r : Int32) (H1 : Heap) (locs1 : List Loc), φ r → va_P D vwCl (wr ++ w1) H1 → va_D A (wr ++ w1) → va_S A s.heap H1 locs1 → W p l e R s m args below meth c H1 locs1 (cells + mc) (slots + ms) Q (F0 m (pc + 3) ls (.int r :: rest))) : W p l e R s m args below meth c H locs cells slots Q (F0 m pc ls st0) := by
  have hF := va_free (wc := wc) hD hS hA isC hC
  refine va_calli hr hS (fun q _ h => hF q h) hF ?_
  intro r u t H1 locs1 ht hvm hp hB hz hk hS1
  obtain ⟨hP1, hK1, hD1⟩ := hB
  rw [ht] at hP1
  obtain ⟨j1, j2⟩ := va_join hP hD isC isR hC hR hn hdis hk hF hP1 hD1
  exact kk r H1 locs1 hp j1 j2 hS1
theorem kx_l {φ : Int64 → Prop} {ψ : String → Prop} {av : Array Value} (hr : vx_Run p l e R s m args below meth c H locs cells slots mc ms (F0 m pc ls st0) rest (cQl D tc φ w1 (va_A wc H.size) av) (cX D tc ψ w2 (va_A wc H.size)) (va_A wc H.size))
    (hP : va_P D vwCl ws H) (hD : va_D A ws) (hS : va_S A s.heap H locs) (hA : ∀ q, s.heap.size ≤ q → A q) (isC isR : List Nat) (hC : isC.map (fun i => ws[i]?) = wc.map some) (hR : isR.map (fun i => ws[i]?) = wr.map some) (hn : va_nd isR = true) (hdis : ∀ i ∈ isR, i ∉ isC)
    (kx : ∀ (E : String) (ce : Cell) (q9 : Addr) (H1 : Heap) (locs1 : List Loc), ψ E → va_P D vwCl (wr ++ w2) H1 → va_D A (wr ++ w2) → va_S A s.heap H1 locs1 → H1[q9]? = some ce → ce.vm = .none → s.vm.findClass E = some ce.cls → vx_W p l e R s m args below meth c H1 locs1 (cells + mc) (slots + ms) Q (F0 m pc ls rest) q9)
    (kk : ∀ (r : Int64) (H1 : Heap) (locs1 : List Loc), φ r → va_P D vwCl (wr ++ w1) H1 → va_D A (wr ++ w1) → va_S A s.heap H1 locs1 → W p l e R s m args below meth c H1 locs1 (cells + mc) (slots + ms) Q (F0 m (pc + 3) ls (.long r :: rest))) : W p l e R s m args below meth c H locs cells slots Q (F0 m pc ls st0) := by
  have hF := va_free (wc := wc) hD hS hA isC hC
  refine vx_calll hr hS (fun q _ h => hF q h) hF (fun q _ h => hF q h) ?_ ?_
  · intro E ce q9 u t H1 locs1 ht hvm hp hB hz hk hS1 hce hcv hcl
    obtain ⟨h1, hP1, hK1, hD1⟩ := hB
    rw [ht] at hP1
    obtain ⟨j1, j2⟩ := va_join hP hD isC isR hC hR hn hdis hk hF hP1 hD1
    exact kx E ce q9 H1 locs1 h1 j1 j2 hS1 hce hcv hcl
  · intro r u t H1 locs1 ht hvm hp hB hz hk hS1
    obtain ⟨hP1, hK1, hD1⟩ := hB
    rw [ht] at hP1
    obtain ⟨j1, j2⟩ := va_join hP hD isC isR hC hR hn hdis hk hF hP1 hD1
    exact kk r H1 locs1 hp j1 j2 hS1
theorem kn_l {φ : Int64 → Prop} {av : Array Value} (hr : va_Run p l e R s m args below meth c H locs cells slots mc ms (F0 m pc ls st0) rest (cQl D tc φ w1 (va_A wc H.size) av) (va_A wc H.size))
    (hP : va_P D vwCl ws H) (hD : va_D A ws) (hS : va_S A s.heap H locs) (hA : ∀ q, s.heap.size ≤ q → A q) (isC isR : List Nat) (hC : isC.map (fun i => ws[i]?) = wc.map some) (hR : isR.map (fun i => ws[i]?) = wr.map some) (hn : va_nd isR = true) (hdis : ∀ i ∈ isR, i ∉ isC)
    (kk : ∀ (r : Int64) (H1 : Heap) (locs1 : List Loc), φ r → va_P D vwCl (wr ++ w1) H1 → va_D A (wr ++ w1) → va_S A s.heap H1 locs1 → W p l e R s m args below meth c H1 locs1 (cells + mc) (slots + ms) Q (F0 m (pc + 3) ls (.long r :: rest))) : W p l e R s m args below meth c H locs cells slots Q (F0 m pc ls st0) := by
  have hF := va_free (wc := wc) hD hS hA isC hC
  refine va_calll hr hS (fun q _ h => hF q h) hF ?_
  intro r u t H1 locs1 ht hvm hp hB hz hk hS1
  obtain ⟨hP1, hK1, hD1⟩ := hB
  rw [ht] at hP1
  obtain ⟨j1, j2⟩ := va_join hP hD isC isR hC hR hn hdis hk hF hP1 hD1
  exact kk r H1 locs1 hp j1 j2 hS1
theorem kx_v {φ : Prop} {ψ : String → Prop} {av : Array Value} (hr : vx_Run p l e R s m args below meth c H locs cells slots mc ms (F0 m pc ls st0) rest (cQv D tc φ w1 (va_A wc H.size) av) (cX D tc ψ w2 (va_A wc H.size)) (va_A wc H.size))
    (hP : va_P D vwCl ws H) (hD : va_D A ws) (hS : va_S A s.heap H locs) (hA : ∀ q, s.heap.size ≤ q → A q) (isC isR : List Nat) (hC : isC.map (fun i => ws[i]?) = wc.map some) (hR : isR.map (fun i => ws[i]?) = wr.map some) (hn : va_nd isR = true) (hdis : ∀ i ∈ isR, i ∉ isC)
    (kx : ∀ (E : String) (ce : Cell) (q9 : Addr) (H1 : Heap) (locs1 : List Loc), ψ E → va_P D vwCl (wr ++ w2) H1 → va_D A (wr ++ w2) → va_S A s.heap H1 locs1 → H1[q9]? = some ce → ce.vm = .none → s.vm.findClass E = some ce.cls → vx_W p l e R s m args below meth c H1 locs1 (cells + mc) (slots + ms) Q (F0 m pc ls rest) q9)
    (kk : ∀ (H1 : Heap) (locs1 : List Loc), φ → va_P D vwCl (wr ++ w1) H1 → va_D A (wr ++ w1) → va_S A s.heap H1 locs1 → W p l e R s m args below meth c H1 locs1 (cells + mc) (slots + ms) Q (F0 m (pc + 3) ls (rest))) : W p l e R s m args below meth c H locs cells slots Q (F0 m pc ls st0) := by
  have hF := va_free (wc := wc) hD hS hA isC hC
  refine vx_callv hr hS (fun q _ h => hF q h) hF (fun q _ h => hF q h) ?_ ?_
  · intro E ce q9 u t H1 locs1 ht hvm hp hB hz hk hS1 hce hcv hcl
    obtain ⟨h1, hP1, hK1, hD1⟩ := hB
    rw [ht] at hP1
    obtain ⟨j1, j2⟩ := va_join hP hD isC isR hC hR hn hdis hk hF hP1 hD1
    exact kx E ce q9 H1 locs1 h1 j1 j2 hS1 hce hcv hcl
  · intro u t H1 locs1 ht hvm hp hB hz hk hS1
    obtain ⟨hP1, hK1, hD1⟩ := hB
    rw [ht] at hP1
    obtain ⟨j1, j2⟩ := va_join hP hD isC isR hC hR hn hdis hk hF hP1 hD1
    exact kk H1 locs1 hp j1 j2 hS1
theorem kn_v {φ : Prop} {av : Array Value} (hr : va_Run p l e R s m args below meth c H locs cells slots mc ms (F0 m pc ls st0) rest (cQv D tc φ w1 (va_A wc H.size) av) (va_A wc H.size))
    (hP : va_P D vwCl ws H) (hD : va_D A ws) (hS : va_S A s.heap H locs) (hA : ∀ q, s.heap.size ≤ q → A q) (isC isR : List Nat) (hC : isC.map (fun i => ws[i]?) = wc.map some) (hR : isR.map (fun i => ws[i]?) = wr.map some) (hn : va_nd isR = true) (hdis : ∀ i ∈ isR, i ∉ isC)
    (kk : ∀ (H1 : Heap) (locs1 : List Loc), φ → va_P D vwCl (wr ++ w1) H1 → va_D A (wr ++ w1) → va_S A s.heap H1 locs1 → W p l e R s m args below meth c H1 locs1 (cells + mc) (slots + ms) Q (F0 m (pc + 3) ls (rest))) : W p l e R s m args below meth c H locs cells slots Q (F0 m pc ls st0) := by
  have hF := va_free (wc := wc) hD hS hA isC hC
  refine va_callv hr hS (fun q _ h => hF q h) hF ?_
  intro u t H1 locs1 ht hvm hp hB hz hk hS1
  obtain ⟨hP1, hK1, hD1⟩ := hB
  rw [ht] at hP1
  obtain ⟨j1, j2⟩ := va_join hP hD isC isR hC hR hn hdis hk hF hP1 hD1
  exact kk H1 locs1 hp j1 j2 hS1

/-- a constructor's call: what it made comes with the world -/
theorem kn_u {S : Type} {post : S → Prop} {tf : S → List (ClassId × FieldType)} {wf : S → va_W} {av : Array Value} (hr : va_Run p l e R s m args below meth c H locs cells slots mc ms (F0 m pc ls st0) rest (va_Qv post (fun u t => cB D (tf u) (va_A wc H.size) (wf u) t) (va_A wc H.size) av) (va_A wc H.size))
    (hP : va_P D vwCl ws H) (hD : va_D A ws) (hS : va_S A s.heap H locs) (hA : ∀ q, s.heap.size ≤ q → A q) (isC isR : List Nat) (hC : isC.map (fun i => ws[i]?) = wc.map some) (hR : isR.map (fun i => ws[i]?) = wr.map some) (hn : va_nd isR = true) (hdis : ∀ i ∈ isR, i ∉ isC)
    (kk : ∀ (u : S) (H1 : Heap) (locs1 : List Loc), post u → va_P D vwCl (wr ++ wf u) H1 → va_D A (wr ++ wf u) → va_K D vwCl (tf u) s → va_S A s.heap H1 locs1 → W p l e R s m args below meth c H1 locs1 (cells + mc) (slots + ms) Q (F0 m (pc + 3) ls rest)) : W p l e R s m args below meth c H locs cells slots Q (F0 m pc ls st0) := by
  have hF := va_free (wc := wc) hD hS hA isC hC
  refine va_callv hr hS (fun q _ h => hF q h) hF ?_
  intro u t H1 locs1 ht hvm hp hB hz hk hS1
  obtain ⟨hP1, hK1, hD1⟩ := hB
  rw [ht] at hP1
  obtain ⟨j1, j2⟩ := va_join hP hD isC isR hC hR hn hdis hk hF hP1 hD1
  exact kk u H1 locs1 hp j1 j2 (va_K.moved hvm.symm hK1) hS1
theorem fn_i {φ : Int32 → Prop} {v : Int32} (hexec : p.tables.exec = Jvm.exec) (hb : c.code = cc) (hr : meth.sig.returnType = some .int) (hlocks : meth.locks = false) (hc : cells ≤ mc) (hs : slots ≤ ms) (hφ : φ v) (hP : va_P D vwCl w1 H) (hK : va_K D vwCl tys s) (hD : va_D A w1) (hS : va_S A s.heap H locs) (hdg : decode cc pc = .ok (.ireturn, 1)) : W p l e R s m args below meth c H locs cells slots (MQ below (cQi D tys φ w1 A) args s mc ms A) (F0 m pc ls [.int v]) := by
  refine W.widen hc hs ?_
  exact W.iret (v := v) hexec hb hr (fun t ht hW => ⟨⟨v, (), rfl, hφ, ⟨by rw [ht]; exact hP, va_K.moved hW.alike hK, hD⟩⟩, hS.F ht⟩) hS.2.2 hdg hlocks
theorem fx_i {XC : String → State → State → Prop} {φ : Int32 → Prop} {v : Int32} (hexec : p.tables.exec = Jvm.exec) (hb : c.code = cc) (hr : meth.sig.returnType = some .int) (hlocks : meth.locks = false) (hc : cells ≤ mc) (hs : slots ≤ ms) (hφ : φ v) (hP : va_P D vwCl w1 H) (hK : va_K D vwCl tys s) (hD : va_D A w1) (hS : va_S A s.heap H locs) (hdg : decode cc pc = .ok (.ireturn, 1)) : W p l e R s m args below meth c H locs cells slots (vx_MQ below (cQi D tys φ w1 A) XC args s mc ms A) (F0 m pc ls [.int v]) :=
  vx_ret (fn_i hexec hb hr hlocks hc hs hφ hP hK hD hS hdg)
theorem fn_z {φ : Int32 → Prop} {v : Int32} (hexec : p.tables.exec = Jvm.exec) (hb : c.code = cc) (hr : meth.sig.returnType = some .boolean) (hz : narrow .boolean (.int v) = .int v) (hlocks : meth.locks = false) (hc : cells ≤ mc) (hs : slots ≤ ms) (hφ : φ v) (hP : va_P D vwCl w1 H) (hK : va_K D vwCl tys s) (hD : va_D A w1) (hS : va_S A s.heap H locs) (hdg : decode cc pc = .ok (.ireturn, 1)) : W p l e R s m args below meth c H locs cells slots (MQ below (cQi D tys φ w1 A) args s mc ms A) (F0 m pc ls [.int v]) := by
  refine W.widen hc hs ?_
  exact W.zret (v := v) hexec hb hr hz (fun t ht hW => ⟨⟨v, (), rfl, hφ, ⟨by rw [ht]; exact hP, va_K.moved hW.alike hK, hD⟩⟩, hS.F ht⟩) hS.2.2 hdg hlocks
theorem fx_z {XC : String → State → State → Prop} {φ : Int32 → Prop} {v : Int32} (hexec : p.tables.exec = Jvm.exec) (hb : c.code = cc) (hr : meth.sig.returnType = some .boolean) (hz : narrow .boolean (.int v) = .int v) (hlocks : meth.locks = false) (hc : cells ≤ mc) (hs : slots ≤ ms) (hφ : φ v) (hP : va_P D vwCl w1 H) (hK : va_K D vwCl tys s) (hD : va_D A w1) (hS : va_S A s.heap H locs) (hdg : decode cc pc = .ok (.ireturn, 1)) : W p l e R s m args below meth c H locs cells slots (vx_MQ below (cQi D tys φ w1 A) XC args s mc ms A) (F0 m pc ls [.int v]) :=
  vx_ret (fn_z hexec hb hr hz hlocks hc hs hφ hP hK hD hS hdg)
theorem fn_l {φ : Int64 → Prop} {v : Int64} (hexec : p.tables.exec = Jvm.exec) (hb : c.code = cc) (hr : meth.sig.returnType = some .long) (hlocks : meth.locks = false) (hc : cells ≤ mc) (hs : slots ≤ ms) (hφ : φ v) (hP : va_P D vwCl w1 H) (hK : va_K D vwCl tys s) (hD : va_D A w1) (hS : va_S A s.heap H locs) (hdg : decode cc pc = .ok (.lreturn, 1)) : W p l e R s m args below meth c H locs cells slots (MQ below (cQl D tys φ w1 A) args s mc ms A) (F0 m pc ls [.long v]) := by
  refine W.widen hc hs ?_
  exact W.lret (v := v) hexec hb hr (fun t ht hW => ⟨⟨v, (), rfl, hφ, ⟨by rw [ht]; exact hP, va_K.moved hW.alike hK, hD⟩⟩, hS.F ht⟩) hS.2.2 hdg hlocks
theorem fx_l {XC : String → State → State → Prop} {φ : Int64 → Prop} {v : Int64} (hexec : p.tables.exec = Jvm.exec) (hb : c.code = cc) (hr : meth.sig.returnType = some .long) (hlocks : meth.locks = false) (hc : cells ≤ mc) (hs : slots ≤ ms) (hφ : φ v) (hP : va_P D vwCl w1 H) (hK : va_K D vwCl tys s) (hD : va_D A w1) (hS : va_S A s.heap H locs) (hdg : decode cc pc = .ok (.lreturn, 1)) : W p l e R s m args below meth c H locs cells slots (vx_MQ below (cQl D tys φ w1 A) XC args s mc ms A) (F0 m pc ls [.long v]) :=
  vx_ret (fn_l hexec hb hr hlocks hc hs hφ hP hK hD hS hdg)
theorem fn_v {φ : Prop} (hexec : p.tables.exec = Jvm.exec) (hb : c.code = cc) (hr : meth.sig.returnType = none) (hlocks : meth.locks = false) (hc : cells ≤ mc) (hs : slots ≤ ms) (hφ : φ) (hP : va_P D vwCl w1 H) (hK : va_K D vwCl tys s) (hD : va_D A w1) (hS : va_S A s.heap H locs) (hdg : decode cc pc = .ok (.return_, 1)) : W p l e R s m args below meth c H locs cells slots (MQ below (cQv D tys φ w1 A) args s mc ms A) (F0 m pc ls []) := by
  refine W.widen hc hs ?_
  exact W.vret hexec hb hr (fun t ht hW => ⟨⟨(), rfl, hφ, ⟨by rw [ht]; exact hP, va_K.moved hW.alike hK, hD⟩⟩, hS.F ht⟩) hS.2.2 hdg hlocks
theorem fx_v {XC : String → State → State → Prop} {φ : Prop} (hexec : p.tables.exec = Jvm.exec) (hb : c.code = cc) (hr : meth.sig.returnType = none) (hlocks : meth.locks = false) (hc : cells ≤ mc) (hs : slots ≤ ms) (hφ : φ) (hP : va_P D vwCl w1 H) (hK : va_K D vwCl tys s) (hD : va_D A w1) (hS : va_S A s.heap H locs) (hdg : decode cc pc = .ok (.return_, 1)) : W p l e R s m args below meth c H locs cells slots (vx_MQ below (cQv D tys φ w1 A) XC args s mc ms A) (F0 m pc ls []) :=
  vx_ret (fn_v hexec hb hr hlocks hc hs hφ hP hK hD hS hdg)

/-- 'throw new E("text")' of the class -/
theorem fx_throw {cls text : String} {ik is ic : Nat} {Qc : Array Value → State → Outcome → State → Prop} {ψ : String → Prop} (hexec : p.tables.exec = Jvm.exec) (hb : c.code = cc) (hl : l.stackTraces = false)
    (hown : s.vm.findClass RX0 = some m.cls) (hcls : Bundle.fit cls = true)
    (hk : (Cond.classLink RX0 ik cls).before args s = true) (hini : (Cond.initialized cls).before args s = true) (htx : (is, text) ∈ zT) (hat : ∀ w ∈ vx_atS RX0 ic cls zNm, w.before args s = true)
    (hgood : ∀ w ∈ Cond.classLink RX0 ik cls :: Cond.initialized cls :: vx_atS RX0 ic cls zNm, vx_ot w = true)
    (hZ : zx A s s.heap) (hS : va_S A s.heap H locs) (hsize : ls.size = c.maxLocals)
    (d0 : decode cc pc = .ok (.new ik, 3)) (d3 : decode cc (pc + 3) = .ok (.dup, 1)) (d4 : decode cc (pc + 4) = .ok (.ldc is, 2)) (d6 : decode cc (pc + 6) = .ok (.invokespecial ic, 3)) (d9 : decode cc (pc + 9) = .ok (.athrow, 1))
    (ht9 : ∀ x ∈ c.exceptionTable.toList, False) (hRf : 5 < R.frames) (hRl : 82 ≤ R.locals) (hRc : cells + 1 ≤ R.cells) (hRs : slots + 6 ≤ R.slots) (hlocks : meth.locks = false) (hc : cells + 1 ≤ mc) (hs : slots + 6 ≤ ms)
    (hψ : ψ cls) (hP : va_P D vwCl w2 H) (hK : va_K D vwCl tys s) (hD : va_D A w2) :
    W p l e R s m args below meth c H locs cells slots (vx_MQ below Qc (cX D tys ψ w2 A) args s mc ms A) (F0 m pc ls []) := by
  obtain ⟨sa, hsa⟩ := hZ.2.2.1 _ htx
  exact vx_throwS (own := RX0) (cls := cls) (names := zNm) hexec hb hl hown hcls (by decide +kernel) hk hini hsa hat hgood hZ.1 hZ.2.1 hS hsize d0 d3 d4 d6 d9 (fun x hx => (ht9 x hx).elim) hRf hRl hRc hRs hlocks
    (fun t ha hsz hk9 => ⟨(), trivial, ⟨hψ, hP.kept (fun k q hq => hk9 q.1 (hP k q hq).lt), va_K.moved ha hK, hD⟩, Nat.le_trans hS.1 hsz, fun q h1 h2 => (hk9 q (Nat.lt_of_lt_of_le h1 hS.1)).trans (hS.2.1 q h1 h2)⟩) hS.2.2 hc hs
/-- what is thrown goes on to the caller -/
theorem fx_out {E : String} {ce : Cell} {q : Addr} {Qc : Array Value → State → Outcome → State → Prop} {ψ : String → Prop} (ht9 : ∀ x ∈ c.exceptionTable.toList, False) (hlocks : meth.locks = false) (hcell : H[q]? = some ce) (hv : ce.vm = .none) (hcl : s.vm.findClass E = some ce.cls) (hS : va_S A s.heap H locs) (hc : cells ≤ mc) (hs : slots ≤ ms)
    (hψ : ψ E) (hP : va_P D vwCl w2 H) (hK : va_K D vwCl tys s) (hD : va_D A w2) :
    vx_W p l e R s m args below meth c H locs cells slots (vx_MQ below Qc (cX D tys ψ w2 A) args s mc ms A) (F0 m pc ls rest) q :=
  vx_out (E := E) (fun x hx => (ht9 x hx).elim) hlocks hcell hv hcl (fun t ht ha => ⟨(), trivial, ⟨hψ, by rw [ht]; exact hP, va_K.moved ha hK, hD⟩, hS.F ht⟩) hS.2.2 hc hs
end LXA
theorem mk_x {l : Launch} {y : MethodName} {ws ws' : List Cond} {rm : Room} {D : va_G} {tys : List (ClassId × FieldType)} {w : va_W} {av : List Value} {sz mc ms : Nat} {cc : ByteArray} {maxL : Nat} {ret : Option FieldType} (Qf : (Nat → Prop) → Array Value → State → Outcome → State → Prop) (Xf : (Nat → Prop) → String → State → State → Prop)
    (hy : plainName y.cls = true) (hw : ws = Cond.code y cc maxL ret :: ws') (hla : (lg_sl av).length ≤ maxL)
    (body : ∀ (p : Program) (e : Env) (s : State) (m : MethodId) (below : List Frame) (meth : Method) (c : Code) (ls : Array Slot) (A : Nat → Prop), p.tables.exec = Jvm.exec → c.code = cc → meth.sig.returnType = ret → c.maxLocals = maxL → (∀ x ∈ c.exceptionTable.toList, False) → meth.locks = false → meth.name = y.name → s.vm.findClass y.cls = some m.cls → (∀ q ∈ ws, q.before av.toArray s = true) →
      va_P D vwCl w s.heap → va_K D vwCl tys s → va_D A w → zx A s s.heap → (∀ q : Nat, s.heap.size ≤ q → A q) → va_S A s.heap s.heap [] → lv_has ls maxL (lv_args 0 av) → W p l e rm s m av.toArray below meth c s.heap [] 0 0 (vx_MQ below (Qf A) (Xf A) av.toArray s mc ms A) (F0 m 0 ls [])) :
    vx_Met l y ws rm (cP D tys w av sz) (Qf (va_A w sz)) (Xf (va_A w sz)) mc ms (va_A w sz) := by
  refine vx_ofW (cc := cc) (maxL := maxL) (ret := ret) hy hw ?_
  intro p e s m args below meth c s₁ B hml ht9 hv
  obtain ⟨rfl, hsz, hP, hK, hD0, hZ⟩ := hv
  subst hsz
  have hD := hD0.self (sz := s.heap.size)
  have hA : ∀ q : Nat, s.heap.size ≤ q → va_A w s.heap.size q := fun q h => Or.inr h
  have hts := atoms_spec (ws := ws) B.pre
  have hl := lv_entry av (n := maxL) hla
  rw [lg_entry_eq]
  exact body p e s m below meth c _ _ B.exec B.bytes B.returns hml ht9 B.notSynchronized (name_of_methodNamed B.named B.method).1 (findClass_of_methodNamed B.named) hts hP hK hD hZ hA va_S.rf hl
theorem mk_n {l : Launch} {y : MethodName} {ws ws' : List Cond} {rm : Room} {D : va_G} {tys : List (ClassId × FieldType)} {w : va_W} {av : List Value} {sz mc ms : Nat} {cc : ByteArray} {maxL : Nat} {ret : Option FieldType} (Qf : (Nat → Prop) → Array Value → State → Outcome → State → Prop)
    (hy : plainName y.cls = true) (hw : ws = Cond.code y cc maxL ret :: ws') (hla : (lg_sl av).length ≤ maxL)
    (body : ∀ (p : Program) (e : Env) (s : State) (m : MethodId) (below : List Frame) (meth : Method) (c : Code) (ls : Array Slot) (A : Nat → Prop), p.tables.exec = Jvm.exec → c.code = cc → meth.sig.returnType = ret → c.maxLocals = maxL → meth.locks = false → meth.name = y.name → s.vm.findClass y.cls = some m.cls → (∀ q ∈ ws, q.before av.toArray s = true) →
      va_P D vwCl w s.heap → va_K D vwCl tys s → va_D A w → zx A s s.heap → (∀ q : Nat, s.heap.size ≤ q → A q) → va_S A s.heap s.heap [] → lv_has ls maxL (lv_args 0 av) → W p l e rm s m av.toArray below meth c s.heap [] 0 0 (MQ below (Qf A) av.toArray s mc ms A) (F0 m 0 ls [])) :
    Met l y ws rm (cP D tys w av sz) (Qf (va_A w sz)) mc ms (va_A w sz) := by
  refine Met.ofW (cc := cc) (maxL := maxL) (ret := ret) hy hw ?_
  intro p e s m args below meth c s₁ B hml hv
  obtain ⟨rfl, hsz, hP, hK, hD0, hZ⟩ := hv
  subst hsz
  have hD := hD0.self (sz := s.heap.size)
  have hA : ∀ q : Nat, s.heap.size ≤ q → va_A w s.heap.size q := fun q h => Or.inr h
  have hts := atoms_spec (ws := ws) B.pre
  have hl := lv_entry av (n := maxL) hla
  rw [lg_entry_eq]
  exact body p e s m below meth c _ _ B.exec B.bytes B.returns hml B.notSynchronized (name_of_methodNamed B.named B.method).1 (findClass_of_methodNamed B.named) hts hP hK hD hZ hA va_S.rf hl
theorem mk_h {l : Launch} {y : MethodName} {ws ws' : List Cond} {rm : Room} {D : va_G} {tys : List (ClassId × FieldType)} {w : va_W} {av : List Value} {sz mc ms : Nat} {cc : ByteArray} {maxL : Nat} {ret : Option FieldType} {hh : List (Nat × Nat × Nat × Nat)} (Qf : (Nat → Prop) → Array Value → State → Outcome → State → Prop)
    (hy : plainName y.cls = true) (hw : ws = Cond.codeWith y cc maxL ret hh :: ws') (hla : (lg_sl av).length ≤ maxL)
    (body : ∀ (p : Program) (e : Env) (s : State) (m : MethodId) (below : List Frame) (meth : Method) (c : Code) (ls : Array Slot) (A : Nat → Prop), p.tables.exec = Jvm.exec → c.code = cc → meth.sig.returnType = ret → c.maxLocals = maxL → c.exceptionTable.toList = tableOf hh → meth.locks = false → meth.name = y.name → s.vm.findClass y.cls = some m.cls → (∀ q ∈ ws, q.before av.toArray s = true) →
      va_P D vwCl w s.heap → va_K D vwCl tys s → va_D A w → zx A s s.heap → (∀ q : Nat, s.heap.size ≤ q → A q) → va_S A s.heap s.heap [] → lv_has ls maxL (lv_args 0 av) → W p l e rm s m av.toArray below meth c s.heap [] 0 0 (MQ below (Qf A) av.toArray s mc ms A) (F0 m 0 ls [])) :
    Met l y ws rm (cP D tys w av sz) (Qf (va_A w sz)) mc ms (va_A w sz) := by
  refine va_MetW (cc := cc) (maxL := maxL) (ret := ret) (hh := hh) hy hw ?_
  intro p e s m args below meth c s₁ B hml hv
  obtain ⟨rfl, hsz, hP, hK, hD0, hZ⟩ := hv
  subst hsz
  have hD := hD0.self (sz := s.heap.size)
  have hA : ∀ q : Nat, s.heap.size ≤ q → va_A w s.heap.size q := fun q h => Or.inr h
  have hts := atoms_spec (ws := ws) B.pre
  have hl := lv_entry av (n := maxL) hla
  rw [lg_entry_eq]
  have ht9 : c.exceptionTable.toList = tableOf hh := vx_table (x := y) B (hts _ (by rw [hw]; exact List.mem_cons_self))
  exact body p e s m below meth c _ _ B.exec B.bytes B.returns hml ht9 B.notSynchronized (name_of_methodNamed B.named B.method).1 (findClass_of_methodNamed B.named) hts hP hK hD hZ hA va_S.rf hl

set_option maxRecDepth 20000 in
theorem at_38 : ∀ w ∈ (vx_atS RX0 38 "java/lang/IllegalArgumentException" zNm).filter goodWord, w ∈ lw_tbl := by decide +kernel
theorem hat_38 {x : Cond} {args : Array Value} {s : State} (hts : ∀ w ∈ x :: ALL, w.before args s = true) (hz : zs s) : ∀ w ∈ vx_atS RX0 38 "java/lang/IllegalArgumentException" zNm, w.before args s = true :=
  vx_hat (B := [.castable "java/lang/IllegalArgumentException" "java/lang/IllegalArgumentException", .declares ⟨"java/lang/RuntimeException", "<init>", "(Ljava/lang/String;)V"⟩, .declares ⟨"java/lang/Exception", "<init>", "(Ljava/lang/String;)V"⟩, .declares ⟨"java/lang/Throwable", "<init>", "(Ljava/lang/String;)V"⟩]) (fun w hw => hts w (wm (List.mem_filter.mpr ⟨at_38 w hw, (List.mem_filter.mp hw).2⟩))) (by decide +kernel) (vx_c (va_Nw.use rfl (hz.2.1 _ (by decide))) (vx_c (va_Nw.use rfl (hz.2.2.1 _ (by decide))) (vx_c (va_Nw.use rfl (hz.2.2.1 _ (by decide))) (vx_c (va_Nw.use rfl (hz.2.2.1 _ (by decide))) (vx_n)))))
set_option maxRecDepth 20000 in
theorem hgd_38 : ∀ w ∈ Cond.classLink RX0 34 "java/lang/IllegalArgumentException" :: Cond.initialized "java/lang/IllegalArgumentException" :: vx_atS RX0 38 "java/lang/IllegalArgumentException" zNm, vx_ot w = true := by decide +kernel
set_option maxRecDepth 20000 in
theorem at_45 : ∀ w ∈ (vx_atS RX0 45 "java/lang/IllegalStateException" zNm).filter goodWord, w ∈ lw_tbl := by decide +kernel
theorem hat_45 {x : Cond} {args : Array Value} {s : State} (hts : ∀ w ∈ x :: ALL, w.before args s = true) (hz : zs s) : ∀ w ∈ vx_atS RX0 45 "java/lang/IllegalStateException" zNm, w.before args s = true :=
  vx_hat (B := [.castable "java/lang/IllegalStateException" "java/lang/IllegalStateException", .declares ⟨"java/lang/RuntimeException", "<init>", "(Ljava/lang/String;)V"⟩, .declares ⟨"java/lang/Exception", "<init>", "(Ljava/lang/String;)V"⟩, .declares ⟨"java/lang/Throwable", "<init>", "(Ljava/lang/String;)V"⟩]) (fun w hw => hts w (wm (List.mem_filter.mpr ⟨at_45 w hw, (List.mem_filter.mp hw).2⟩))) (by decide +kernel) (vx_c (va_Nw.use rfl (hz.2.1 _ (by decide))) (vx_c (va_Nw.use rfl (hz.2.2.1 _ (by decide))) (vx_c (va_Nw.use rfl (hz.2.2.1 _ (by decide))) (vx_c (va_Nw.use rfl (hz.2.2.1 _ (by decide))) (vx_n)))))
set_option maxRecDepth 20000 in
theorem hgd_45 : ∀ w ∈ Cond.classLink RX0 41 "java/lang/IllegalStateException" :: Cond.initialized "java/lang/IllegalStateException" :: vx_atS RX0 45 "java/lang/IllegalStateException" zNm, vx_ot w = true := by decide +kernel
set_option maxRecDepth 20000 in
theorem at_83 : ∀ w ∈ (vx_atS RX0 83 "java/lang/IndexOutOfBoundsException" zNm).filter goodWord, w ∈ lw_tbl := by decide +kernel
theorem hat_83 {x : Cond} {args : Array Value} {s : State} (hts : ∀ w ∈ x :: ALL, w.before args s = true) (hz : zs s) : ∀ w ∈ vx_atS RX0 83 "java/lang/IndexOutOfBoundsException" zNm, w.before args s = true :=
  vx_hat (B := [.castable "java/lang/IndexOutOfBoundsException" "java/lang/IndexOutOfBoundsException", .declares ⟨"java/lang/RuntimeException", "<init>", "(Ljava/lang/String;)V"⟩, .declares ⟨"java/lang/Exception", "<init>", "(Ljava/lang/String;)V"⟩, .declares ⟨"java/lang/Throwable", "<init>", "(Ljava/lang/String;)V"⟩]) (fun w hw => hts w (wm (List.mem_filter.mpr ⟨at_83 w hw, (List.mem_filter.mp hw).2⟩))) (by decide +kernel) (vx_c (va_Nw.use rfl (hz.2.1 _ (by decide))) (vx_c (va_Nw.use rfl (hz.2.2.1 _ (by decide))) (vx_c (va_Nw.use rfl (hz.2.2.1 _ (by decide))) (vx_c (va_Nw.use rfl (hz.2.2.1 _ (by decide))) (vx_n)))))
set_option maxRecDepth 20000 in
theorem hgd_83 : ∀ w ∈ Cond.classLink RX0 81 "java/lang/IndexOutOfBoundsException" :: Cond.initialized "java/lang/IndexOutOfBoundsException" :: vx_atS RX0 83 "java/lang/IndexOutOfBoundsException" zNm, vx_ot w = true := by decide +kernel
end
section
/-! NoSuchElementException("text"): in this JDK its constructor calls the one above through entry 13 of its pool, not through 7 as the library's words of a throw have it. So its own pass stands by itself here, and the passes above it come by the library's chain -/
abbrev nsN : String := "java/util/NoSuchElementException"
abbrev nsR : String := "java/lang/RuntimeException"
abbrev nsE : String := "java/lang/Exception"
def nsB : ByteArray := ⟨#[0x2a, 0x2b, 0xb7, 0x00, 0x0d, 0xb1]⟩
theorem nsB_0 : decode nsB 0 = .ok (.aload_n 0, 1) := by decide +kernel
theorem nsB_1 : decode nsB 1 = .ok (.aload_n 1, 1) := by decide +kernel
theorem nsB_2 : decode nsB 2 = .ok (.invokespecial 13, 3) := by decide +kernel
theorem nsB_5 : decode nsB 5 = .ok (.return_, 1) := by decide +kernel
/-- the words of the exception's own class -/
def nsW : List Cond := [.methodLink RX0 68 (Bundle.initS nsN), .instantiable nsN 6, .castable nsN nsN, .selects nsN Bundle.tFill0 Bundle.tFill0, .selects nsN Bundle.tFill Bundle.tFill,
  .lays nsN Bundle.tN "cause" "Ljava/lang/Throwable;", .lays nsN Bundle.tN "stackTrace" Bundle.steD, .lays nsN Bundle.tN "suppressedExceptions" Bundle.listD, .lays nsN Bundle.tN "detailMessage" "Ljava/lang/String;", .lays nsN Bundle.tN "backtrace" "Ljava/lang/Object;",
  .fieldLink Bundle.tN 198 Bundle.tN "backtrace" "Ljava/lang/Object;", .lays Bundle.tN Bundle.tN "backtrace" "Ljava/lang/Object;",
  .isRef (.static Bundle.tN "UNASSIGNED_STACK" Bundle.steD), .isRef (.static Bundle.tN "SUPPRESSED_SENTINEL" Bundle.listD)]
def nsA : List Cond := Bundle.throwableAtoms ++ (Bundle.throwableSAtoms ++ (Bundle.passSAtoms nsN nsR 13 nsB ++ (Bundle.chainSAtoms nsR [nsE] ++ nsW)))
theorem nsA_t {w : Cond} (h : w ∈ Bundle.throwableAtoms) : w ∈ nsA := List.mem_append_left _ h
theorem nsA_s {w : Cond} (h : w ∈ Bundle.throwableSAtoms) : w ∈ nsA := List.mem_append_right _ (List.mem_append_left _ h)
theorem nsA_p {w : Cond} (h : w ∈ Bundle.passSAtoms nsN nsR 13 nsB) : w ∈ nsA := List.mem_append_right _ (List.mem_append_right _ (List.mem_append_left _ h))
theorem nsA_c {w : Cond} (h : w ∈ Bundle.chainSAtoms nsR [nsE]) : w ∈ nsA := List.mem_append_right _ (List.mem_append_right _ (List.mem_append_right _ (List.mem_append_left _ h)))
theorem nsA_w {w : Cond} (h : w ∈ nsW) : w ∈ nsA := List.mem_append_right _ (List.mem_append_right _ (List.mem_append_right _ (List.mem_append_right _ h)))
section NSE
variable {p : Program} {l : Launch} {e : Env} {R : Room} {s : State} {m : MethodId} {args : Array Value} {below : List Frame} {meth : Method} {c : Code} {U0 : State} {cells slots : Nat}
set_option maxHeartbeats 2000000 in
/-- the constructor's call and the throw behind it, of a new cell at a -/
theorem ns_ctor (X : Stand p l e R s m args below meth c U0 [] cells slots) (hexec : p.tables.exec = Jvm.exec) (htr : e.platform.stackTraces = false) (hown : s.vm.findClass RX0 = some m.cls)
    (h : ∀ w ∈ nsA, w.before args s = true) {a : Addr} {cX : ClassId} {kX : Class} (hfoundX : s.vm.findClass nsN = some cX) (hkX : s.vm.classes[cX]? = some kX) (hcell : U0.heap[a]? = some (freshCell cX kX)) (hnew : s.heap.size ≤ a)
    {msg : Value} (hmsg : msg.isRef = true) {g : JFrame} (hg : g.method = m) (hsize : g.locals.size = c.maxLocals) (hlocked : g.locked = none) (hentered : g.entered = []) {rest : List Value} (hstack : g.stack = msg :: .ref a :: .ref a :: rest)
    (hd6 : decode c.code g.pc = .ok (.invokespecial 68, 3)) (hd9 : decode c.code (g.pc + 3) = .ok (.athrow, 1)) (hout : ∀ x ∈ c.exceptionTable.toList, covers x (g.pc + 3) = false)
    (hRf : 5 < R.frames) (hRl : 2 * g.monitorRoom + ((Value.ref a :: rest).map fun v => v.category).sum + 81 ≤ R.locals) (hlocks : meth.locks = false) :
    ∃ U : State, Steps p.tables e below (U0.setTop g) U ∧ U.status = .running ∧ Ended U below (.threw a) ∧ s.WarmedH U.vm ∧ s.sameButNew ({ U with vm := s.vm } : State) [] cells slots ∧ ∃ ce : Cell, U.heap[a]? = some ce ∧ ce.vm = .none ∧ s.vm.findClass nsN = some ce.cls := by
  have hpl : e.platform.magicAccessors = ({} : Platform).magicAccessors := by rw [X.admits.platform]
  have hw : ∀ w, w ∈ nsW → w.holds args s none s [] = true := fun w q => h w (nsA_w q)
  -- what the tables say of Throwable and of the passes
  obtain ⟨T, Z0, LT, -, Y⟩ := ThrowableC.of_atoms (args := args) (s := s) (pl := e.platform) (by rw [X.admits.platform]) (by rw [X.admits.platform]) hpl (fun w q => h w (nsA_t q))
  obtain ⟨Z, M, LZ, LM, hnZ⟩ := Init0T.ofS_atoms (args := args) hpl LT Y (fun w q => h w (nsA_s q))
  obtain ⟨P1, L1, hm1, hs1⟩ := PassC.ofS_atoms (args := args) (s := s) hpl (X := nsN) (Y := nsR) (by decide +kernel) (by decide +kernel) nsB_0 nsB_1 nsB_2 nsB_5 (fun w q => h w (nsA_p q))
  obtain ⟨P2, Ps, hlen, L2, hLs, hm2, hsup2, hpass⟩ := Bundle.chainS (args := args) hpl hnZ [nsE] nsR (by decide +kernel) (by decide +kernel) (fun w q => h w (nsA_c q))
  have hsup1 : P1.sup = P2.m := Option.some.inj (hs1.symm.trans hm2)
  -- the exception's class
  have hfound : s.vm.findClass nsN = some P1.m.cls := findClass_of_methodNamed hm1
  cases Option.some.inj (hfoundX.symm.trans hfound)
  obtain ⟨c1, k1, hc1, hk, hord, -, -, hn6⟩ := Cond.instantiable_spec (hw (.instantiable nsN 6) (by simp [nsW]))
  cases Option.some.inj (hc1.symm.trans hfound)
  cases Option.some.inj (hkX.symm.trans hk)
  have sel : ∀ {y : MethodName} {f : MethodId}, s.methodNamed? y = some f → (y.cls ≠ "java/lang/invoke/MethodHandle" ∧ y.cls ≠ "java/lang/invoke/VarHandle") → (Cond.selects nsN y y).holds args s none s [] = true → selectMethod e.platform s.vm P1.m.cls f = .method f := by
    intro y f hy hn hh
    obtain ⟨c2, r2, m2, q1, q2, q3, q4, -⟩ := Cond.selects_spec hh
    cases Option.some.inj (q1.symm.trans hfound)
    cases Option.some.inj (q2.symm.trans (State.methodFound?_of_named hy hn))
    cases Option.some.inj (q3.symm.trans hy)
    rw [Launch.admits_selectMethod X.admits]
    exact q4
  have hsel0 := sel Y.fill0 (by decide) (hw (.selects nsN Bundle.tFill0 Bundle.tFill0) (by simp [nsW]))
  have hselF := sel Y.fill (by decide) (hw (.selects nsN Bundle.tFill Bundle.tFill) (by simp [nsW]))
  -- Throwable's statics, as the heap holds them
  obtain ⟨cS0, hcS0, hiss⟩ := Y.statics
  obtain ⟨u0, hu0⟩ := Cond.staticRefV Y.unassigned LT.unassignedStatic LT.statics hcS0 hiss (hw (.isRef (.static Bundle.tN "UNASSIGNED_STACK" Bundle.steD)) (by simp [nsW]))
  obtain ⟨sen, hsen⟩ := Cond.staticRefV Y.sentinel LT.sentinelStatic LT.statics hcS0 hiss (hw (.isRef (.static Bundle.tN "SUPPRESSED_SENTINEL" Bundle.listD)) (by simp [nsW]))
  obtain ⟨cS, hcS, heS, -, hkeep⟩ := X.same.2.2.2.2.2 T.aS cS0 hcS0
  have hcS : U0.heap[T.aS]? = some cS := hcS
  have hkS : cS.vm ≠ .unknown := by
    rw [heS]
    intro q
    rw [show cS0.vm = .unknown from q] at hiss
    cases hiss
  have hneS : T.aS ≠ a := Nat.ne_of_lt (Nat.lt_of_lt_of_le (Array.getElem?_eq_some_iff.mp hcS0).1 hnew)
  -- the fields that the constructors write
  obtain ⟨iM, hffM⟩ := Y.msg
  obtain ⟨ci, ip, fB, hb1, hb2, hb3, hb4, -, hnB, htB, hffB⟩ := Cond.ownField (t := .object "java/lang/Object") Y.found LT.cls (by decide +kernel) (hw (.fieldLink Bundle.tN 198 Bundle.tN "backtrace" "Ljava/lang/Object;") (by simp [nsW])) (hw (.lays Bundle.tN Bundle.tN "backtrace" "Ljava/lang/Object;") (by simp [nsW])) e.platform hpl
  obtain ⟨tyC, dC, hdC, hnC⟩ := Cond.laysAt hfound hk Y.cause (hw (.lays nsN Bundle.tN "cause" "Ljava/lang/Throwable;") (by simp [nsW]))
  obtain ⟨tyS, dS, hdS, hnS⟩ := Cond.laysAt hfound hk Y.stack (hw (.lays nsN Bundle.tN "stackTrace" Bundle.steD) (by simp [nsW]))
  obtain ⟨tyP, dP, hdP, hnP⟩ := Cond.laysAt hfound hk Y.supp (hw (.lays nsN Bundle.tN "suppressedExceptions" Bundle.listD) (by simp [nsW]))
  obtain ⟨tyM, dM, hdM, hnM⟩ := Cond.laysAt hfound hk hffM (hw (.lays nsN Bundle.tN "detailMessage" "Ljava/lang/String;") (by simp [nsW]))
  obtain ⟨tyB, dB, hdB, hnB2⟩ := Cond.laysAt hfound hk hffB (hw (.lays nsN Bundle.tN "backtrace" "Ljava/lang/Object;") (by simp [nsW]))
  have bC := Cond.laysApart hdB hdC hnB2 hnC (by rw [hnB, Y.causeName]; decide)
  have bS := Cond.laysApart hdB hdS hnB2 hnS (by rw [hnB, Y.stackName]; decide)
  have bP := Cond.laysApart hdB hdP hnB2 hnP (by rw [hnB, Y.suppName]; decide)
  have hskip : SkipFacts T e.platform s (fun u => u) u0 ((preparedCellV T.toThrowableT (freshCell P1.m.cls kX) a u0 sen).withEntry U0.cur) := by
    refine ⟨{ ci198 := ci, i198 := ip, fBack := fB }, ⟨hb1, hb2, hb3, hb4⟩, ?_, fun _ _ => rfl⟩
    have q := fresh_default (c := P1.m.cls) tyB
    rw [htB] at q
    simpa [preparedCellV, Cell.setSlot, Cell.withEntry, Array.getElem?_setIfInBounds, bC, bS, bP, bC.symm, bS.symm, bP.symm, defaultValue] using q
  -- the call, its passes, the throw
  obtain ⟨tm, mt, cd, k9, vm₁, hnm, -, -, -, -, -, -, -, hW₁, st1⟩ := Steps.initColdS (tb := p.tables) (e := e) (below := below) (s := s) (U := U0) X.here hexec X.warmed hpl hown (t := Bundle.initS nsN) rfl rfl (by decide +kernel)
    (hw (.methodLink RX0 68 (Bundle.initS nsN)) (by simp [nsW])) (h (.instanceMethod (Bundle.initS nsN)) (nsA_p (by simp [Bundle.passSAtoms]))) (bytes := nsB) (maxL := 2) (h (.code (Bundle.initS nsN) nsB 2 none) (nsA_p (by simp [Bundle.passSAtoms]))) (f := g) hg (a := a) (msg := msg) (rest := .ref a :: rest) hstack hd6
  cases Option.some.inj (hnm.symm.trans hm1)
  have X₁ := X.noted hW₁
  obtain ⟨vm₂, X₂, st2⟩ := X₁.ctorMessageOffV hexec (g := { g with stack := .ref a :: rest }) hg hsize T LT Z LZ M LM (P1 :: P2 :: Ps)
    (fun P hP => by
      rcases List.mem_cons.mp hP with rfl | hP
      · exact L1
      · rcases List.mem_cons.mp hP with rfl | hP
        · exact L2
        · exact hLs P hP) ⟨hsup1, hsup2, hpass⟩ (u0 := u0) (sen := sen) (self := a) hmsg (cell := freshCell P1.m.cls kX) (cellS := cS)
    hcell (fun _ => by simp) (by simp) rfl rfl hsel0 hselF hcS hneS hkS (by rw [hkeep _ (fun q => nomatch q)]; exact hu0) (by rw [hkeep _ (fun q => nomatch q)]; exact hsen)
    (Takes.of_laid hk hord tyC (by rw [Y.causeType]; rfl)) (Takes.of_laid hk hord tyS (by rw [Y.stackType]; exact fits_refV_array _ u0)) (Takes.of_laid hk hord tyP (by rw [Y.suppType]; exact fits_refV_object _ sen))
    (Takes.of_laid hk hord tyM (by rw [Y.msgType]; exact fits_refV_object _ ⟨msg, hmsg⟩)) Y.objLocals hskip htr [] hd6
    (by simp only [List.length_cons, hlen, List.length_nil]; omega) (by simp only [List.length_cons, hlen, List.length_nil]; exact hRl)
  obtain ⟨hwalk, hrun, hended, hWU, hsame⟩ := X₂.athrowLeaves hexec (g := { g with stack := .ref a :: rest, pc := g.pc + 3 }) hg hlocked hentered hout (a := a) (rest := rest) rfl hd9
  have hlt : a < ((U0.setVm vm₁).setVm vm₂).heap.size := (Array.getElem?_eq_some_iff.mp hcell).1
  have hU := heapAt_setCell_self (s := (U0.setVm vm₁).setVm vm₂) (plainBareV T.toThrowableT (freshCell P1.m.cls kX) a u0 sen msg) hlt
  refine ⟨_, st1 _ (fun acts => ?_), hrun, hended, hWU, hsame.weaken (fun y hy hlt' => ?_) (Nat.le_refl _) (Nat.le_refl _), _, hU, rfl, hfound⟩
  · rw [doInvoke_state]
    exact st2 _ hwalk
  · exfalso
    have hb : y.base = a := by
      simp only [List.nil_append, List.mem_cons, List.not_mem_nil, or_false] at hy
      rcases hy with rfl | rfl | rfl | rfl | rfl <;> rfl
    rw [hb] at hlt'
    exact Nat.not_lt.mpr hnew hlt'
end NSE
set_option maxRecDepth 20000 in
theorem at_ns : ∀ w ∈ (nsA.filter vx_no).filter goodWord, w ∈ lw_tbl := by decide +kernel
set_option maxRecDepth 20000 in
theorem gd_ns : ∀ w ∈ Cond.classLink RX0 64 nsN :: Cond.initialized nsN :: nsA.filter vx_no, vx_ot w = true := by decide +kernel
theorem hat_ns {x : Cond} {args : Array Value} {s : State} (hts : ∀ w ∈ x :: ALL, w.before args s = true) (hz : zs s) : ∀ w ∈ nsA.filter vx_no, w.before args s = true :=
  vx_hat (B := [.castable nsN nsN, .declares ⟨"java/lang/RuntimeException", "<init>", "(Ljava/lang/String;)V"⟩, .declares ⟨"java/lang/Exception", "<init>", "(Ljava/lang/String;)V"⟩, .declares ⟨"java/lang/Throwable", "<init>", "(Ljava/lang/String;)V"⟩]) (fun w hw => hts w (wm (List.mem_filter.mpr ⟨at_ns w hw, (List.mem_filter.mp hw).2⟩))) (by decide +kernel)
    (vx_c (va_Nw.use rfl (hz.2.1 _ (by decide))) (vx_c (va_Nw.use rfl (hz.2.2.1 _ (by decide))) (vx_c (va_Nw.use rfl (hz.2.2.1 _ (by decide))) (vx_c (va_Nw.use rfl (hz.2.2.1 _ (by decide))) vx_n))))
theorem ns_k : (Cond.classLink RX0 64 nsN) ∈ ALL := al_in (i := 205) (by decide +kernel) (by decide +kernel)
theorem ns_i : (Cond.initialized nsN) ∈ ALL := al_in (i := 19) (by decide +kernel) (by decide +kernel)
section NSF
variable {p : Program} {l : Launch} {e : Env} {R : Room} {s : State} {m : MethodId} {args : Array Value} {below : List Frame} {meth : Method} {c : Code} {H : Heap} {locs : List Loc} {cells slots : Nat}
variable {cc : ByteArray} {pc : Nat} {ls : Array Slot} {D : va_G} {A : Nat → Prop} {tys : List (ClassId × FieldType)} {w2 : va_W} {mc ms : Nat}
set_option maxHeartbeats 1000000 in
theorem fx_nse {x : Cond} {Qc : Array Value → State → Outcome → State → Prop} {ψ : String → Prop} (hexec : p.tables.exec = Jvm.exec) (hb : c.code = cc) (hl : l.stackTraces = false)
    (hown : s.vm.findClass RX0 = some m.cls) (hts : ∀ w ∈ x :: ALL, w.before args s = true)
    (hZ : zx A s s.heap) (hS : va_S A s.heap H locs) (hsize : ls.size = c.maxLocals)
    (d0 : decode cc pc = .ok (.new 64, 3)) (d3 : decode cc (pc + 3) = .ok (.dup, 1)) (d4 : decode cc (pc + 4) = .ok (.ldc 66, 2)) (d6 : decode cc (pc + 6) = .ok (.invokespecial 68, 3)) (d9 : decode cc (pc + 9) = .ok (.athrow, 1))
    (ht9 : ∀ x ∈ c.exceptionTable.toList, False) (hRf : 5 < R.frames) (hRl : 82 ≤ R.locals) (hRc : cells + 1 ≤ R.cells) (hRs : slots + 6 ≤ R.slots) (hlocks : meth.locks = false) (hc : cells + 1 ≤ mc) (hs : slots + 6 ≤ ms)
    (hψ : ψ "java/util/NoSuchElementException") (hP : va_P D vwCl w2 H) (hK : va_K D vwCl tys s) (hD : va_D A w2) :
    W p l e R s m args below meth c H locs cells slots (vx_MQ below Qc (cX D tys ψ w2 A) args s mc ms A) (F0 m pc ls []) := by
  obtain ⟨sa, hsa⟩ := hZ.2.2.1 (66, "no such key") (by decide)
  have hx : ∀ t : State, s.vm.Alike t.vm → H.size ≤ t.heap.size → (∀ q : Nat, q < H.size → t.heap[q]? = H[q]?) → cX D tys ψ w2 A nsN s t :=
    fun t ha hsz hk9 => ⟨(), trivial, ⟨hψ, hP.kept (fun k q hq => hk9 q.1 (hP k q hq).lt), va_K.moved ha hK, hD⟩, Nat.le_trans hS.1 hsz, fun q h1 h2 => (hk9 q (Nat.lt_of_lt_of_le h1 hS.1)).trans (hS.2.1 q h1 h2)⟩
  intro T hT X
  have htr : e.platform.stackTraces = false := (show e.platform.stackTraces = l.stackTraces by rw [X.admits.platform]).trans hl
  -- the same frame, as if the method began in this heap
  have Y := vx_rebase X (R' := { frames := R.frames, locals := R.locals, cells := 1, slots := 6 }) (Nat.le_refl _) (Nat.le_refl _) hRc hRs
  obtain ⟨s', hA⟩ : ∃ z, z = (T.setVm s.vm).setFrames (.invoking m args :: below) := ⟨_, rfl⟩
  rw [← hA] at Y
  have hvm : s'.vm = s.vm := by rw [hA]; rfl
  have hhp : s'.heap = H := by rw [hA]; exact hT
  have hW0 : s.WarmedH s'.vm := by rw [hvm]; exact State.WarmedH.refl s
  have mv : ∀ w : Cond, vx_ot w = true → w.before args s = true → w.before args s' = true := fun w g q => vx_ot_at hW0 hvm.symm g q
  have hk' : (Cond.classLink RX0 64 nsN).before args s' = true := mv _ (gd_ns _ List.mem_cons_self) (hts _ (wm ns_k))
  have hi' : (Cond.initialized nsN).before args s' = true := mv _ (gd_ns _ (List.mem_cons_of_mem _ List.mem_cons_self)) (hts _ (wm ns_i))
  have hU' : vx_Zq Bundle.tN "UNASSIGNED_STACK" Bundle.steD A s' s'.heap := by rw [hhp]; exact vx_Zq.moved hW0.alike (hZ.1.kept hS.2.1)
  have hN' : vx_Zq Bundle.tN "SUPPRESSED_SENTINEL" Bundle.listD A s' s'.heap := by rw [hhp]; exact vx_Zq.moved hW0.alike (hZ.2.1.kept hS.2.1)
  have h : ∀ w ∈ nsA, w.before args s' = true := vx_own (fun w hw => mv w (gd_ns w (List.mem_cons_of_mem _ (List.mem_cons_of_mem _ hw))) (hat_ns hts hZ.2.2 w hw)) (vx_isRefq hU'.1) (vx_isRefq hN'.1) hU'.2.word hN'.2.word
  have hown' : s'.vm.findClass RX0 = some m.cls := by rw [hvm]; exact hown
  have hins : (Cond.instantiable nsN 6).before args s' = true := h _ (nsA_w (by simp [nsW]))
  obtain ⟨vm₁, cX9, kX, hfX, hkX, -, -, X₁, st1⟩ := Y.newCold hexec (own := RX0) (C := nsN) (index := 64) (n := 6) hown' hk' hins hi' (g := F0 m pc ls []) rfl (by rw [hb]; exact d0) (Nat.le_refl _) (Nat.le_refl _)
  generalize hT1 : (T.setVm vm₁).pushCell { cls := cX9, slots := kX.instanceTypes.map defaultValue, vm := .none } = T1 at X₁ st1
  have hcat : (Value.ref T.heap.size).category = 1 := rfl
  have hcellA : T1.heap[T.heap.size]? = some (freshCell cX9 kX) := by rw [← hT1]; exact State.heap_pushCell_size _ _
  have d3' : decode c.code (pc + 3) = .ok (.dup, 1) := by rw [hb]; exact d3
  have d4' : decode c.code (pc + 4) = .ok (.ldc 66, 2) := by rw [hb]; exact d4
  have hsa' : vk_R RX0 66 "no such key" sa s' := vk_R.warm hW0 hsa
  obtain ⟨U, hsteps, hrun, hend, hWU, hsame, ce, hce, hcv, hcc⟩ := ns_ctor X₁ hexec htr hown' h hfX hkX hcellA (by rw [hhp, hT]; exact Nat.le_refl _) (msg := .ref sa) rfl
    (g := { method := m, pc := pc + 6, locals := ls, stack := .ref sa :: .ref T.heap.size :: .ref T.heap.size :: [], locked := none }) rfl hsize rfl rfl (rest := []) rfl
    (by rw [hb]; exact d6) (by rw [hb]; exact d9) (fun x hx => (ht9 x hx).elim) hRf (by simp only [List.map_cons, List.sum_cons, hcat, List.map_nil, List.sum_nil]; exact hRl) hlocks
  obtain ⟨f1, f2⟩ := vx_frame hsame
  rw [hhp] at f1 f2
  have hWs : s.WarmedH U.vm := State.WarmedH.trans hW0 hWU
  have hcl : s.vm.findClass nsN = some ce.cls := by
    rw [hvm] at hcc
    exact hcc
  have hall : s.sameButNew ({ U with vm := s.vm } : State) locs mc ms := by
    subst hA
    obtain ⟨e1, e2⟩ := hsame
    rw [State.setFrames_setFrames] at e1
    have q2 : (T.setVm s.vm).sameButNew ({ U with vm := s.vm } : State) [] (0 + 1) (0 + 6) := ⟨e1, e2⟩
    have q3 := X.same.trans q2
    rw [List.append_nil] at q3
    exact q3.mono hc hs
  refine ⟨U, ?_, .threw T.heap.size, hrun, hend, Or.inr ⟨T.heap.size, rfl, nsN, ce, locs, hx U hWs.alike f1 (fun q hq => f2 q hq (fun z hz => nomatch hz)), hce, hcv, hcl, hWs, hall, hS.2.2⟩⟩
  refine st1 _ ?_
  show Steps p.tables e below (T1.setTop { method := m, pc := pc + 3, locals := ls, stack := .ref T.heap.size :: [], locked := none }) _
  jvm_step X₁.here [X₁.here.top, hexec, d3', Value.category]
  exact X₁.ldcString hexec (own := RX0) (text := "no such key") (index := 66) (a := sa) hown' hsa'.1 hsa'.2
    (g := { method := m, pc := pc + 4, locals := ls, stack := .ref T.heap.size :: .ref T.heap.size :: [], locked := none }) rfl d4' _ hsteps
end NSF
end
section
set_option maxRecDepth 20000 in
theorem mb_0 : (.classLink RX0 34 "java/lang/IllegalArgumentException" : Cond) ∈ ALL := al_in (i := 82) (by decide +kernel) (by decide +kernel)
set_option maxRecDepth 20000 in
theorem mb_1 : (.initialized "java/lang/IllegalArgumentException" : Cond) ∈ ALL := al_in (i := 17) (by decide +kernel) (by decide +kernel)
set_option maxRecDepth 20000 in
theorem mb_2 : (.fieldLink RX0 16 "LinkedIndex" "keyCount" "I" : Cond) ∈ ALL := al_in (i := 31) (by decide +kernel) (by decide +kernel)
set_option maxRecDepth 20000 in
theorem mb_3 : (.classLink RX0 81 "java/lang/IndexOutOfBoundsException" : Cond) ∈ ALL := al_in (i := 258) (by decide +kernel) (by decide +kernel)
set_option maxRecDepth 20000 in
theorem mb_4 : (.initialized "java/lang/IndexOutOfBoundsException" : Cond) ∈ ALL := al_in (i := 20) (by decide +kernel) (by decide +kernel)
set_option maxRecDepth 20000 in
theorem mb_5 : (.fieldLink RX0 20 "LinkedIndex" "slotKinds" "[I" : Cond) ∈ ALL := al_in (i := 32) (by decide +kernel) (by decide +kernel)
set_option maxRecDepth 20000 in
theorem mb_6 : (.classLink RX0 41 "java/lang/IllegalStateException" : Cond) ∈ ALL := al_in (i := 152) (by decide +kernel) (by decide +kernel)
set_option maxRecDepth 20000 in
theorem mb_7 : (.initialized "java/lang/IllegalStateException" : Cond) ∈ ALL := al_in (i := 18) (by decide +kernel) (by decide +kernel)
set_option maxRecDepth 20000 in
theorem mb_8 : (.fieldLink RX0 9 "LinkedIndex" "keys" "[J" : Cond) ∈ ALL := al_in (i := 29) (by decide +kernel) (by decide +kernel)
set_option maxRecDepth 20000 in
theorem mb_9 : (.fieldLink RX0 13 "LinkedIndex" "values" "[J" : Cond) ∈ ALL := al_in (i := 30) (by decide +kernel) (by decide +kernel)
set_option maxRecDepth 20000 in
theorem mb_10 : (.methodLink RX0 30 yX0_requireSlot : Cond) ∈ ALL := al_in (i := 79) (by decide +kernel) (by decide +kernel)
set_option maxRecDepth 20000 in
theorem mb_11 : (.static yX0_requireSlot : Cond) ∈ ALL := al_in (i := 80) (by decide +kernel) (by decide +kernel)
set_option maxRecDepth 20000 in
theorem mb_12 : (.initialized RX0 : Cond) ∈ ALL := al_in (i := 12) (by decide +kernel) (by decide +kernel)
set_option maxRecDepth 20000 in
theorem mb_13 : (.code yX0_requireSlot cX0_requireSlot 1 none : Cond) ∈ ALL := al_in (i := 81) (by decide +kernel) (by decide +kernel)
set_option maxRecDepth 20000 in
theorem mb_14 : (.fieldLink RX0 24 "LinkedIndex" "slotKeys" "[J" : Cond) ∈ ALL := al_in (i := 33) (by decide +kernel) (by decide +kernel)
set_option maxRecDepth 20000 in
theorem mb_15 : (.fieldLink RX0 27 "LinkedIndex" "slotValues" "[J" : Cond) ∈ ALL := al_in (i := 34) (by decide +kernel) (by decide +kernel)
set_option maxRecDepth 20000 in
theorem mb_16 : (.methodLink RX0 46 yX0_requireSteps : Cond) ∈ ALL := al_in (i := 175) (by decide +kernel) (by decide +kernel)
set_option maxRecDepth 20000 in
theorem mb_17 : (.static yX0_requireSteps : Cond) ∈ ALL := al_in (i := 176) (by decide +kernel) (by decide +kernel)
set_option maxRecDepth 20000 in
theorem mb_18 : (.code yX0_requireSteps cX0_requireSteps 1 none : Cond) ∈ ALL := al_in (i := 177) (by decide +kernel) (by decide +kernel)
set_option maxRecDepth 20000 in
theorem mb_19 : (.methodLink RX0 49 yX0_requireOperation : Cond) ∈ ALL := al_in (i := 179) (by decide +kernel) (by decide +kernel)
set_option maxRecDepth 20000 in
theorem mb_20 : (.instanceMethod yX0_requireOperation : Cond) ∈ ALL := al_in (i := 181) (by decide +kernel) (by decide +kernel)
set_option maxRecDepth 20000 in
theorem mb_21 : (.selects RX0 yX0_requireOperation yX0_requireOperation : Cond) ∈ ALL := al_in (i := 2) (by decide +kernel) (by decide +kernel)
set_option maxRecDepth 20000 in
theorem mb_22 : (.code yX0_requireOperation cX0_requireOperation 2 none : Cond) ∈ ALL := al_in (i := 182) (by decide +kernel) (by decide +kernel)
set_option maxRecDepth 20000 in
theorem mb_23 : (.methodLink RX0 72 yX0_requirePlace : Cond) ∈ ALL := al_in (i := 254) (by decide +kernel) (by decide +kernel)
set_option maxRecDepth 20000 in
theorem mb_24 : (.instanceMethod yX0_requirePlace : Cond) ∈ ALL := al_in (i := 256) (by decide +kernel) (by decide +kernel)
set_option maxRecDepth 20000 in
theorem mb_25 : (.selects RX0 yX0_requirePlace yX0_requirePlace : Cond) ∈ ALL := al_in (i := 7) (by decide +kernel) (by decide +kernel)
set_option maxRecDepth 20000 in
theorem mb_26 : (.code yX0_requirePlace cX0_requirePlace 2 none : Cond) ∈ ALL := al_in (i := 257) (by decide +kernel) (by decide +kernel)
set_option maxRecDepth 20000 in
theorem mb_27 : (.methodLink RX0 52 yX0_placeOf : Cond) ∈ ALL := al_in (i := 62) (by decide +kernel) (by decide +kernel)
set_option maxRecDepth 20000 in
theorem mb_28 : (.instanceMethod yX0_placeOf : Cond) ∈ ALL := al_in (i := 64) (by decide +kernel) (by decide +kernel)
set_option maxRecDepth 20000 in
theorem mb_29 : (.selects RX0 yX0_placeOf yX0_placeOf : Cond) ∈ ALL := al_in (i := 0) (by decide +kernel) (by decide +kernel)
set_option maxRecDepth 20000 in
theorem mb_30 : (.code yX0_placeOf cX0_placeOf 4 (some .int) : Cond) ∈ ALL := al_in (i := 65) (by decide +kernel) (by decide +kernel)
set_option maxRecDepth 20000 in
theorem mb_31 : (.methodLink RX0 60 yX0_isAt : Cond) ∈ ALL := al_in (i := 196) (by decide +kernel) (by decide +kernel)
set_option maxRecDepth 20000 in
theorem mb_32 : (.instanceMethod yX0_isAt : Cond) ∈ ALL := al_in (i := 198) (by decide +kernel) (by decide +kernel)
set_option maxRecDepth 20000 in
theorem mb_33 : (.selects RX0 yX0_isAt yX0_isAt : Cond) ∈ ALL := al_in (i := 4) (by decide +kernel) (by decide +kernel)
set_option maxRecDepth 20000 in
theorem mb_34 : (.code yX0_isAt cX0_isAt 4 (some .boolean) : Cond) ∈ ALL := al_in (i := 199) (by decide +kernel) (by decide +kernel)
set_option maxRecDepth 20000 in
theorem mb_35 : (.methodLink RX0 86 yX0_openGap : Cond) ∈ ALL := al_in (i := 201) (by decide +kernel) (by decide +kernel)
set_option maxRecDepth 20000 in
theorem mb_36 : (.instanceMethod yX0_openGap : Cond) ∈ ALL := al_in (i := 203) (by decide +kernel) (by decide +kernel)
set_option maxRecDepth 20000 in
theorem mb_37 : (.selects RX0 yX0_openGap yX0_openGap : Cond) ∈ ALL := al_in (i := 5) (by decide +kernel) (by decide +kernel)
set_option maxRecDepth 20000 in
theorem mb_38 : (.code yX0_openGap cX0_openGap 3 none : Cond) ∈ ALL := al_in (i := 204) (by decide +kernel) (by decide +kernel)
set_option maxRecDepth 20000 in
theorem mb_39 : (.methodLink RX0 69 yX0_closeGap : Cond) ∈ ALL := al_in (i := 221) (by decide +kernel) (by decide +kernel)
set_option maxRecDepth 20000 in
theorem mb_40 : (.instanceMethod yX0_closeGap : Cond) ∈ ALL := al_in (i := 223) (by decide +kernel) (by decide +kernel)
set_option maxRecDepth 20000 in
theorem mb_41 : (.selects RX0 yX0_closeGap yX0_closeGap : Cond) ∈ ALL := al_in (i := 6) (by decide +kernel) (by decide +kernel)
set_option maxRecDepth 20000 in
theorem mb_42 : (.code yX0_closeGap cX0_closeGap 3 none : Cond) ∈ ALL := al_in (i := 224) (by decide +kernel) (by decide +kernel)
set_option maxRecDepth 20000 in
theorem mb_43 : (.methodLink RX0 56 yX0_finishPut : Cond) ∈ ALL := al_in (i := 192) (by decide +kernel) (by decide +kernel)
set_option maxRecDepth 20000 in
theorem mb_44 : (.instanceMethod yX0_finishPut : Cond) ∈ ALL := al_in (i := 194) (by decide +kernel) (by decide +kernel)
set_option maxRecDepth 20000 in
theorem mb_45 : (.selects RX0 yX0_finishPut yX0_finishPut : Cond) ∈ ALL := al_in (i := 3) (by decide +kernel) (by decide +kernel)
set_option maxRecDepth 20000 in
theorem mb_46 : (.code yX0_finishPut cX0_finishPut 4 (some .long) : Cond) ∈ ALL := al_in (i := 195) (by decide +kernel) (by decide +kernel)
set_option maxRecDepth 20000 in
theorem mb_47 : (.fieldLink RX1 26 "LinkedIndexModel" "code" "I" : Cond) ∈ ALL := al_in (i := 286) (by decide +kernel) (by decide +kernel)
set_option maxRecDepth 20000 in
theorem mb_48 : (.methodLink RX1 30 yX1_isSlot : Cond) ∈ ALL := al_in (i := 316) (by decide +kernel) (by decide +kernel)
set_option maxRecDepth 20000 in
theorem mb_49 : (.static yX1_isSlot : Cond) ∈ ALL := al_in (i := 317) (by decide +kernel) (by decide +kernel)
set_option maxRecDepth 20000 in
theorem mb_50 : (.initialized RX1 : Cond) ∈ ALL := al_in (i := 13) (by decide +kernel) (by decide +kernel)
set_option maxRecDepth 20000 in
theorem mb_51 : (.code yX1_isSlot cX1_isSlot 1 (some .boolean) : Cond) ∈ ALL := al_in (i := 318) (by decide +kernel) (by decide +kernel)
set_option maxRecDepth 20000 in
theorem mb_52 : (.fieldLink RX1 16 "LinkedIndexModel" "kinds" "[I" : Cond) ∈ ALL := al_in (i := 290) (by decide +kernel) (by decide +kernel)
set_option maxRecDepth 20000 in
theorem mb_53 : (.fieldLink RX1 20 "LinkedIndexModel" "asked" "[J" : Cond) ∈ ALL := al_in (i := 291) (by decide +kernel) (by decide +kernel)
set_option maxRecDepth 20000 in
theorem mb_54 : (.fieldLink RX1 23 "LinkedIndexModel" "given" "[J" : Cond) ∈ ALL := al_in (i := 292) (by decide +kernel) (by decide +kernel)
set_option maxRecDepth 20000 in
theorem mb_55 : (.fieldLink RX1 34 "LinkedIndexModel" "size" "I" : Cond) ∈ ALL := al_in (i := 287) (by decide +kernel) (by decide +kernel)
set_option maxRecDepth 20000 in
theorem mb_56 : (.fieldLink RX1 7 "LinkedIndexModel" "keys" "[J" : Cond) ∈ ALL := al_in (i := 288) (by decide +kernel) (by decide +kernel)
set_option maxRecDepth 20000 in
theorem mb_57 : (.fieldLink RX1 13 "LinkedIndexModel" "values" "[J" : Cond) ∈ ALL := al_in (i := 289) (by decide +kernel) (by decide +kernel)
set_option maxRecDepth 20000 in
theorem mb_58 : (.methodLink RX1 37 yX1_rank : Cond) ∈ ALL := al_in (i := 327) (by decide +kernel) (by decide +kernel)
set_option maxRecDepth 20000 in
theorem mb_59 : (.instanceMethod yX1_rank : Cond) ∈ ALL := al_in (i := 329) (by decide +kernel) (by decide +kernel)
set_option maxRecDepth 20000 in
theorem mb_60 : (.selects RX1 yX1_rank yX1_rank : Cond) ∈ ALL := al_in (i := 8) (by decide +kernel) (by decide +kernel)
set_option maxRecDepth 20000 in
theorem mb_61 : (.code yX1_rank cX1_rank 4 (some .int) : Cond) ∈ ALL := al_in (i := 330) (by decide +kernel) (by decide +kernel)
set_option maxRecDepth 20000 in
theorem mb_62 : (.methodLink RX1 41 yX1_put : Cond) ∈ ALL := al_in (i := 331) (by decide +kernel) (by decide +kernel)
set_option maxRecDepth 20000 in
theorem mb_63 : (.instanceMethod yX1_put : Cond) ∈ ALL := al_in (i := 333) (by decide +kernel) (by decide +kernel)
set_option maxRecDepth 20000 in
theorem mb_64 : (.selects RX1 yX1_put yX1_put : Cond) ∈ ALL := al_in (i := 9) (by decide +kernel) (by decide +kernel)
set_option maxRecDepth 20000 in
theorem mb_65 : (.code yX1_put cX1_put 8 (some .long) : Cond) ∈ ALL := al_in (i := 334) (by decide +kernel) (by decide +kernel)
set_option maxRecDepth 20000 in
theorem mb_66 : (.methodLink RX1 45 yX1_take : Cond) ∈ ALL := al_in (i := 335) (by decide +kernel) (by decide +kernel)
set_option maxRecDepth 20000 in
theorem mb_67 : (.instanceMethod yX1_take : Cond) ∈ ALL := al_in (i := 337) (by decide +kernel) (by decide +kernel)
set_option maxRecDepth 20000 in
theorem mb_68 : (.selects RX1 yX1_take yX1_take : Cond) ∈ ALL := al_in (i := 10) (by decide +kernel) (by decide +kernel)
set_option maxRecDepth 20000 in
theorem mb_69 : (.code yX1_take cX1_take 5 (some .long) : Cond) ∈ ALL := al_in (i := 338) (by decide +kernel) (by decide +kernel)
set_option maxRecDepth 20000 in
theorem mb_70 : (.methodLink RL 7 yX0_begin : Cond) ∈ ALL := al_in (i := 75) (by decide +kernel) (by decide +kernel)
set_option maxRecDepth 20000 in
theorem mb_71 : (.instanceMethod yX0_begin : Cond) ∈ ALL := al_in (i := 76) (by decide +kernel) (by decide +kernel)
set_option maxRecDepth 20000 in
theorem mb_72 : (.selects RX0 yX0_begin yX0_begin : Cond) ∈ ALL := al_in (i := 77) (by decide +kernel) (by decide +kernel)
set_option maxRecDepth 20000 in
theorem mb_73 : (.code yX0_begin cX0_begin 7 none : Cond) ∈ ALL := al_in (i := 78) (by decide +kernel) (by decide +kernel)
set_option maxRecDepth 20000 in
theorem mb_74 : (.classLink RL 13 "java/lang/IllegalArgumentException" : Cond) ∈ ALL := al_in (i := 73) (by decide +kernel) (by decide +kernel)
set_option maxRecDepth 20000 in
theorem mb_75 : (.classLink RL 15 "java/lang/IllegalStateException" : Cond) ∈ ALL := al_in (i := 74) (by decide +kernel) (by decide +kernel)
set_option maxRecDepth 20000 in
theorem mb_76 : (.methodLink RL 17 yX0_step : Cond) ∈ ALL := al_in (i := 171) (by decide +kernel) (by decide +kernel)
set_option maxRecDepth 20000 in
theorem mb_77 : (.instanceMethod yX0_step : Cond) ∈ ALL := al_in (i := 172) (by decide +kernel) (by decide +kernel)
set_option maxRecDepth 20000 in
theorem mb_78 : (.selects RX0 yX0_step yX0_step : Cond) ∈ ALL := al_in (i := 173) (by decide +kernel) (by decide +kernel)
set_option maxRecDepth 20000 in
theorem mb_79 : (.code yX0_step cX0_step 3 none : Cond) ∈ ALL := al_in (i := 174) (by decide +kernel) (by decide +kernel)
set_option maxRecDepth 20000 in
theorem mb_80 : (.methodLink RL 21 yX0_finish : Cond) ∈ ALL := al_in (i := 188) (by decide +kernel) (by decide +kernel)
set_option maxRecDepth 20000 in
theorem mb_81 : (.instanceMethod yX0_finish : Cond) ∈ ALL := al_in (i := 189) (by decide +kernel) (by decide +kernel)
set_option maxRecDepth 20000 in
theorem mb_82 : (.selects RX0 yX0_finish yX0_finish : Cond) ∈ ALL := al_in (i := 190) (by decide +kernel) (by decide +kernel)
set_option maxRecDepth 20000 in
theorem mb_83 : (.code yX0_finish cX0_finish 7 (some .long) : Cond) ∈ ALL := al_in (i := 191) (by decide +kernel) (by decide +kernel)
set_option maxRecDepth 20000 in
theorem mb_84 : (.classLink RL 25 "java/util/NoSuchElementException" : Cond) ∈ ALL := al_in (i := 187) (by decide +kernel) (by decide +kernel)
set_option maxRecDepth 20000 in
theorem mb_85 : (.methodLink RL 27 yX0_drop : Cond) ∈ ALL := al_in (i := 228) (by decide +kernel) (by decide +kernel)
set_option maxRecDepth 20000 in
theorem mb_86 : (.instanceMethod yX0_drop : Cond) ∈ ALL := al_in (i := 229) (by decide +kernel) (by decide +kernel)
set_option maxRecDepth 20000 in
theorem mb_87 : (.selects RX0 yX0_drop yX0_drop : Cond) ∈ ALL := al_in (i := 230) (by decide +kernel) (by decide +kernel)
set_option maxRecDepth 20000 in
theorem mb_88 : (.code yX0_drop cX0_drop 3 (some .boolean) : Cond) ∈ ALL := al_in (i := 231) (by decide +kernel) (by decide +kernel)
set_option maxRecDepth 20000 in
theorem mb_89 : (.methodLink RL 31 yX0_tidy : Cond) ∈ ALL := al_in (i := 235) (by decide +kernel) (by decide +kernel)
set_option maxRecDepth 20000 in
theorem mb_90 : (.instanceMethod yX0_tidy : Cond) ∈ ALL := al_in (i := 236) (by decide +kernel) (by decide +kernel)
set_option maxRecDepth 20000 in
theorem mb_91 : (.selects RX0 yX0_tidy yX0_tidy : Cond) ∈ ALL := al_in (i := 237) (by decide +kernel) (by decide +kernel)
set_option maxRecDepth 20000 in
theorem mb_92 : (.code yX0_tidy cX0_tidy 2 none : Cond) ∈ ALL := al_in (i := 238) (by decide +kernel) (by decide +kernel)
set_option maxRecDepth 20000 in
theorem mb_93 : (.methodLink RL 35 yX0_kind : Cond) ∈ ALL := al_in (i := 242) (by decide +kernel) (by decide +kernel)
set_option maxRecDepth 20000 in
theorem mb_94 : (.instanceMethod yX0_kind : Cond) ∈ ALL := al_in (i := 243) (by decide +kernel) (by decide +kernel)
set_option maxRecDepth 20000 in
theorem mb_95 : (.selects RX0 yX0_kind yX0_kind : Cond) ∈ ALL := al_in (i := 244) (by decide +kernel) (by decide +kernel)
set_option maxRecDepth 20000 in
theorem mb_96 : (.code yX0_kind cX0_kind 2 (some .int) : Cond) ∈ ALL := al_in (i := 245) (by decide +kernel) (by decide +kernel)
set_option maxRecDepth 20000 in
theorem mb_97 : (.methodLink RL 39 yX0_key : Cond) ∈ ALL := al_in (i := 250) (by decide +kernel) (by decide +kernel)
set_option maxRecDepth 20000 in
theorem mb_98 : (.instanceMethod yX0_key : Cond) ∈ ALL := al_in (i := 251) (by decide +kernel) (by decide +kernel)
set_option maxRecDepth 20000 in
theorem mb_99 : (.selects RX0 yX0_key yX0_key : Cond) ∈ ALL := al_in (i := 252) (by decide +kernel) (by decide +kernel)
set_option maxRecDepth 20000 in
theorem mb_100 : (.code yX0_key cX0_key 2 (some .long) : Cond) ∈ ALL := al_in (i := 253) (by decide +kernel) (by decide +kernel)
set_option maxRecDepth 20000 in
theorem mb_101 : (.classLink RL 42 "java/lang/IndexOutOfBoundsException" : Cond) ∈ ALL := al_in (i := 249) (by decide +kernel) (by decide +kernel)
set_option maxRecDepth 20000 in
theorem mb_102 : (.methodLink RL 44 yX0_value : Cond) ∈ ALL := al_in (i := 276) (by decide +kernel) (by decide +kernel)
set_option maxRecDepth 20000 in
theorem mb_103 : (.instanceMethod yX0_value : Cond) ∈ ALL := al_in (i := 277) (by decide +kernel) (by decide +kernel)
set_option maxRecDepth 20000 in
theorem mb_104 : (.selects RX0 yX0_value yX0_value : Cond) ∈ ALL := al_in (i := 278) (by decide +kernel) (by decide +kernel)
set_option maxRecDepth 20000 in
theorem mb_105 : (.code yX0_value cX0_value 2 (some .long) : Cond) ∈ ALL := al_in (i := 279) (by decide +kernel) (by decide +kernel)
set_option maxRecDepth 20000 in
theorem mb_106 : (.methodLink RX0 1 objectInit : Cond) ∈ ALL := al_in (i := 26) (by decide +kernel) (by decide +kernel)
set_option maxRecDepth 20000 in
theorem mb_107 : (.instanceMethod objectInit : Cond) ∈ ALL := al_in (i := 27) (by decide +kernel) (by decide +kernel)
set_option maxRecDepth 20000 in
theorem mb_108 : (.code objectInit ⟨#[0xb1]⟩ 1 none : Cond) ∈ ALL := al_in (i := 28) (by decide +kernel) (by decide +kernel)
set_option maxRecDepth 20000 in
theorem mb_109 : (.arrayClass .long : Cond) ∈ ALL := al_in (i := 48) (by decide +kernel) (by decide +kernel)
set_option maxRecDepth 20000 in
theorem mb_110 : (.arrayClass .int : Cond) ∈ ALL := al_in (i := 49) (by decide +kernel) (by decide +kernel)
set_option maxRecDepth 20000 in
theorem mb_111 : (.methodLink RX1 1 objectInit : Cond) ∈ ALL := al_in (i := 285) (by decide +kernel) (by decide +kernel)
set_option maxRecDepth 20000 in
theorem mb_112 : (.constantLong RL 51 (4294967295) : Cond) ∈ ALL := al_in (i := 375) (by decide +kernel) (by decide +kernel)
set_option maxRecDepth 20000 in
theorem mb_113 : (.methodLink RL 53 yL_begin : Cond) ∈ ALL := al_in (i := 70) (by decide +kernel) (by decide +kernel)
set_option maxRecDepth 20000 in
theorem mb_114 : (.static yL_begin : Cond) ∈ ALL := al_in (i := 71) (by decide +kernel) (by decide +kernel)
set_option maxRecDepth 20000 in
theorem mb_115 : (.initialized RL : Cond) ∈ ALL := al_in (i := 11) (by decide +kernel) (by decide +kernel)
set_option maxRecDepth 20000 in
theorem mb_116 : (.codeWith yL_begin cL_begin 8 (some .int) [(0, 9, 12, 13), (0, 9, 16, 15)] : Cond) ∈ ALL := al_in (i := 72) (by decide +kernel) (by decide +kernel)
set_option maxRecDepth 20000 in
theorem mb_117 : (.methodLink RL 58 yX1_begin : Cond) ∈ ALL := al_in (i := 312) (by decide +kernel) (by decide +kernel)
set_option maxRecDepth 20000 in
theorem mb_118 : (.instanceMethod yX1_begin : Cond) ∈ ALL := al_in (i := 313) (by decide +kernel) (by decide +kernel)
set_option maxRecDepth 20000 in
theorem mb_119 : (.selects RX1 yX1_begin yX1_begin : Cond) ∈ ALL := al_in (i := 314) (by decide +kernel) (by decide +kernel)
set_option maxRecDepth 20000 in
theorem mb_120 : (.code yX1_begin cX1_begin 7 none : Cond) ∈ ALL := al_in (i := 315) (by decide +kernel) (by decide +kernel)
set_option maxRecDepth 20000 in
theorem mb_121 : (.methodLink RL 59 yX1_thrown : Cond) ∈ ALL := al_in (i := 308) (by decide +kernel) (by decide +kernel)
set_option maxRecDepth 20000 in
theorem mb_122 : (.instanceMethod yX1_thrown : Cond) ∈ ALL := al_in (i := 309) (by decide +kernel) (by decide +kernel)
set_option maxRecDepth 20000 in
theorem mb_123 : (.selects RX1 yX1_thrown yX1_thrown : Cond) ∈ ALL := al_in (i := 310) (by decide +kernel) (by decide +kernel)
set_option maxRecDepth 20000 in
theorem mb_124 : (.code yX1_thrown cX1_thrown 1 (some .int) : Cond) ∈ ALL := al_in (i := 311) (by decide +kernel) (by decide +kernel)
set_option maxRecDepth 20000 in
theorem mb_125 : (.methodLink RL 63 yL_step : Cond) ∈ ALL := al_in (i := 168) (by decide +kernel) (by decide +kernel)
set_option maxRecDepth 20000 in
theorem mb_126 : (.static yL_step : Cond) ∈ ALL := al_in (i := 169) (by decide +kernel) (by decide +kernel)
set_option maxRecDepth 20000 in
theorem mb_127 : (.codeWith yL_step cL_step 4 (some .int) [(0, 6, 9, 13), (0, 6, 12, 15)] : Cond) ∈ ALL := al_in (i := 170) (by decide +kernel) (by decide +kernel)
set_option maxRecDepth 20000 in
theorem mb_128 : (.methodLink RL 66 yX1_step : Cond) ∈ ALL := al_in (i := 319) (by decide +kernel) (by decide +kernel)
set_option maxRecDepth 20000 in
theorem mb_129 : (.instanceMethod yX1_step : Cond) ∈ ALL := al_in (i := 320) (by decide +kernel) (by decide +kernel)
set_option maxRecDepth 20000 in
theorem mb_130 : (.selects RX1 yX1_step yX1_step : Cond) ∈ ALL := al_in (i := 321) (by decide +kernel) (by decide +kernel)
set_option maxRecDepth 20000 in
theorem mb_131 : (.code yX1_step cX1_step 3 none : Cond) ∈ ALL := al_in (i := 322) (by decide +kernel) (by decide +kernel)
set_option maxRecDepth 20000 in
theorem mb_132 : (.methodLink RL 67 yL_finish : Cond) ∈ ALL := al_in (i := 184) (by decide +kernel) (by decide +kernel)
set_option maxRecDepth 20000 in
theorem mb_133 : (.static yL_finish : Cond) ∈ ALL := al_in (i := 185) (by decide +kernel) (by decide +kernel)
set_option maxRecDepth 20000 in
theorem mb_134 : (.codeWith yL_finish cL_finish 4 (some .int) [(0, 8, 11, 13), (0, 8, 14, 15), (0, 8, 17, 25)] : Cond) ∈ ALL := al_in (i := 186) (by decide +kernel) (by decide +kernel)
set_option maxRecDepth 20000 in
theorem mb_135 : (.methodLink RL 70 yX1_finish : Cond) ∈ ALL := al_in (i := 323) (by decide +kernel) (by decide +kernel)
set_option maxRecDepth 20000 in
theorem mb_136 : (.instanceMethod yX1_finish : Cond) ∈ ALL := al_in (i := 324) (by decide +kernel) (by decide +kernel)
set_option maxRecDepth 20000 in
theorem mb_137 : (.selects RX1 yX1_finish yX1_finish : Cond) ∈ ALL := al_in (i := 325) (by decide +kernel) (by decide +kernel)
set_option maxRecDepth 20000 in
theorem mb_138 : (.code yX1_finish cX1_finish 8 (some .long) : Cond) ∈ ALL := al_in (i := 326) (by decide +kernel) (by decide +kernel)
set_option maxRecDepth 20000 in
theorem mb_139 : (.methodLink RL 71 yL_drop : Cond) ∈ ALL := al_in (i := 225) (by decide +kernel) (by decide +kernel)
set_option maxRecDepth 20000 in
theorem mb_140 : (.static yL_drop : Cond) ∈ ALL := al_in (i := 226) (by decide +kernel) (by decide +kernel)
set_option maxRecDepth 20000 in
theorem mb_141 : (.codeWith yL_drop cL_drop 4 (some .int) [(0, 16, 19, 13)] : Cond) ∈ ALL := al_in (i := 227) (by decide +kernel) (by decide +kernel)
set_option maxRecDepth 20000 in
theorem mb_142 : (.methodLink RL 73 yX1_drop : Cond) ∈ ALL := al_in (i := 339) (by decide +kernel) (by decide +kernel)
set_option maxRecDepth 20000 in
theorem mb_143 : (.instanceMethod yX1_drop : Cond) ∈ ALL := al_in (i := 340) (by decide +kernel) (by decide +kernel)
set_option maxRecDepth 20000 in
theorem mb_144 : (.selects RX1 yX1_drop yX1_drop : Cond) ∈ ALL := al_in (i := 341) (by decide +kernel) (by decide +kernel)
set_option maxRecDepth 20000 in
theorem mb_145 : (.code yX1_drop cX1_drop 3 (some .boolean) : Cond) ∈ ALL := al_in (i := 342) (by decide +kernel) (by decide +kernel)
set_option maxRecDepth 20000 in
theorem mb_146 : (.methodLink RL 74 yL_tidy : Cond) ∈ ALL := al_in (i := 232) (by decide +kernel) (by decide +kernel)
set_option maxRecDepth 20000 in
theorem mb_147 : (.static yL_tidy : Cond) ∈ ALL := al_in (i := 233) (by decide +kernel) (by decide +kernel)
set_option maxRecDepth 20000 in
theorem mb_148 : (.codeWith yL_tidy cL_tidy 3 (some .int) [(0, 5, 8, 13)] : Cond) ∈ ALL := al_in (i := 234) (by decide +kernel) (by decide +kernel)
set_option maxRecDepth 20000 in
theorem mb_149 : (.methodLink RL 77 yX1_tidy : Cond) ∈ ALL := al_in (i := 343) (by decide +kernel) (by decide +kernel)
set_option maxRecDepth 20000 in
theorem mb_150 : (.instanceMethod yX1_tidy : Cond) ∈ ALL := al_in (i := 344) (by decide +kernel) (by decide +kernel)
set_option maxRecDepth 20000 in
theorem mb_151 : (.selects RX1 yX1_tidy yX1_tidy : Cond) ∈ ALL := al_in (i := 345) (by decide +kernel) (by decide +kernel)
set_option maxRecDepth 20000 in
theorem mb_152 : (.code yX1_tidy cX1_tidy 2 none : Cond) ∈ ALL := al_in (i := 346) (by decide +kernel) (by decide +kernel)
set_option maxRecDepth 20000 in
theorem mb_153 : (.methodLink RL 78 yX0_crash : Cond) ∈ ALL := al_in (i := 50) (by decide +kernel) (by decide +kernel)
set_option maxRecDepth 20000 in
theorem mb_154 : (.instanceMethod yX0_crash : Cond) ∈ ALL := al_in (i := 51) (by decide +kernel) (by decide +kernel)
set_option maxRecDepth 20000 in
theorem mb_155 : (.selects RX0 yX0_crash yX0_crash : Cond) ∈ ALL := al_in (i := 52) (by decide +kernel) (by decide +kernel)
set_option maxRecDepth 20000 in
theorem mb_156 : (.code yX0_crash cX0_crash 3 (some .int) : Cond) ∈ ALL := al_in (i := 53) (by decide +kernel) (by decide +kernel)
set_option maxRecDepth 20000 in
theorem mb_157 : (.methodLink RL 81 yX1_crash : Cond) ∈ ALL := al_in (i := 347) (by decide +kernel) (by decide +kernel)
set_option maxRecDepth 20000 in
theorem mb_158 : (.instanceMethod yX1_crash : Cond) ∈ ALL := al_in (i := 348) (by decide +kernel) (by decide +kernel)
set_option maxRecDepth 20000 in
theorem mb_159 : (.selects RX1 yX1_crash yX1_crash : Cond) ∈ ALL := al_in (i := 349) (by decide +kernel) (by decide +kernel)
set_option maxRecDepth 20000 in
theorem mb_160 : (.code yX1_crash cX1_crash 3 (some .int) : Cond) ∈ ALL := al_in (i := 350) (by decide +kernel) (by decide +kernel)
set_option maxRecDepth 20000 in
theorem mb_161 : (.methodLink RL 82 yL_kind : Cond) ∈ ALL := al_in (i := 239) (by decide +kernel) (by decide +kernel)
set_option maxRecDepth 20000 in
theorem mb_162 : (.static yL_kind : Cond) ∈ ALL := al_in (i := 240) (by decide +kernel) (by decide +kernel)
set_option maxRecDepth 20000 in
theorem mb_163 : (.codeWith yL_kind cL_kind 4 (some .int) [(0, 9, 12, 13)] : Cond) ∈ ALL := al_in (i := 241) (by decide +kernel) (by decide +kernel)
set_option maxRecDepth 20000 in
theorem mb_164 : (.methodLink RL 84 yX1_kind : Cond) ∈ ALL := al_in (i := 351) (by decide +kernel) (by decide +kernel)
set_option maxRecDepth 20000 in
theorem mb_165 : (.instanceMethod yX1_kind : Cond) ∈ ALL := al_in (i := 352) (by decide +kernel) (by decide +kernel)
set_option maxRecDepth 20000 in
theorem mb_166 : (.selects RX1 yX1_kind yX1_kind : Cond) ∈ ALL := al_in (i := 353) (by decide +kernel) (by decide +kernel)
set_option maxRecDepth 20000 in
theorem mb_167 : (.code yX1_kind cX1_kind 2 (some .int) : Cond) ∈ ALL := al_in (i := 354) (by decide +kernel) (by decide +kernel)
set_option maxRecDepth 20000 in
theorem mb_168 : (.methodLink RL 85 yX0_size : Cond) ∈ ALL := al_in (i := 54) (by decide +kernel) (by decide +kernel)
set_option maxRecDepth 20000 in
theorem mb_169 : (.instanceMethod yX0_size : Cond) ∈ ALL := al_in (i := 55) (by decide +kernel) (by decide +kernel)
set_option maxRecDepth 20000 in
theorem mb_170 : (.selects RX0 yX0_size yX0_size : Cond) ∈ ALL := al_in (i := 56) (by decide +kernel) (by decide +kernel)
set_option maxRecDepth 20000 in
theorem mb_171 : (.code yX0_size cX0_size 1 (some .int) : Cond) ∈ ALL := al_in (i := 57) (by decide +kernel) (by decide +kernel)
set_option maxRecDepth 20000 in
theorem mb_172 : (.methodLink RL 88 yX1_size : Cond) ∈ ALL := al_in (i := 355) (by decide +kernel) (by decide +kernel)
set_option maxRecDepth 20000 in
theorem mb_173 : (.instanceMethod yX1_size : Cond) ∈ ALL := al_in (i := 356) (by decide +kernel) (by decide +kernel)
set_option maxRecDepth 20000 in
theorem mb_174 : (.selects RX1 yX1_size yX1_size : Cond) ∈ ALL := al_in (i := 357) (by decide +kernel) (by decide +kernel)
set_option maxRecDepth 20000 in
theorem mb_175 : (.code yX1_size cX1_size 1 (some .int) : Cond) ∈ ALL := al_in (i := 358) (by decide +kernel) (by decide +kernel)
set_option maxRecDepth 20000 in
theorem mb_176 : (.methodLink RL 95 yX0_count : Cond) ∈ ALL := al_in (i := 58) (by decide +kernel) (by decide +kernel)
set_option maxRecDepth 20000 in
theorem mb_177 : (.instanceMethod yX0_count : Cond) ∈ ALL := al_in (i := 59) (by decide +kernel) (by decide +kernel)
set_option maxRecDepth 20000 in
theorem mb_178 : (.selects RX0 yX0_count yX0_count : Cond) ∈ ALL := al_in (i := 60) (by decide +kernel) (by decide +kernel)
set_option maxRecDepth 20000 in
theorem mb_179 : (.code yX0_count cX0_count 7 (some .int) : Cond) ∈ ALL := al_in (i := 61) (by decide +kernel) (by decide +kernel)
set_option maxRecDepth 20000 in
theorem mb_180 : (.methodLink RL 99 yX1_count : Cond) ∈ ALL := al_in (i := 367) (by decide +kernel) (by decide +kernel)
set_option maxRecDepth 20000 in
theorem mb_181 : (.instanceMethod yX1_count : Cond) ∈ ALL := al_in (i := 368) (by decide +kernel) (by decide +kernel)
set_option maxRecDepth 20000 in
theorem mb_182 : (.selects RX1 yX1_count yX1_count : Cond) ∈ ALL := al_in (i := 369) (by decide +kernel) (by decide +kernel)
set_option maxRecDepth 20000 in
theorem mb_183 : (.code yX1_count cX1_count 7 (some .int) : Cond) ∈ ALL := al_in (i := 370) (by decide +kernel) (by decide +kernel)
set_option maxRecDepth 20000 in
theorem mb_184 : (.methodLink RL 100 yX0_sum : Cond) ∈ ALL := al_in (i := 66) (by decide +kernel) (by decide +kernel)
set_option maxRecDepth 20000 in
theorem mb_185 : (.instanceMethod yX0_sum : Cond) ∈ ALL := al_in (i := 67) (by decide +kernel) (by decide +kernel)
set_option maxRecDepth 20000 in
theorem mb_186 : (.selects RX0 yX0_sum yX0_sum : Cond) ∈ ALL := al_in (i := 68) (by decide +kernel) (by decide +kernel)
set_option maxRecDepth 20000 in
theorem mb_187 : (.code yX0_sum cX0_sum 8 (some .long) : Cond) ∈ ALL := al_in (i := 69) (by decide +kernel) (by decide +kernel)
set_option maxRecDepth 20000 in
theorem mb_188 : (.methodLink RL 104 yX1_sum : Cond) ∈ ALL := al_in (i := 371) (by decide +kernel) (by decide +kernel)
set_option maxRecDepth 20000 in
theorem mb_189 : (.instanceMethod yX1_sum : Cond) ∈ ALL := al_in (i := 372) (by decide +kernel) (by decide +kernel)
set_option maxRecDepth 20000 in
theorem mb_190 : (.selects RX1 yX1_sum yX1_sum : Cond) ∈ ALL := al_in (i := 373) (by decide +kernel) (by decide +kernel)
set_option maxRecDepth 20000 in
theorem mb_191 : (.code yX1_sum cX1_sum 8 (some .long) : Cond) ∈ ALL := al_in (i := 374) (by decide +kernel) (by decide +kernel)
set_option maxRecDepth 20000 in
theorem mb_192 : (.methodLink RL 89 yL_key : Cond) ∈ ALL := al_in (i := 246) (by decide +kernel) (by decide +kernel)
set_option maxRecDepth 20000 in
theorem mb_193 : (.static yL_key : Cond) ∈ ALL := al_in (i := 247) (by decide +kernel) (by decide +kernel)
set_option maxRecDepth 20000 in
theorem mb_194 : (.codeWith yL_key cL_key 4 (some .int) [(0, 8, 11, 42)] : Cond) ∈ ALL := al_in (i := 248) (by decide +kernel) (by decide +kernel)
set_option maxRecDepth 20000 in
theorem mb_195 : (.methodLink RL 91 yX1_key : Cond) ∈ ALL := al_in (i := 359) (by decide +kernel) (by decide +kernel)
set_option maxRecDepth 20000 in
theorem mb_196 : (.instanceMethod yX1_key : Cond) ∈ ALL := al_in (i := 360) (by decide +kernel) (by decide +kernel)
set_option maxRecDepth 20000 in
theorem mb_197 : (.selects RX1 yX1_key yX1_key : Cond) ∈ ALL := al_in (i := 361) (by decide +kernel) (by decide +kernel)
set_option maxRecDepth 20000 in
theorem mb_198 : (.code yX1_key cX1_key 2 (some .long) : Cond) ∈ ALL := al_in (i := 362) (by decide +kernel) (by decide +kernel)
set_option maxRecDepth 20000 in
theorem mb_199 : (.methodLink RL 92 yL_value : Cond) ∈ ALL := al_in (i := 273) (by decide +kernel) (by decide +kernel)
set_option maxRecDepth 20000 in
theorem mb_200 : (.static yL_value : Cond) ∈ ALL := al_in (i := 274) (by decide +kernel) (by decide +kernel)
set_option maxRecDepth 20000 in
theorem mb_201 : (.codeWith yL_value cL_value 4 (some .int) [(0, 8, 11, 42)] : Cond) ∈ ALL := al_in (i := 275) (by decide +kernel) (by decide +kernel)
set_option maxRecDepth 20000 in
theorem mb_202 : (.methodLink RL 94 yX1_value : Cond) ∈ ALL := al_in (i := 363) (by decide +kernel) (by decide +kernel)
set_option maxRecDepth 20000 in
theorem mb_203 : (.instanceMethod yX1_value : Cond) ∈ ALL := al_in (i := 364) (by decide +kernel) (by decide +kernel)
set_option maxRecDepth 20000 in
theorem mb_204 : (.selects RX1 yX1_value yX1_value : Cond) ∈ ALL := al_in (i := 365) (by decide +kernel) (by decide +kernel)
set_option maxRecDepth 20000 in
theorem mb_205 : (.code yX1_value cX1_value 2 (some .long) : Cond) ∈ ALL := al_in (i := 366) (by decide +kernel) (by decide +kernel)
set_option maxRecDepth 20000 in
theorem mb_206 : (.instantiable RX0 6 : Cond) ∈ ALL := al_in (i := 22) (by decide +kernel) (by decide +kernel)
set_option maxRecDepth 20000 in
theorem mb_207 : (.instantiable RX1 7 : Cond) ∈ ALL := al_in (i := 281) (by decide +kernel) (by decide +kernel)
set_option maxRecDepth 20000 in
theorem mb_208 : (.classLink RL 8 RX0 : Cond) ∈ ALL := al_in (i := 21) (by decide +kernel) (by decide +kernel)
set_option maxRecDepth 20000 in
theorem mb_209 : (.code yX0_init cX0_init 2 none : Cond) ∈ ALL := al_in (i := 25) (by decide +kernel) (by decide +kernel)
set_option maxRecDepth 20000 in
theorem mb_210 : (.methodLink RL 47 yX0_init : Cond) ∈ ALL := al_in (i := 23) (by decide +kernel) (by decide +kernel)
set_option maxRecDepth 20000 in
theorem mb_211 : (.instanceMethod yX0_init : Cond) ∈ ALL := al_in (i := 24) (by decide +kernel) (by decide +kernel)
set_option maxRecDepth 20000 in
theorem mb_212 : (.classLink RL 48 RX1 : Cond) ∈ ALL := al_in (i := 280) (by decide +kernel) (by decide +kernel)
set_option maxRecDepth 20000 in
theorem mb_213 : (.code yX1_init cX1_init 1 none : Cond) ∈ ALL := al_in (i := 284) (by decide +kernel) (by decide +kernel)
set_option maxRecDepth 20000 in
theorem mb_214 : (.methodLink RL 50 yX1_init : Cond) ∈ ALL := al_in (i := 282) (by decide +kernel) (by decide +kernel)
set_option maxRecDepth 20000 in
theorem mb_215 : (.instanceMethod yX1_init : Cond) ∈ ALL := al_in (i := 283) (by decide +kernel) (by decide +kernel)
end
section
theorem dX0_init_0 : decode cX0_init 0 = .ok (.aload_n 0, 1) := by decide +kernel
theorem dX0_init_1 : decode cX0_init 1 = .ok (.invokespecial 1, 3) := by decide +kernel
theorem dX0_init_4 : decode cX0_init 4 = .ok (.aload_n 0, 1) := by decide +kernel
theorem dX0_init_5 : decode cX0_init 5 = .ok (.bipush 100, 2) := by decide +kernel
theorem dX0_init_7 : decode cX0_init 7 = .ok (.newarray .long, 2) := by decide +kernel
theorem dX0_init_9 : decode cX0_init 9 = .ok (.putfield 9, 3) := by decide +kernel
theorem dX0_init_12 : decode cX0_init 12 = .ok (.aload_n 0, 1) := by decide +kernel
theorem dX0_init_13 : decode cX0_init 13 = .ok (.bipush 100, 2) := by decide +kernel
theorem dX0_init_15 : decode cX0_init 15 = .ok (.newarray .long, 2) := by decide +kernel
theorem dX0_init_17 : decode cX0_init 17 = .ok (.putfield 13, 3) := by decide +kernel
theorem dX0_init_20 : decode cX0_init 20 = .ok (.aload_n 0, 1) := by decide +kernel
theorem dX0_init_21 : decode cX0_init 21 = .ok (.iconst 0, 1) := by decide +kernel
theorem dX0_init_22 : decode cX0_init 22 = .ok (.putfield 16, 3) := by decide +kernel
theorem dX0_init_25 : decode cX0_init 25 = .ok (.aload_n 0, 1) := by decide +kernel
theorem dX0_init_26 : decode cX0_init 26 = .ok (.bipush 8, 2) := by decide +kernel
theorem dX0_init_28 : decode cX0_init 28 = .ok (.newarray .int, 2) := by decide +kernel
theorem dX0_init_30 : decode cX0_init 30 = .ok (.putfield 20, 3) := by decide +kernel
theorem dX0_init_33 : decode cX0_init 33 = .ok (.aload_n 0, 1) := by decide +kernel
theorem dX0_init_34 : decode cX0_init 34 = .ok (.bipush 8, 2) := by decide +kernel
theorem dX0_init_36 : decode cX0_init 36 = .ok (.newarray .long, 2) := by decide +kernel
theorem dX0_init_38 : decode cX0_init 38 = .ok (.putfield 24, 3) := by decide +kernel
theorem dX0_init_41 : decode cX0_init 41 = .ok (.aload_n 0, 1) := by decide +kernel
theorem dX0_init_42 : decode cX0_init 42 = .ok (.bipush 8, 2) := by decide +kernel
theorem dX0_init_44 : decode cX0_init 44 = .ok (.newarray .long, 2) := by decide +kernel
theorem dX0_init_46 : decode cX0_init 46 = .ok (.putfield 27, 3) := by decide +kernel
theorem dX0_init_49 : decode cX0_init 49 = .ok (.iconst 0, 1) := by decide +kernel
theorem dX0_init_50 : decode cX0_init 50 = .ok (.istore_n 1, 1) := by decide +kernel
theorem dX0_init_51 : decode cX0_init 51 = .ok (.iload_n 1, 1) := by decide +kernel
theorem dX0_init_52 : decode cX0_init 52 = .ok (.bipush 8, 2) := by decide +kernel
theorem dX0_init_54 : decode cX0_init 54 = .ok (.if_icmp .ge 16, 3) := by decide +kernel
theorem dX0_init_57 : decode cX0_init 57 = .ok (.aload_n 0, 1) := by decide +kernel
theorem dX0_init_58 : decode cX0_init 58 = .ok (.getfield 20, 3) := by decide +kernel
theorem dX0_init_61 : decode cX0_init 61 = .ok (.iload_n 1, 1) := by decide +kernel
theorem dX0_init_62 : decode cX0_init 62 = .ok (.iconst (-1), 1) := by decide +kernel
theorem dX0_init_63 : decode cX0_init 63 = .ok (.iastore, 1) := by decide +kernel
theorem dX0_init_64 : decode cX0_init 64 = .ok (.iinc 1 1, 3) := by decide +kernel
theorem dX0_init_67 : decode cX0_init 67 = .ok (.goto (-16), 3) := by decide +kernel
theorem dX0_init_70 : decode cX0_init 70 = .ok (.return_, 1) := by decide +kernel
theorem dX0_crash_0 : decode cX0_crash 0 = .ok (.iconst 0, 1) := by decide +kernel
theorem dX0_crash_1 : decode cX0_crash 1 = .ok (.istore_n 1, 1) := by decide +kernel
theorem dX0_crash_2 : decode cX0_crash 2 = .ok (.iconst 0, 1) := by decide +kernel
theorem dX0_crash_3 : decode cX0_crash 3 = .ok (.istore_n 2, 1) := by decide +kernel
theorem dX0_crash_4 : decode cX0_crash 4 = .ok (.iload_n 2, 1) := by decide +kernel
theorem dX0_crash_5 : decode cX0_crash 5 = .ok (.bipush 8, 2) := by decide +kernel
theorem dX0_crash_7 : decode cX0_crash 7 = .ok (.if_icmp .ge 29, 3) := by decide +kernel
theorem dX0_crash_10 : decode cX0_crash 10 = .ok (.aload_n 0, 1) := by decide +kernel
theorem dX0_crash_11 : decode cX0_crash 11 = .ok (.getfield 20, 3) := by decide +kernel
theorem dX0_crash_14 : decode cX0_crash 14 = .ok (.iload_n 2, 1) := by decide +kernel
theorem dX0_crash_15 : decode cX0_crash 15 = .ok (.iaload, 1) := by decide +kernel
theorem dX0_crash_16 : decode cX0_crash 16 = .ok (.iconst (-1), 1) := by decide +kernel
theorem dX0_crash_17 : decode cX0_crash 17 = .ok (.if_icmp .eq 13, 3) := by decide +kernel
theorem dX0_crash_20 : decode cX0_crash 20 = .ok (.aload_n 0, 1) := by decide +kernel
theorem dX0_crash_21 : decode cX0_crash 21 = .ok (.getfield 20, 3) := by decide +kernel
theorem dX0_crash_24 : decode cX0_crash 24 = .ok (.iload_n 2, 1) := by decide +kernel
theorem dX0_crash_25 : decode cX0_crash 25 = .ok (.iconst (-1), 1) := by decide +kernel
theorem dX0_crash_26 : decode cX0_crash 26 = .ok (.iastore, 1) := by decide +kernel
theorem dX0_crash_27 : decode cX0_crash 27 = .ok (.iinc 1 1, 3) := by decide +kernel
theorem dX0_crash_30 : decode cX0_crash 30 = .ok (.iinc 2 1, 3) := by decide +kernel
theorem dX0_crash_33 : decode cX0_crash 33 = .ok (.goto (-29), 3) := by decide +kernel
theorem dX0_crash_36 : decode cX0_crash 36 = .ok (.iload_n 1, 1) := by decide +kernel
theorem dX0_crash_37 : decode cX0_crash 37 = .ok (.ireturn, 1) := by decide +kernel
theorem dX0_size_0 : decode cX0_size 0 = .ok (.aload_n 0, 1) := by decide +kernel
theorem dX0_size_1 : decode cX0_size 1 = .ok (.getfield 16, 3) := by decide +kernel
theorem dX0_size_4 : decode cX0_size 4 = .ok (.ireturn, 1) := by decide +kernel
theorem dX0_count_0 : decode cX0_count 0 = .ok (.iconst 0, 1) := by decide +kernel
theorem dX0_count_1 : decode cX0_count 1 = .ok (.istore 5, 2) := by decide +kernel
theorem dX0_count_3 : decode cX0_count 3 = .ok (.aload_n 0, 1) := by decide +kernel
theorem dX0_count_4 : decode cX0_count 4 = .ok (.lload_n 1, 1) := by decide +kernel
theorem dX0_count_5 : decode cX0_count 5 = .ok (.invokevirtual 52, 3) := by decide +kernel
theorem dX0_count_8 : decode cX0_count 8 = .ok (.istore 6, 2) := by decide +kernel
theorem dX0_count_10 : decode cX0_count 10 = .ok (.iload 6, 2) := by decide +kernel
theorem dX0_count_12 : decode cX0_count 12 = .ok (.aload_n 0, 1) := by decide +kernel
theorem dX0_count_13 : decode cX0_count 13 = .ok (.getfield 16, 3) := by decide +kernel
theorem dX0_count_16 : decode cX0_count 16 = .ok (.if_icmp .ge 24, 3) := by decide +kernel
theorem dX0_count_19 : decode cX0_count 19 = .ok (.aload_n 0, 1) := by decide +kernel
theorem dX0_count_20 : decode cX0_count 20 = .ok (.getfield 9, 3) := by decide +kernel
theorem dX0_count_23 : decode cX0_count 23 = .ok (.iload 6, 2) := by decide +kernel
theorem dX0_count_25 : decode cX0_count 25 = .ok (.laload, 1) := by decide +kernel
theorem dX0_count_26 : decode cX0_count 26 = .ok (.lload_n 3, 1) := by decide +kernel
theorem dX0_count_27 : decode cX0_count 27 = .ok (.lcmp, 1) := by decide +kernel
theorem dX0_count_28 : decode cX0_count 28 = .ok (.ifCond .gt 12, 3) := by decide +kernel
theorem dX0_count_31 : decode cX0_count 31 = .ok (.iinc 5 1, 3) := by decide +kernel
theorem dX0_count_34 : decode cX0_count 34 = .ok (.iinc 6 1, 3) := by decide +kernel
theorem dX0_count_37 : decode cX0_count 37 = .ok (.goto (-27), 3) := by decide +kernel
theorem dX0_count_40 : decode cX0_count 40 = .ok (.iload 5, 2) := by decide +kernel
theorem dX0_count_42 : decode cX0_count 42 = .ok (.ireturn, 1) := by decide +kernel
theorem dX0_placeOf_0 : decode cX0_placeOf 0 = .ok (.iconst 0, 1) := by decide +kernel
theorem dX0_placeOf_1 : decode cX0_placeOf 1 = .ok (.istore_n 3, 1) := by decide +kernel
theorem dX0_placeOf_2 : decode cX0_placeOf 2 = .ok (.iload_n 3, 1) := by decide +kernel
theorem dX0_placeOf_3 : decode cX0_placeOf 3 = .ok (.aload_n 0, 1) := by decide +kernel
theorem dX0_placeOf_4 : decode cX0_placeOf 4 = .ok (.getfield 16, 3) := by decide +kernel
theorem dX0_placeOf_7 : decode cX0_placeOf 7 = .ok (.if_icmp .ge 20, 3) := by decide +kernel
theorem dX0_placeOf_10 : decode cX0_placeOf 10 = .ok (.aload_n 0, 1) := by decide +kernel
theorem dX0_placeOf_11 : decode cX0_placeOf 11 = .ok (.getfield 9, 3) := by decide +kernel
theorem dX0_placeOf_14 : decode cX0_placeOf 14 = .ok (.iload_n 3, 1) := by decide +kernel
theorem dX0_placeOf_15 : decode cX0_placeOf 15 = .ok (.laload, 1) := by decide +kernel
theorem dX0_placeOf_16 : decode cX0_placeOf 16 = .ok (.lload_n 1, 1) := by decide +kernel
theorem dX0_placeOf_17 : decode cX0_placeOf 17 = .ok (.lcmp, 1) := by decide +kernel
theorem dX0_placeOf_18 : decode cX0_placeOf 18 = .ok (.ifCond .ge 9, 3) := by decide +kernel
theorem dX0_placeOf_21 : decode cX0_placeOf 21 = .ok (.iinc 3 1, 3) := by decide +kernel
theorem dX0_placeOf_24 : decode cX0_placeOf 24 = .ok (.goto (-22), 3) := by decide +kernel
theorem dX0_placeOf_27 : decode cX0_placeOf 27 = .ok (.iload_n 3, 1) := by decide +kernel
theorem dX0_placeOf_28 : decode cX0_placeOf 28 = .ok (.ireturn, 1) := by decide +kernel
theorem dX0_sum_0 : decode cX0_sum 0 = .ok (.lconst 0, 1) := by decide +kernel
theorem dX0_sum_1 : decode cX0_sum 1 = .ok (.lstore 5, 2) := by decide +kernel
theorem dX0_sum_3 : decode cX0_sum 3 = .ok (.aload_n 0, 1) := by decide +kernel
theorem dX0_sum_4 : decode cX0_sum 4 = .ok (.lload_n 1, 1) := by decide +kernel
theorem dX0_sum_5 : decode cX0_sum 5 = .ok (.invokevirtual 52, 3) := by decide +kernel
theorem dX0_sum_8 : decode cX0_sum 8 = .ok (.istore 7, 2) := by decide +kernel
theorem dX0_sum_10 : decode cX0_sum 10 = .ok (.iload 7, 2) := by decide +kernel
theorem dX0_sum_12 : decode cX0_sum 12 = .ok (.aload_n 0, 1) := by decide +kernel
theorem dX0_sum_13 : decode cX0_sum 13 = .ok (.getfield 16, 3) := by decide +kernel
theorem dX0_sum_16 : decode cX0_sum 16 = .ok (.if_icmp .ge 33, 3) := by decide +kernel
theorem dX0_sum_19 : decode cX0_sum 19 = .ok (.aload_n 0, 1) := by decide +kernel
theorem dX0_sum_20 : decode cX0_sum 20 = .ok (.getfield 9, 3) := by decide +kernel
theorem dX0_sum_23 : decode cX0_sum 23 = .ok (.iload 7, 2) := by decide +kernel
theorem dX0_sum_25 : decode cX0_sum 25 = .ok (.laload, 1) := by decide +kernel
theorem dX0_sum_26 : decode cX0_sum 26 = .ok (.lload_n 3, 1) := by decide +kernel
theorem dX0_sum_27 : decode cX0_sum 27 = .ok (.lcmp, 1) := by decide +kernel
theorem dX0_sum_28 : decode cX0_sum 28 = .ok (.ifCond .gt 21, 3) := by decide +kernel
theorem dX0_sum_31 : decode cX0_sum 31 = .ok (.lload 5, 2) := by decide +kernel
theorem dX0_sum_33 : decode cX0_sum 33 = .ok (.aload_n 0, 1) := by decide +kernel
theorem dX0_sum_34 : decode cX0_sum 34 = .ok (.getfield 13, 3) := by decide +kernel
theorem dX0_sum_37 : decode cX0_sum 37 = .ok (.iload 7, 2) := by decide +kernel
theorem dX0_sum_39 : decode cX0_sum 39 = .ok (.laload, 1) := by decide +kernel
theorem dX0_sum_40 : decode cX0_sum 40 = .ok (.ladd, 1) := by decide +kernel
theorem dX0_sum_41 : decode cX0_sum 41 = .ok (.lstore 5, 2) := by decide +kernel
theorem dX0_sum_43 : decode cX0_sum 43 = .ok (.iinc 7 1, 3) := by decide +kernel
theorem dX0_sum_46 : decode cX0_sum 46 = .ok (.goto (-36), 3) := by decide +kernel
theorem dX0_sum_49 : decode cX0_sum 49 = .ok (.lload 5, 2) := by decide +kernel
theorem dX0_sum_51 : decode cX0_sum 51 = .ok (.lreturn, 1) := by decide +kernel
theorem dX0_begin_0 : decode cX0_begin 0 = .ok (.iload_n 1, 1) := by decide +kernel
theorem dX0_begin_1 : decode cX0_begin 1 = .ok (.invokestatic 30, 3) := by decide +kernel
theorem dX0_begin_4 : decode cX0_begin 4 = .ok (.iload_n 2, 1) := by decide +kernel
theorem dX0_begin_5 : decode cX0_begin 5 = .ok (.ifCond .lt 8, 3) := by decide +kernel
theorem dX0_begin_8 : decode cX0_begin 8 = .ok (.iload_n 2, 1) := by decide +kernel
theorem dX0_begin_9 : decode cX0_begin 9 = .ok (.iconst 3, 1) := by decide +kernel
theorem dX0_begin_10 : decode cX0_begin 10 = .ok (.if_icmp .le 13, 3) := by decide +kernel
theorem dX0_begin_13 : decode cX0_begin 13 = .ok (.new 34, 3) := by decide +kernel
theorem dX0_begin_16 : decode cX0_begin 16 = .ok (.dup, 1) := by decide +kernel
theorem dX0_begin_17 : decode cX0_begin 17 = .ok (.ldc 36, 2) := by decide +kernel
theorem dX0_begin_19 : decode cX0_begin 19 = .ok (.invokespecial 38, 3) := by decide +kernel
theorem dX0_begin_22 : decode cX0_begin 22 = .ok (.athrow, 1) := by decide +kernel
theorem dX0_begin_23 : decode cX0_begin 23 = .ok (.aload_n 0, 1) := by decide +kernel
theorem dX0_begin_24 : decode cX0_begin 24 = .ok (.getfield 20, 3) := by decide +kernel
theorem dX0_begin_27 : decode cX0_begin 27 = .ok (.iload_n 1, 1) := by decide +kernel
theorem dX0_begin_28 : decode cX0_begin 28 = .ok (.iaload, 1) := by decide +kernel
theorem dX0_begin_29 : decode cX0_begin 29 = .ok (.iconst (-1), 1) := by decide +kernel
theorem dX0_begin_30 : decode cX0_begin 30 = .ok (.if_icmp .eq 13, 3) := by decide +kernel
theorem dX0_begin_33 : decode cX0_begin 33 = .ok (.new 41, 3) := by decide +kernel
theorem dX0_begin_36 : decode cX0_begin 36 = .ok (.dup, 1) := by decide +kernel
theorem dX0_begin_37 : decode cX0_begin 37 = .ok (.ldc 43, 2) := by decide +kernel
theorem dX0_begin_39 : decode cX0_begin 39 = .ok (.invokespecial 45, 3) := by decide +kernel
theorem dX0_begin_42 : decode cX0_begin 42 = .ok (.athrow, 1) := by decide +kernel
theorem dX0_begin_43 : decode cX0_begin 43 = .ok (.aload_n 0, 1) := by decide +kernel
theorem dX0_begin_44 : decode cX0_begin 44 = .ok (.getfield 20, 3) := by decide +kernel
theorem dX0_begin_47 : decode cX0_begin 47 = .ok (.iload_n 1, 1) := by decide +kernel
theorem dX0_begin_48 : decode cX0_begin 48 = .ok (.iload_n 2, 1) := by decide +kernel
theorem dX0_begin_49 : decode cX0_begin 49 = .ok (.iastore, 1) := by decide +kernel
theorem dX0_begin_50 : decode cX0_begin 50 = .ok (.aload_n 0, 1) := by decide +kernel
theorem dX0_begin_51 : decode cX0_begin 51 = .ok (.getfield 24, 3) := by decide +kernel
theorem dX0_begin_54 : decode cX0_begin 54 = .ok (.iload_n 1, 1) := by decide +kernel
theorem dX0_begin_55 : decode cX0_begin 55 = .ok (.lload_n 3, 1) := by decide +kernel
theorem dX0_begin_56 : decode cX0_begin 56 = .ok (.lastore, 1) := by decide +kernel
theorem dX0_begin_57 : decode cX0_begin 57 = .ok (.aload_n 0, 1) := by decide +kernel
theorem dX0_begin_58 : decode cX0_begin 58 = .ok (.getfield 27, 3) := by decide +kernel
theorem dX0_begin_61 : decode cX0_begin 61 = .ok (.iload_n 1, 1) := by decide +kernel
theorem dX0_begin_62 : decode cX0_begin 62 = .ok (.lload 5, 2) := by decide +kernel
theorem dX0_begin_64 : decode cX0_begin 64 = .ok (.lastore, 1) := by decide +kernel
theorem dX0_begin_65 : decode cX0_begin 65 = .ok (.return_, 1) := by decide +kernel
theorem dX0_requireSlot_0 : decode cX0_requireSlot 0 = .ok (.iload_n 0, 1) := by decide +kernel
theorem dX0_requireSlot_1 : decode cX0_requireSlot 1 = .ok (.ifCond .lt 9, 3) := by decide +kernel
theorem dX0_requireSlot_4 : decode cX0_requireSlot 4 = .ok (.iload_n 0, 1) := by decide +kernel
theorem dX0_requireSlot_5 : decode cX0_requireSlot 5 = .ok (.bipush 8, 2) := by decide +kernel
theorem dX0_requireSlot_7 : decode cX0_requireSlot 7 = .ok (.if_icmp .lt 13, 3) := by decide +kernel
theorem dX0_requireSlot_10 : decode cX0_requireSlot 10 = .ok (.new 34, 3) := by decide +kernel
theorem dX0_requireSlot_13 : decode cX0_requireSlot 13 = .ok (.dup, 1) := by decide +kernel
theorem dX0_requireSlot_14 : decode cX0_requireSlot 14 = .ok (.ldc 75, 2) := by decide +kernel
theorem dX0_requireSlot_16 : decode cX0_requireSlot 16 = .ok (.invokespecial 38, 3) := by decide +kernel
theorem dX0_requireSlot_19 : decode cX0_requireSlot 19 = .ok (.athrow, 1) := by decide +kernel
theorem dX0_requireSlot_20 : decode cX0_requireSlot 20 = .ok (.return_, 1) := by decide +kernel
theorem dX0_step_0 : decode cX0_step 0 = .ok (.iload_n 1, 1) := by decide +kernel
theorem dX0_step_1 : decode cX0_step 1 = .ok (.invokestatic 30, 3) := by decide +kernel
theorem dX0_step_4 : decode cX0_step 4 = .ok (.iload_n 2, 1) := by decide +kernel
theorem dX0_step_5 : decode cX0_step 5 = .ok (.invokestatic 46, 3) := by decide +kernel
theorem dX0_step_8 : decode cX0_step 8 = .ok (.aload_n 0, 1) := by decide +kernel
theorem dX0_step_9 : decode cX0_step 9 = .ok (.iload_n 1, 1) := by decide +kernel
theorem dX0_step_10 : decode cX0_step 10 = .ok (.invokevirtual 49, 3) := by decide +kernel
theorem dX0_step_13 : decode cX0_step 13 = .ok (.return_, 1) := by decide +kernel
theorem dX0_requireSteps_0 : decode cX0_requireSteps 0 = .ok (.iload_n 0, 1) := by decide +kernel
theorem dX0_requireSteps_1 : decode cX0_requireSteps 1 = .ok (.ifCond .lt 9, 3) := by decide +kernel
theorem dX0_requireSteps_4 : decode cX0_requireSteps 4 = .ok (.iload_n 0, 1) := by decide +kernel
theorem dX0_requireSteps_5 : decode cX0_requireSteps 5 = .ok (.bipush 20, 2) := by decide +kernel
theorem dX0_requireSteps_7 : decode cX0_requireSteps 7 = .ok (.if_icmp .le 13, 3) := by decide +kernel
theorem dX0_requireSteps_10 : decode cX0_requireSteps 10 = .ok (.new 34, 3) := by decide +kernel
theorem dX0_requireSteps_13 : decode cX0_requireSteps 13 = .ok (.dup, 1) := by decide +kernel
theorem dX0_requireSteps_14 : decode cX0_requireSteps 14 = .ok (.ldc 77, 2) := by decide +kernel
theorem dX0_requireSteps_16 : decode cX0_requireSteps 16 = .ok (.invokespecial 38, 3) := by decide +kernel
theorem dX0_requireSteps_19 : decode cX0_requireSteps 19 = .ok (.athrow, 1) := by decide +kernel
theorem dX0_requireSteps_20 : decode cX0_requireSteps 20 = .ok (.return_, 1) := by decide +kernel
theorem dX0_requireOperation_0 : decode cX0_requireOperation 0 = .ok (.aload_n 0, 1) := by decide +kernel
theorem dX0_requireOperation_1 : decode cX0_requireOperation 1 = .ok (.getfield 20, 3) := by decide +kernel
theorem dX0_requireOperation_4 : decode cX0_requireOperation 4 = .ok (.iload_n 1, 1) := by decide +kernel
theorem dX0_requireOperation_5 : decode cX0_requireOperation 5 = .ok (.iaload, 1) := by decide +kernel
theorem dX0_requireOperation_6 : decode cX0_requireOperation 6 = .ok (.iconst (-1), 1) := by decide +kernel
theorem dX0_requireOperation_7 : decode cX0_requireOperation 7 = .ok (.if_icmp .ne 13, 3) := by decide +kernel
theorem dX0_requireOperation_10 : decode cX0_requireOperation 10 = .ok (.new 41, 3) := by decide +kernel
theorem dX0_requireOperation_13 : decode cX0_requireOperation 13 = .ok (.dup, 1) := by decide +kernel
theorem dX0_requireOperation_14 : decode cX0_requireOperation 14 = .ok (.ldc 79, 2) := by decide +kernel
theorem dX0_requireOperation_16 : decode cX0_requireOperation 16 = .ok (.invokespecial 45, 3) := by decide +kernel
theorem dX0_requireOperation_19 : decode cX0_requireOperation 19 = .ok (.athrow, 1) := by decide +kernel
theorem dX0_requireOperation_20 : decode cX0_requireOperation 20 = .ok (.return_, 1) := by decide +kernel
theorem dX0_finish_0 : decode cX0_finish 0 = .ok (.iload_n 1, 1) := by decide +kernel
theorem dX0_finish_1 : decode cX0_finish 1 = .ok (.invokestatic 30, 3) := by decide +kernel
theorem dX0_finish_4 : decode cX0_finish 4 = .ok (.aload_n 0, 1) := by decide +kernel
theorem dX0_finish_5 : decode cX0_finish 5 = .ok (.iload_n 1, 1) := by decide +kernel
theorem dX0_finish_6 : decode cX0_finish 6 = .ok (.invokevirtual 49, 3) := by decide +kernel
theorem dX0_finish_9 : decode cX0_finish 9 = .ok (.aload_n 0, 1) := by decide +kernel
theorem dX0_finish_10 : decode cX0_finish 10 = .ok (.getfield 20, 3) := by decide +kernel
theorem dX0_finish_13 : decode cX0_finish 13 = .ok (.iload_n 1, 1) := by decide +kernel
theorem dX0_finish_14 : decode cX0_finish 14 = .ok (.iaload, 1) := by decide +kernel
theorem dX0_finish_15 : decode cX0_finish 15 = .ok (.istore_n 2, 1) := by decide +kernel
theorem dX0_finish_16 : decode cX0_finish 16 = .ok (.aload_n 0, 1) := by decide +kernel
theorem dX0_finish_17 : decode cX0_finish 17 = .ok (.aload_n 0, 1) := by decide +kernel
theorem dX0_finish_18 : decode cX0_finish 18 = .ok (.getfield 24, 3) := by decide +kernel
theorem dX0_finish_21 : decode cX0_finish 21 = .ok (.iload_n 1, 1) := by decide +kernel
theorem dX0_finish_22 : decode cX0_finish 22 = .ok (.laload, 1) := by decide +kernel
theorem dX0_finish_23 : decode cX0_finish 23 = .ok (.invokevirtual 52, 3) := by decide +kernel
theorem dX0_finish_26 : decode cX0_finish 26 = .ok (.istore_n 3, 1) := by decide +kernel
theorem dX0_finish_27 : decode cX0_finish 27 = .ok (.iload_n 2, 1) := by decide +kernel
theorem dX0_finish_28 : decode cX0_finish 28 = .ok (.iconst 1, 1) := by decide +kernel
theorem dX0_finish_29 : decode cX0_finish 29 = .ok (.if_icmp .ne 10, 3) := by decide +kernel
theorem dX0_finish_32 : decode cX0_finish 32 = .ok (.aload_n 0, 1) := by decide +kernel
theorem dX0_finish_33 : decode cX0_finish 33 = .ok (.iload_n 1, 1) := by decide +kernel
theorem dX0_finish_34 : decode cX0_finish 34 = .ok (.iload_n 3, 1) := by decide +kernel
theorem dX0_finish_35 : decode cX0_finish 35 = .ok (.invokevirtual 56, 3) := by decide +kernel
theorem dX0_finish_38 : decode cX0_finish 38 = .ok (.lreturn, 1) := by decide +kernel
theorem dX0_finish_39 : decode cX0_finish 39 = .ok (.iload_n 2, 1) := by decide +kernel
theorem dX0_finish_40 : decode cX0_finish 40 = .ok (.iconst 3, 1) := by decide +kernel
theorem dX0_finish_41 : decode cX0_finish 41 = .ok (.if_icmp .ne 19, 3) := by decide +kernel
theorem dX0_finish_44 : decode cX0_finish 44 = .ok (.iload_n 3, 1) := by decide +kernel
theorem dX0_finish_45 : decode cX0_finish 45 = .ok (.aload_n 0, 1) := by decide +kernel
theorem dX0_finish_46 : decode cX0_finish 46 = .ok (.getfield 16, 3) := by decide +kernel
theorem dX0_finish_49 : decode cX0_finish 49 = .ok (.if_icmp .ge 7, 3) := by decide +kernel
theorem dX0_finish_52 : decode cX0_finish 52 = .ok (.iconst 1, 1) := by decide +kernel
theorem dX0_finish_53 : decode cX0_finish 53 = .ok (.goto 18, 3) := by decide +kernel
theorem dX0_finish_56 : decode cX0_finish 56 = .ok (.iconst 0, 1) := by decide +kernel
theorem dX0_finish_57 : decode cX0_finish 57 = .ok (.goto 14, 3) := by decide +kernel
theorem dX0_finish_60 : decode cX0_finish 60 = .ok (.aload_n 0, 1) := by decide +kernel
theorem dX0_finish_61 : decode cX0_finish 61 = .ok (.iload_n 3, 1) := by decide +kernel
theorem dX0_finish_62 : decode cX0_finish 62 = .ok (.aload_n 0, 1) := by decide +kernel
theorem dX0_finish_63 : decode cX0_finish 63 = .ok (.getfield 24, 3) := by decide +kernel
theorem dX0_finish_66 : decode cX0_finish 66 = .ok (.iload_n 1, 1) := by decide +kernel
theorem dX0_finish_67 : decode cX0_finish 67 = .ok (.laload, 1) := by decide +kernel
theorem dX0_finish_68 : decode cX0_finish 68 = .ok (.invokevirtual 60, 3) := by decide +kernel
theorem dX0_finish_71 : decode cX0_finish 71 = .ok (.istore 4, 2) := by decide +kernel
theorem dX0_finish_73 : decode cX0_finish 73 = .ok (.aload_n 0, 1) := by decide +kernel
theorem dX0_finish_74 : decode cX0_finish 74 = .ok (.getfield 20, 3) := by decide +kernel
theorem dX0_finish_77 : decode cX0_finish 77 = .ok (.iload_n 1, 1) := by decide +kernel
theorem dX0_finish_78 : decode cX0_finish 78 = .ok (.iconst (-1), 1) := by decide +kernel
theorem dX0_finish_79 : decode cX0_finish 79 = .ok (.iastore, 1) := by decide +kernel
theorem dX0_finish_80 : decode cX0_finish 80 = .ok (.iload 4, 2) := by decide +kernel
theorem dX0_finish_82 : decode cX0_finish 82 = .ok (.ifCond .ne 13, 3) := by decide +kernel
theorem dX0_finish_85 : decode cX0_finish 85 = .ok (.new 64, 3) := by decide +kernel
theorem dX0_finish_88 : decode cX0_finish 88 = .ok (.dup, 1) := by decide +kernel
theorem dX0_finish_89 : decode cX0_finish 89 = .ok (.ldc 66, 2) := by decide +kernel
theorem dX0_finish_91 : decode cX0_finish 91 = .ok (.invokespecial 68, 3) := by decide +kernel
theorem dX0_finish_94 : decode cX0_finish 94 = .ok (.athrow, 1) := by decide +kernel
theorem dX0_finish_95 : decode cX0_finish 95 = .ok (.iload_n 2, 1) := by decide +kernel
theorem dX0_finish_96 : decode cX0_finish 96 = .ok (.iconst 3, 1) := by decide +kernel
theorem dX0_finish_97 : decode cX0_finish 97 = .ok (.if_icmp .ne 10, 3) := by decide +kernel
theorem dX0_finish_100 : decode cX0_finish 100 = .ok (.aload_n 0, 1) := by decide +kernel
theorem dX0_finish_101 : decode cX0_finish 101 = .ok (.getfield 9, 3) := by decide +kernel
theorem dX0_finish_104 : decode cX0_finish 104 = .ok (.iload_n 3, 1) := by decide +kernel
theorem dX0_finish_105 : decode cX0_finish 105 = .ok (.laload, 1) := by decide +kernel
theorem dX0_finish_106 : decode cX0_finish 106 = .ok (.lreturn, 1) := by decide +kernel
theorem dX0_finish_107 : decode cX0_finish 107 = .ok (.aload_n 0, 1) := by decide +kernel
theorem dX0_finish_108 : decode cX0_finish 108 = .ok (.getfield 13, 3) := by decide +kernel
theorem dX0_finish_111 : decode cX0_finish 111 = .ok (.iload_n 3, 1) := by decide +kernel
theorem dX0_finish_112 : decode cX0_finish 112 = .ok (.laload, 1) := by decide +kernel
theorem dX0_finish_113 : decode cX0_finish 113 = .ok (.lstore 5, 2) := by decide +kernel
theorem dX0_finish_115 : decode cX0_finish 115 = .ok (.iload_n 2, 1) := by decide +kernel
theorem dX0_finish_116 : decode cX0_finish 116 = .ok (.iconst 2, 1) := by decide +kernel
theorem dX0_finish_117 : decode cX0_finish 117 = .ok (.if_icmp .ne 8, 3) := by decide +kernel
theorem dX0_finish_120 : decode cX0_finish 120 = .ok (.aload_n 0, 1) := by decide +kernel
theorem dX0_finish_121 : decode cX0_finish 121 = .ok (.iload_n 3, 1) := by decide +kernel
theorem dX0_finish_122 : decode cX0_finish 122 = .ok (.invokevirtual 69, 3) := by decide +kernel
theorem dX0_finish_125 : decode cX0_finish 125 = .ok (.lload 5, 2) := by decide +kernel
theorem dX0_finish_127 : decode cX0_finish 127 = .ok (.lreturn, 1) := by decide +kernel
theorem dX0_finishPut_0 : decode cX0_finishPut 0 = .ok (.aload_n 0, 1) := by decide +kernel
theorem dX0_finishPut_1 : decode cX0_finishPut 1 = .ok (.iload_n 2, 1) := by decide +kernel
theorem dX0_finishPut_2 : decode cX0_finishPut 2 = .ok (.aload_n 0, 1) := by decide +kernel
theorem dX0_finishPut_3 : decode cX0_finishPut 3 = .ok (.getfield 24, 3) := by decide +kernel
theorem dX0_finishPut_6 : decode cX0_finishPut 6 = .ok (.iload_n 1, 1) := by decide +kernel
theorem dX0_finishPut_7 : decode cX0_finishPut 7 = .ok (.laload, 1) := by decide +kernel
theorem dX0_finishPut_8 : decode cX0_finishPut 8 = .ok (.invokevirtual 60, 3) := by decide +kernel
theorem dX0_finishPut_11 : decode cX0_finishPut 11 = .ok (.istore_n 3, 1) := by decide +kernel
theorem dX0_finishPut_12 : decode cX0_finishPut 12 = .ok (.iload_n 3, 1) := by decide +kernel
theorem dX0_finishPut_13 : decode cX0_finishPut 13 = .ok (.ifCond .ne 39, 3) := by decide +kernel
theorem dX0_finishPut_16 : decode cX0_finishPut 16 = .ok (.aload_n 0, 1) := by decide +kernel
theorem dX0_finishPut_17 : decode cX0_finishPut 17 = .ok (.getfield 16, 3) := by decide +kernel
theorem dX0_finishPut_20 : decode cX0_finishPut 20 = .ok (.bipush 100, 2) := by decide +kernel
theorem dX0_finishPut_22 : decode cX0_finishPut 22 = .ok (.if_icmp .lt 13, 3) := by decide +kernel
theorem dX0_finishPut_25 : decode cX0_finishPut 25 = .ok (.new 41, 3) := by decide +kernel
theorem dX0_finishPut_28 : decode cX0_finishPut 28 = .ok (.dup, 1) := by decide +kernel
theorem dX0_finishPut_29 : decode cX0_finishPut 29 = .ok (.ldc 84, 2) := by decide +kernel
theorem dX0_finishPut_31 : decode cX0_finishPut 31 = .ok (.invokespecial 45, 3) := by decide +kernel
theorem dX0_finishPut_34 : decode cX0_finishPut 34 = .ok (.athrow, 1) := by decide +kernel
theorem dX0_finishPut_35 : decode cX0_finishPut 35 = .ok (.aload_n 0, 1) := by decide +kernel
theorem dX0_finishPut_36 : decode cX0_finishPut 36 = .ok (.iload_n 2, 1) := by decide +kernel
theorem dX0_finishPut_37 : decode cX0_finishPut 37 = .ok (.invokevirtual 86, 3) := by decide +kernel
theorem dX0_finishPut_40 : decode cX0_finishPut 40 = .ok (.aload_n 0, 1) := by decide +kernel
theorem dX0_finishPut_41 : decode cX0_finishPut 41 = .ok (.getfield 9, 3) := by decide +kernel
theorem dX0_finishPut_44 : decode cX0_finishPut 44 = .ok (.iload_n 2, 1) := by decide +kernel
theorem dX0_finishPut_45 : decode cX0_finishPut 45 = .ok (.aload_n 0, 1) := by decide +kernel
theorem dX0_finishPut_46 : decode cX0_finishPut 46 = .ok (.getfield 24, 3) := by decide +kernel
theorem dX0_finishPut_49 : decode cX0_finishPut 49 = .ok (.iload_n 1, 1) := by decide +kernel
theorem dX0_finishPut_50 : decode cX0_finishPut 50 = .ok (.laload, 1) := by decide +kernel
theorem dX0_finishPut_51 : decode cX0_finishPut 51 = .ok (.lastore, 1) := by decide +kernel
theorem dX0_finishPut_52 : decode cX0_finishPut 52 = .ok (.aload_n 0, 1) := by decide +kernel
theorem dX0_finishPut_53 : decode cX0_finishPut 53 = .ok (.getfield 13, 3) := by decide +kernel
theorem dX0_finishPut_56 : decode cX0_finishPut 56 = .ok (.iload_n 2, 1) := by decide +kernel
theorem dX0_finishPut_57 : decode cX0_finishPut 57 = .ok (.aload_n 0, 1) := by decide +kernel
theorem dX0_finishPut_58 : decode cX0_finishPut 58 = .ok (.getfield 27, 3) := by decide +kernel
theorem dX0_finishPut_61 : decode cX0_finishPut 61 = .ok (.iload_n 1, 1) := by decide +kernel
theorem dX0_finishPut_62 : decode cX0_finishPut 62 = .ok (.laload, 1) := by decide +kernel
theorem dX0_finishPut_63 : decode cX0_finishPut 63 = .ok (.lastore, 1) := by decide +kernel
theorem dX0_finishPut_64 : decode cX0_finishPut 64 = .ok (.aload_n 0, 1) := by decide +kernel
theorem dX0_finishPut_65 : decode cX0_finishPut 65 = .ok (.getfield 20, 3) := by decide +kernel
theorem dX0_finishPut_68 : decode cX0_finishPut 68 = .ok (.iload_n 1, 1) := by decide +kernel
theorem dX0_finishPut_69 : decode cX0_finishPut 69 = .ok (.iconst (-1), 1) := by decide +kernel
theorem dX0_finishPut_70 : decode cX0_finishPut 70 = .ok (.iastore, 1) := by decide +kernel
theorem dX0_finishPut_71 : decode cX0_finishPut 71 = .ok (.iload_n 3, 1) := by decide +kernel
theorem dX0_finishPut_72 : decode cX0_finishPut 72 = .ok (.ifCond .eq 7, 3) := by decide +kernel
theorem dX0_finishPut_75 : decode cX0_finishPut 75 = .ok (.lconst 1, 1) := by decide +kernel
theorem dX0_finishPut_76 : decode cX0_finishPut 76 = .ok (.goto 4, 3) := by decide +kernel
theorem dX0_finishPut_79 : decode cX0_finishPut 79 = .ok (.lconst 0, 1) := by decide +kernel
theorem dX0_finishPut_80 : decode cX0_finishPut 80 = .ok (.lreturn, 1) := by decide +kernel
theorem dX0_isAt_0 : decode cX0_isAt 0 = .ok (.iload_n 1, 1) := by decide +kernel
theorem dX0_isAt_1 : decode cX0_isAt 1 = .ok (.aload_n 0, 1) := by decide +kernel
theorem dX0_isAt_2 : decode cX0_isAt 2 = .ok (.getfield 16, 3) := by decide +kernel
theorem dX0_isAt_5 : decode cX0_isAt 5 = .ok (.if_icmp .ge 18, 3) := by decide +kernel
theorem dX0_isAt_8 : decode cX0_isAt 8 = .ok (.aload_n 0, 1) := by decide +kernel
theorem dX0_isAt_9 : decode cX0_isAt 9 = .ok (.getfield 9, 3) := by decide +kernel
theorem dX0_isAt_12 : decode cX0_isAt 12 = .ok (.iload_n 1, 1) := by decide +kernel
theorem dX0_isAt_13 : decode cX0_isAt 13 = .ok (.laload, 1) := by decide +kernel
theorem dX0_isAt_14 : decode cX0_isAt 14 = .ok (.lload_n 2, 1) := by decide +kernel
theorem dX0_isAt_15 : decode cX0_isAt 15 = .ok (.lcmp, 1) := by decide +kernel
theorem dX0_isAt_16 : decode cX0_isAt 16 = .ok (.ifCond .ne 7, 3) := by decide +kernel
theorem dX0_isAt_19 : decode cX0_isAt 19 = .ok (.iconst 1, 1) := by decide +kernel
theorem dX0_isAt_20 : decode cX0_isAt 20 = .ok (.goto 4, 3) := by decide +kernel
theorem dX0_isAt_23 : decode cX0_isAt 23 = .ok (.iconst 0, 1) := by decide +kernel
theorem dX0_isAt_24 : decode cX0_isAt 24 = .ok (.ireturn, 1) := by decide +kernel
theorem dX0_openGap_0 : decode cX0_openGap 0 = .ok (.aload_n 0, 1) := by decide +kernel
theorem dX0_openGap_1 : decode cX0_openGap 1 = .ok (.getfield 16, 3) := by decide +kernel
theorem dX0_openGap_4 : decode cX0_openGap 4 = .ok (.istore_n 2, 1) := by decide +kernel
theorem dX0_openGap_5 : decode cX0_openGap 5 = .ok (.iload_n 2, 1) := by decide +kernel
theorem dX0_openGap_6 : decode cX0_openGap 6 = .ok (.iload_n 1, 1) := by decide +kernel
theorem dX0_openGap_7 : decode cX0_openGap 7 = .ok (.if_icmp .le 37, 3) := by decide +kernel
theorem dX0_openGap_10 : decode cX0_openGap 10 = .ok (.aload_n 0, 1) := by decide +kernel
theorem dX0_openGap_11 : decode cX0_openGap 11 = .ok (.getfield 9, 3) := by decide +kernel
theorem dX0_openGap_14 : decode cX0_openGap 14 = .ok (.iload_n 2, 1) := by decide +kernel
theorem dX0_openGap_15 : decode cX0_openGap 15 = .ok (.aload_n 0, 1) := by decide +kernel
theorem dX0_openGap_16 : decode cX0_openGap 16 = .ok (.getfield 9, 3) := by decide +kernel
theorem dX0_openGap_19 : decode cX0_openGap 19 = .ok (.iload_n 2, 1) := by decide +kernel
theorem dX0_openGap_20 : decode cX0_openGap 20 = .ok (.iconst 1, 1) := by decide +kernel
theorem dX0_openGap_21 : decode cX0_openGap 21 = .ok (.isub, 1) := by decide +kernel
theorem dX0_openGap_22 : decode cX0_openGap 22 = .ok (.laload, 1) := by decide +kernel
theorem dX0_openGap_23 : decode cX0_openGap 23 = .ok (.lastore, 1) := by decide +kernel
theorem dX0_openGap_24 : decode cX0_openGap 24 = .ok (.aload_n 0, 1) := by decide +kernel
theorem dX0_openGap_25 : decode cX0_openGap 25 = .ok (.getfield 13, 3) := by decide +kernel
theorem dX0_openGap_28 : decode cX0_openGap 28 = .ok (.iload_n 2, 1) := by decide +kernel
theorem dX0_openGap_29 : decode cX0_openGap 29 = .ok (.aload_n 0, 1) := by decide +kernel
theorem dX0_openGap_30 : decode cX0_openGap 30 = .ok (.getfield 13, 3) := by decide +kernel
theorem dX0_openGap_33 : decode cX0_openGap 33 = .ok (.iload_n 2, 1) := by decide +kernel
theorem dX0_openGap_34 : decode cX0_openGap 34 = .ok (.iconst 1, 1) := by decide +kernel
theorem dX0_openGap_35 : decode cX0_openGap 35 = .ok (.isub, 1) := by decide +kernel
theorem dX0_openGap_36 : decode cX0_openGap 36 = .ok (.laload, 1) := by decide +kernel
theorem dX0_openGap_37 : decode cX0_openGap 37 = .ok (.lastore, 1) := by decide +kernel
theorem dX0_openGap_38 : decode cX0_openGap 38 = .ok (.iinc 2 (-1), 3) := by decide +kernel
theorem dX0_openGap_41 : decode cX0_openGap 41 = .ok (.goto (-36), 3) := by decide +kernel
theorem dX0_openGap_44 : decode cX0_openGap 44 = .ok (.aload_n 0, 1) := by decide +kernel
theorem dX0_openGap_45 : decode cX0_openGap 45 = .ok (.dup, 1) := by decide +kernel
theorem dX0_openGap_46 : decode cX0_openGap 46 = .ok (.getfield 16, 3) := by decide +kernel
theorem dX0_openGap_49 : decode cX0_openGap 49 = .ok (.iconst 1, 1) := by decide +kernel
theorem dX0_openGap_50 : decode cX0_openGap 50 = .ok (.iadd, 1) := by decide +kernel
theorem dX0_openGap_51 : decode cX0_openGap 51 = .ok (.putfield 16, 3) := by decide +kernel
theorem dX0_openGap_54 : decode cX0_openGap 54 = .ok (.return_, 1) := by decide +kernel
theorem dX0_closeGap_0 : decode cX0_closeGap 0 = .ok (.aload_n 0, 1) := by decide +kernel
theorem dX0_closeGap_1 : decode cX0_closeGap 1 = .ok (.dup, 1) := by decide +kernel
theorem dX0_closeGap_2 : decode cX0_closeGap 2 = .ok (.getfield 16, 3) := by decide +kernel
theorem dX0_closeGap_5 : decode cX0_closeGap 5 = .ok (.iconst 1, 1) := by decide +kernel
theorem dX0_closeGap_6 : decode cX0_closeGap 6 = .ok (.isub, 1) := by decide +kernel
theorem dX0_closeGap_7 : decode cX0_closeGap 7 = .ok (.putfield 16, 3) := by decide +kernel
theorem dX0_closeGap_10 : decode cX0_closeGap 10 = .ok (.iload_n 1, 1) := by decide +kernel
theorem dX0_closeGap_11 : decode cX0_closeGap 11 = .ok (.istore_n 2, 1) := by decide +kernel
theorem dX0_closeGap_12 : decode cX0_closeGap 12 = .ok (.iload_n 2, 1) := by decide +kernel
theorem dX0_closeGap_13 : decode cX0_closeGap 13 = .ok (.aload_n 0, 1) := by decide +kernel
theorem dX0_closeGap_14 : decode cX0_closeGap 14 = .ok (.getfield 16, 3) := by decide +kernel
theorem dX0_closeGap_17 : decode cX0_closeGap 17 = .ok (.if_icmp .ge 37, 3) := by decide +kernel
theorem dX0_closeGap_20 : decode cX0_closeGap 20 = .ok (.aload_n 0, 1) := by decide +kernel
theorem dX0_closeGap_21 : decode cX0_closeGap 21 = .ok (.getfield 9, 3) := by decide +kernel
theorem dX0_closeGap_24 : decode cX0_closeGap 24 = .ok (.iload_n 2, 1) := by decide +kernel
theorem dX0_closeGap_25 : decode cX0_closeGap 25 = .ok (.aload_n 0, 1) := by decide +kernel
theorem dX0_closeGap_26 : decode cX0_closeGap 26 = .ok (.getfield 9, 3) := by decide +kernel
theorem dX0_closeGap_29 : decode cX0_closeGap 29 = .ok (.iload_n 2, 1) := by decide +kernel
theorem dX0_closeGap_30 : decode cX0_closeGap 30 = .ok (.iconst 1, 1) := by decide +kernel
theorem dX0_closeGap_31 : decode cX0_closeGap 31 = .ok (.iadd, 1) := by decide +kernel
theorem dX0_closeGap_32 : decode cX0_closeGap 32 = .ok (.laload, 1) := by decide +kernel
theorem dX0_closeGap_33 : decode cX0_closeGap 33 = .ok (.lastore, 1) := by decide +kernel
theorem dX0_closeGap_34 : decode cX0_closeGap 34 = .ok (.aload_n 0, 1) := by decide +kernel
theorem dX0_closeGap_35 : decode cX0_closeGap 35 = .ok (.getfield 13, 3) := by decide +kernel
theorem dX0_closeGap_38 : decode cX0_closeGap 38 = .ok (.iload_n 2, 1) := by decide +kernel
theorem dX0_closeGap_39 : decode cX0_closeGap 39 = .ok (.aload_n 0, 1) := by decide +kernel
theorem dX0_closeGap_40 : decode cX0_closeGap 40 = .ok (.getfield 13, 3) := by decide +kernel
theorem dX0_closeGap_43 : decode cX0_closeGap 43 = .ok (.iload_n 2, 1) := by decide +kernel
theorem dX0_closeGap_44 : decode cX0_closeGap 44 = .ok (.iconst 1, 1) := by decide +kernel
theorem dX0_closeGap_45 : decode cX0_closeGap 45 = .ok (.iadd, 1) := by decide +kernel
theorem dX0_closeGap_46 : decode cX0_closeGap 46 = .ok (.laload, 1) := by decide +kernel
theorem dX0_closeGap_47 : decode cX0_closeGap 47 = .ok (.lastore, 1) := by decide +kernel
theorem dX0_closeGap_48 : decode cX0_closeGap 48 = .ok (.iinc 2 1, 3) := by decide +kernel
theorem dX0_closeGap_51 : decode cX0_closeGap 51 = .ok (.goto (-39), 3) := by decide +kernel
theorem dX0_closeGap_54 : decode cX0_closeGap 54 = .ok (.return_, 1) := by decide +kernel
theorem dX0_drop_0 : decode cX0_drop 0 = .ok (.iload_n 1, 1) := by decide +kernel
theorem dX0_drop_1 : decode cX0_drop 1 = .ok (.invokestatic 30, 3) := by decide +kernel
theorem dX0_drop_4 : decode cX0_drop 4 = .ok (.aload_n 0, 1) := by decide +kernel
theorem dX0_drop_5 : decode cX0_drop 5 = .ok (.getfield 20, 3) := by decide +kernel
theorem dX0_drop_8 : decode cX0_drop 8 = .ok (.iload_n 1, 1) := by decide +kernel
theorem dX0_drop_9 : decode cX0_drop 9 = .ok (.iaload, 1) := by decide +kernel
theorem dX0_drop_10 : decode cX0_drop 10 = .ok (.iconst (-1), 1) := by decide +kernel
theorem dX0_drop_11 : decode cX0_drop 11 = .ok (.if_icmp .eq 7, 3) := by decide +kernel
theorem dX0_drop_14 : decode cX0_drop 14 = .ok (.iconst 1, 1) := by decide +kernel
theorem dX0_drop_15 : decode cX0_drop 15 = .ok (.goto 4, 3) := by decide +kernel
theorem dX0_drop_18 : decode cX0_drop 18 = .ok (.iconst 0, 1) := by decide +kernel
theorem dX0_drop_19 : decode cX0_drop 19 = .ok (.istore_n 2, 1) := by decide +kernel
theorem dX0_drop_20 : decode cX0_drop 20 = .ok (.aload_n 0, 1) := by decide +kernel
theorem dX0_drop_21 : decode cX0_drop 21 = .ok (.getfield 20, 3) := by decide +kernel
theorem dX0_drop_24 : decode cX0_drop 24 = .ok (.iload_n 1, 1) := by decide +kernel
theorem dX0_drop_25 : decode cX0_drop 25 = .ok (.iconst (-1), 1) := by decide +kernel
theorem dX0_drop_26 : decode cX0_drop 26 = .ok (.iastore, 1) := by decide +kernel
theorem dX0_drop_27 : decode cX0_drop 27 = .ok (.iload_n 2, 1) := by decide +kernel
theorem dX0_drop_28 : decode cX0_drop 28 = .ok (.ireturn, 1) := by decide +kernel
theorem dX0_tidy_0 : decode cX0_tidy 0 = .ok (.iload_n 1, 1) := by decide +kernel
theorem dX0_tidy_1 : decode cX0_tidy 1 = .ok (.invokestatic 46, 3) := by decide +kernel
theorem dX0_tidy_4 : decode cX0_tidy 4 = .ok (.return_, 1) := by decide +kernel
theorem dX0_kind_0 : decode cX0_kind 0 = .ok (.iload_n 1, 1) := by decide +kernel
theorem dX0_kind_1 : decode cX0_kind 1 = .ok (.invokestatic 30, 3) := by decide +kernel
theorem dX0_kind_4 : decode cX0_kind 4 = .ok (.aload_n 0, 1) := by decide +kernel
theorem dX0_kind_5 : decode cX0_kind 5 = .ok (.getfield 20, 3) := by decide +kernel
theorem dX0_kind_8 : decode cX0_kind 8 = .ok (.iload_n 1, 1) := by decide +kernel
theorem dX0_kind_9 : decode cX0_kind 9 = .ok (.iaload, 1) := by decide +kernel
theorem dX0_kind_10 : decode cX0_kind 10 = .ok (.ireturn, 1) := by decide +kernel
theorem dX0_key_0 : decode cX0_key 0 = .ok (.aload_n 0, 1) := by decide +kernel
theorem dX0_key_1 : decode cX0_key 1 = .ok (.iload_n 1, 1) := by decide +kernel
theorem dX0_key_2 : decode cX0_key 2 = .ok (.invokevirtual 72, 3) := by decide +kernel
theorem dX0_key_5 : decode cX0_key 5 = .ok (.aload_n 0, 1) := by decide +kernel
theorem dX0_key_6 : decode cX0_key 6 = .ok (.getfield 9, 3) := by decide +kernel
theorem dX0_key_9 : decode cX0_key 9 = .ok (.iload_n 1, 1) := by decide +kernel
theorem dX0_key_10 : decode cX0_key 10 = .ok (.laload, 1) := by decide +kernel
theorem dX0_key_11 : decode cX0_key 11 = .ok (.lreturn, 1) := by decide +kernel
theorem dX0_requirePlace_0 : decode cX0_requirePlace 0 = .ok (.iload_n 1, 1) := by decide +kernel
theorem dX0_requirePlace_1 : decode cX0_requirePlace 1 = .ok (.ifCond .lt 11, 3) := by decide +kernel
theorem dX0_requirePlace_4 : decode cX0_requirePlace 4 = .ok (.iload_n 1, 1) := by decide +kernel
theorem dX0_requirePlace_5 : decode cX0_requirePlace 5 = .ok (.aload_n 0, 1) := by decide +kernel
theorem dX0_requirePlace_6 : decode cX0_requirePlace 6 = .ok (.getfield 16, 3) := by decide +kernel
theorem dX0_requirePlace_9 : decode cX0_requirePlace 9 = .ok (.if_icmp .lt 13, 3) := by decide +kernel
theorem dX0_requirePlace_12 : decode cX0_requirePlace 12 = .ok (.new 81, 3) := by decide +kernel
theorem dX0_requirePlace_15 : decode cX0_requirePlace 15 = .ok (.dup, 1) := by decide +kernel
theorem dX0_requirePlace_16 : decode cX0_requirePlace 16 = .ok (.ldc 66, 2) := by decide +kernel
theorem dX0_requirePlace_18 : decode cX0_requirePlace 18 = .ok (.invokespecial 83, 3) := by decide +kernel
theorem dX0_requirePlace_21 : decode cX0_requirePlace 21 = .ok (.athrow, 1) := by decide +kernel
theorem dX0_requirePlace_22 : decode cX0_requirePlace 22 = .ok (.return_, 1) := by decide +kernel
theorem dX0_value_0 : decode cX0_value 0 = .ok (.aload_n 0, 1) := by decide +kernel
theorem dX0_value_1 : decode cX0_value 1 = .ok (.iload_n 1, 1) := by decide +kernel
theorem dX0_value_2 : decode cX0_value 2 = .ok (.invokevirtual 72, 3) := by decide +kernel
theorem dX0_value_5 : decode cX0_value 5 = .ok (.aload_n 0, 1) := by decide +kernel
theorem dX0_value_6 : decode cX0_value 6 = .ok (.getfield 13, 3) := by decide +kernel
theorem dX0_value_9 : decode cX0_value 9 = .ok (.iload_n 1, 1) := by decide +kernel
theorem dX0_value_10 : decode cX0_value 10 = .ok (.laload, 1) := by decide +kernel
theorem dX0_value_11 : decode cX0_value 11 = .ok (.lreturn, 1) := by decide +kernel
end
section
set_option maxHeartbeats 1000000 in
set_option maxRecDepth 100000 in
theorem c_requireSlot (l : Launch) (hl9 : l.stackTraces = false) (D : va_G) (slot : Int32) (sz : Nat) (hs : okS slot) : Met l yX0_requireSlot wsX0_requireSlot ({ frames := 0, cells := 0, slots := 0, locals := 0 }) (cP D ([]) [] [.int slot] sz) (cQv D ([]) True ([]) (va_A [] sz)) 0 0 (va_A [] sz) := by
  refine mk_n (cc := cX0_requireSlot) (maxL := 1) (ret := none) (fun A => cQv D ([]) True ([]) A) (by decide) rfl (Nat.le_of_ble_eq_true rfl) ?_
  intro p e s m below meth c ls A hx hb hr hml hlocks hnm hown hts hP hK hD hZ hA hS hl
  have hown : s.vm.findClass RX0 = some m.cls := hown
  have hl : lv_has ls 1 [(0, .int slot)] := hl
  refine lv_iload_n hx hb dX0_requireSlot_0 rfl (lv_at hl 0 rfl) ?_
  refine lv_if_lt (tgt := 10) hx hb dX0_requireSlot_1 (by decide) (fun h1 => ?_) (fun h1 => ?_)
  · skip
    exact absurd h1 hs.1
  · skip
    refine lv_iload_n hx hb dX0_requireSlot_4 rfl (lv_at hl 0 rfl) ?_
    refine lv_bipush (v := 8) hx hb dX0_requireSlot_5 (by decide) ?_
    refine lv_icmp_lt (tgt := 20) hx hb dX0_requireSlot_7 (by decide) (fun h2 => ?_) (fun h2 => ?_)
    · skip
      exact fn_v hx hb hr hlocks (by decide) (by decide) trivial hP hK hD hS dX0_requireSlot_20
    · skip
      exact absurd hs.2 h2
set_option maxHeartbeats 1000000 in
set_option maxRecDepth 100000 in
theorem t_requireSlot (l : Launch) (hl9 : l.stackTraces = false) (D : va_G) (slot : Int32) (sz : Nat) (hs : ¬ (okS slot)) : vx_Met l yX0_requireSlot wsX0_requireSlot ({ frames := 6, cells := 1, slots := 6, locals := 82 }) (cP D ([]) [] [.int slot] sz) (cQv D ([]) False ([]) (va_A [] sz)) (cX D ([]) (fun E => E = "java/lang/IllegalArgumentException") ([]) (va_A [] sz)) 1 6 (va_A [] sz) := by
  refine mk_x (cc := cX0_requireSlot) (maxL := 1) (ret := none) (fun A => cQv D ([]) False ([]) A) (fun A => cX D ([]) (fun E => E = "java/lang/IllegalArgumentException") ([]) A) (by decide) rfl (Nat.le_of_ble_eq_true rfl) ?_
  intro p e s m below meth c ls A hx hb hr hml ht9 hlocks hnm hown hts hP hK hD hZ hA hS hl
  have hown : s.vm.findClass RX0 = some m.cls := hown
  have hl : lv_has ls 1 [(0, .int slot)] := hl
  refine lv_iload_n hx hb dX0_requireSlot_0 rfl (lv_at hl 0 rfl) ?_
  refine lv_if_lt (tgt := 10) hx hb dX0_requireSlot_1 (by decide) (fun h1 => ?_) (fun h1 => ?_)
  · skip
    exact fx_throw (cls := "java/lang/IllegalArgumentException") (text := "no such slot") (ic := 38) hx hb hl9 hown (by decide +kernel) (hts (.classLink RX0 34 "java/lang/IllegalArgumentException") (wm mb_0)) (hts (.initialized "java/lang/IllegalArgumentException") (wm mb_1)) (by decide) (hat_38 hts hZ.2.2) hgd_38 hZ hS (hl.1.trans hml.symm) dX0_requireSlot_10 dX0_requireSlot_13 dX0_requireSlot_14 dX0_requireSlot_16 dX0_requireSlot_19 ht9 (by decide) (by decide) (by decide) (by decide) hlocks (by decide) (by decide) rfl hP hK hD
  · skip
    refine lv_iload_n hx hb dX0_requireSlot_4 rfl (lv_at hl 0 rfl) ?_
    refine lv_bipush (v := 8) hx hb dX0_requireSlot_5 (by decide) ?_
    refine lv_icmp_lt (tgt := 20) hx hb dX0_requireSlot_7 (by decide) (fun h2 => ?_) (fun h2 => ?_)
    · skip
      exact absurd ⟨h1, h2⟩ hs
    · skip
      exact fx_throw (cls := "java/lang/IllegalArgumentException") (text := "no such slot") (ic := 38) hx hb hl9 hown (by decide +kernel) (hts (.classLink RX0 34 "java/lang/IllegalArgumentException") (wm mb_0)) (hts (.initialized "java/lang/IllegalArgumentException") (wm mb_1)) (by decide) (hat_38 hts hZ.2.2) hgd_38 hZ hS (hl.1.trans hml.symm) dX0_requireSlot_10 dX0_requireSlot_13 dX0_requireSlot_14 dX0_requireSlot_16 dX0_requireSlot_19 ht9 (by decide) (by decide) (by decide) (by decide) hlocks (by decide) (by decide) rfl hP hK hD
set_option maxHeartbeats 1000000 in
set_option maxRecDepth 100000 in
theorem c_requireSteps (l : Launch) (hl9 : l.stackTraces = false) (D : va_G) (x : Int32) (sz : Nat) (hs : okN x) : Met l yX0_requireSteps wsX0_requireSteps ({ frames := 0, cells := 0, slots := 0, locals := 0 }) (cP D ([]) [] [.int x] sz) (cQv D ([]) True ([]) (va_A [] sz)) 0 0 (va_A [] sz) := by
  refine mk_n (cc := cX0_requireSteps) (maxL := 1) (ret := none) (fun A => cQv D ([]) True ([]) A) (by decide) rfl (Nat.le_of_ble_eq_true rfl) ?_
  intro p e s m below meth c ls A hx hb hr hml hlocks hnm hown hts hP hK hD hZ hA hS hl
  have hown : s.vm.findClass RX0 = some m.cls := hown
  have hl : lv_has ls 1 [(0, .int x)] := hl
  refine lv_iload_n hx hb dX0_requireSteps_0 rfl (lv_at hl 0 rfl) ?_
  refine lv_if_lt (tgt := 10) hx hb dX0_requireSteps_1 (by decide) (fun h1 => ?_) (fun h1 => ?_)
  · skip
    exact absurd h1 hs.1
  · skip
    refine lv_iload_n hx hb dX0_requireSteps_4 rfl (lv_at hl 0 rfl) ?_
    refine lv_bipush (v := 20) hx hb dX0_requireSteps_5 (by decide) ?_
    refine lv_icmp_le (tgt := 20) hx hb dX0_requireSteps_7 (by decide) (fun h2 => ?_) (fun h2 => ?_)
    · skip
      exact fn_v hx hb hr hlocks (by decide) (by decide) trivial hP hK hD hS dX0_requireSteps_20
    · skip
      exact absurd hs.2 h2
set_option maxHeartbeats 1000000 in
set_option maxRecDepth 100000 in
theorem t_requireSteps (l : Launch) (hl9 : l.stackTraces = false) (D : va_G) (x : Int32) (sz : Nat) (hs : ¬ (okN x)) : vx_Met l yX0_requireSteps wsX0_requireSteps ({ frames := 6, cells := 1, slots := 6, locals := 82 }) (cP D ([]) [] [.int x] sz) (cQv D ([]) False ([]) (va_A [] sz)) (cX D ([]) (fun E => E = "java/lang/IllegalArgumentException") ([]) (va_A [] sz)) 1 6 (va_A [] sz) := by
  refine mk_x (cc := cX0_requireSteps) (maxL := 1) (ret := none) (fun A => cQv D ([]) False ([]) A) (fun A => cX D ([]) (fun E => E = "java/lang/IllegalArgumentException") ([]) A) (by decide) rfl (Nat.le_of_ble_eq_true rfl) ?_
  intro p e s m below meth c ls A hx hb hr hml ht9 hlocks hnm hown hts hP hK hD hZ hA hS hl
  have hown : s.vm.findClass RX0 = some m.cls := hown
  have hl : lv_has ls 1 [(0, .int x)] := hl
  refine lv_iload_n hx hb dX0_requireSteps_0 rfl (lv_at hl 0 rfl) ?_
  refine lv_if_lt (tgt := 10) hx hb dX0_requireSteps_1 (by decide) (fun h1 => ?_) (fun h1 => ?_)
  · skip
    exact fx_throw (cls := "java/lang/IllegalArgumentException") (text := "n is not 0 .. 20") (ic := 38) hx hb hl9 hown (by decide +kernel) (hts (.classLink RX0 34 "java/lang/IllegalArgumentException") (wm mb_0)) (hts (.initialized "java/lang/IllegalArgumentException") (wm mb_1)) (by decide) (hat_38 hts hZ.2.2) hgd_38 hZ hS (hl.1.trans hml.symm) dX0_requireSteps_10 dX0_requireSteps_13 dX0_requireSteps_14 dX0_requireSteps_16 dX0_requireSteps_19 ht9 (by decide) (by decide) (by decide) (by decide) hlocks (by decide) (by decide) rfl hP hK hD
  · skip
    refine lv_iload_n hx hb dX0_requireSteps_4 rfl (lv_at hl 0 rfl) ?_
    refine lv_bipush (v := 20) hx hb dX0_requireSteps_5 (by decide) ?_
    refine lv_icmp_le (tgt := 20) hx hb dX0_requireSteps_7 (by decide) (fun h2 => ?_) (fun h2 => ?_)
    · skip
      exact absurd ⟨h1, h2⟩ hs
    · skip
      exact fx_throw (cls := "java/lang/IllegalArgumentException") (text := "n is not 0 .. 20") (ic := 38) hx hb hl9 hown (by decide +kernel) (hts (.classLink RX0 34 "java/lang/IllegalArgumentException") (wm mb_0)) (hts (.initialized "java/lang/IllegalArgumentException") (wm mb_1)) (by decide) (hat_38 hts hZ.2.2) hgd_38 hZ hS (hl.1.trans hml.symm) dX0_requireSteps_10 dX0_requireSteps_13 dX0_requireSteps_14 dX0_requireSteps_16 dX0_requireSteps_19 ht9 (by decide) (by decide) (by decide) (by decide) hlocks (by decide) (by decide) rfl hP hK hD
set_option maxHeartbeats 1000000 in
set_option maxRecDepth 100000 in
theorem c_requirePlace (l : Launch) (hl9 : l.stackTraces = false) (D : va_G) (a : Nat → Nat) (k : Nat → ClassId) (n : Nat) (K V : Nat → Int64) (kd : Nat → Int32) (SK SV : Nat → Int64) (x : Int32) (sz : Nat) (hs : okP x n) : Met l yX0_requirePlace wsX0_requirePlace ({ frames := 0, cells := 0, slots := 0, locals := 0 }) (cP D (tX k) (wX a k n K V kd SK SV) [.ref (a 0), .int x] sz) (cQv D (tX k) True (wX a k n K V kd SK SV) (va_A (wX a k n K V kd SK SV) sz)) 0 0 (va_A (wX a k n K V kd SK SV) sz) := by
  refine mk_n (cc := cX0_requirePlace) (maxL := 2) (ret := none) (fun A => cQv D (tX k) True (wX a k n K V kd SK SV) A) (by decide) rfl (Nat.le_of_ble_eq_true rfl) ?_
  intro p e s m below meth c ls A hx hb hr hml hlocks hnm hown hts hP hK hD hZ hA hS hl
  have hown : s.vm.findClass RX0 = some m.cls := hown
  have hl : lv_has ls 2 [(0, .ref (a 0)), (1, .int x)] := hl
  refine lv_iload_n hx hb dX0_requirePlace_0 rfl (lv_at hl 1 rfl) ?_
  refine lv_if_lt (tgt := 12) hx hb dX0_requirePlace_1 (by decide) (fun h1 => ?_) (fun h1 => ?_)
  · skip
    exact absurd h1 hs.1
  · skip
    refine lv_iload_n hx hb dX0_requirePlace_4 rfl (lv_at hl 1 rfl) ?_
    refine lv_aload_n hx hb dX0_requirePlace_5 rfl (lv_at hl 0 rfl) ?_
    refine va_get (D := D) (ci := 0) (v := .int (nI n)) (C := RX0) (T := TX0) (N := 6) hx hb hts (fun w h => wm (ui_X0 w h)) hown hK hP 0 rfl rfl 2 (by decide) (hts (.fieldLink RX0 16 "LinkedIndex" "keyCount" "I") (wm mb_2)) (fun _ h9 => h9) rfl dX0_requirePlace_6 ?_
    refine lv_icmp_lt (tgt := 22) hx hb dX0_requirePlace_9 (by decide) (fun h2 => ?_) (fun h2 => ?_)
    · skip
      exact fn_v hx hb hr hlocks (by decide) (by decide) trivial hP hK hD hS dX0_requirePlace_22
    · skip
      exact absurd hs.2 h2
set_option maxHeartbeats 1000000 in
set_option maxRecDepth 100000 in
theorem t_requirePlace (l : Launch) (hl9 : l.stackTraces = false) (D : va_G) (a : Nat → Nat) (k : Nat → ClassId) (n : Nat) (K V : Nat → Int64) (kd : Nat → Int32) (SK SV : Nat → Int64) (x : Int32) (sz : Nat) (hs : ¬ (okP x n)) : vx_Met l yX0_requirePlace wsX0_requirePlace ({ frames := 6, cells := 1, slots := 6, locals := 82 }) (cP D (tX k) (wX a k n K V kd SK SV) [.ref (a 0), .int x] sz) (cQv D (tX k) False (wX a k n K V kd SK SV) (va_A (wX a k n K V kd SK SV) sz)) (cX D (tX k) (fun E => E = "java/lang/IndexOutOfBoundsException") (wX a k n K V kd SK SV) (va_A (wX a k n K V kd SK SV) sz)) 1 6 (va_A (wX a k n K V kd SK SV) sz) := by
  refine mk_x (cc := cX0_requirePlace) (maxL := 2) (ret := none) (fun A => cQv D (tX k) False (wX a k n K V kd SK SV) A) (fun A => cX D (tX k) (fun E => E = "java/lang/IndexOutOfBoundsException") (wX a k n K V kd SK SV) A) (by decide) rfl (Nat.le_of_ble_eq_true rfl) ?_
  intro p e s m below meth c ls A hx hb hr hml ht9 hlocks hnm hown hts hP hK hD hZ hA hS hl
  have hown : s.vm.findClass RX0 = some m.cls := hown
  have hl : lv_has ls 2 [(0, .ref (a 0)), (1, .int x)] := hl
  refine lv_iload_n hx hb dX0_requirePlace_0 rfl (lv_at hl 1 rfl) ?_
  refine lv_if_lt (tgt := 12) hx hb dX0_requirePlace_1 (by decide) (fun h1 => ?_) (fun h1 => ?_)
  · skip
    exact fx_throw (cls := "java/lang/IndexOutOfBoundsException") (text := "no such key") (ic := 83) hx hb hl9 hown (by decide +kernel) (hts (.classLink RX0 81 "java/lang/IndexOutOfBoundsException") (wm mb_3)) (hts (.initialized "java/lang/IndexOutOfBoundsException") (wm mb_4)) (by decide) (hat_83 hts hZ.2.2) hgd_83 hZ hS (hl.1.trans hml.symm) dX0_requirePlace_12 dX0_requirePlace_15 dX0_requirePlace_16 dX0_requirePlace_18 dX0_requirePlace_21 ht9 (by decide) (by decide) (by decide) (by decide) hlocks (by decide) (by decide) rfl hP hK hD
  · skip
    refine lv_iload_n hx hb dX0_requirePlace_4 rfl (lv_at hl 1 rfl) ?_
    refine lv_aload_n hx hb dX0_requirePlace_5 rfl (lv_at hl 0 rfl) ?_
    refine va_get (D := D) (ci := 0) (v := .int (nI n)) (C := RX0) (T := TX0) (N := 6) hx hb hts (fun w h => wm (ui_X0 w h)) hown hK hP 0 rfl rfl 2 (by decide) (hts (.fieldLink RX0 16 "LinkedIndex" "keyCount" "I") (wm mb_2)) (fun _ h9 => h9) rfl dX0_requirePlace_6 ?_
    refine lv_icmp_lt (tgt := 22) hx hb dX0_requirePlace_9 (by decide) (fun h2 => ?_) (fun h2 => ?_)
    · skip
      exact absurd ⟨h1, h2⟩ hs
    · skip
      exact fx_throw (cls := "java/lang/IndexOutOfBoundsException") (text := "no such key") (ic := 83) hx hb hl9 hown (by decide +kernel) (hts (.classLink RX0 81 "java/lang/IndexOutOfBoundsException") (wm mb_3)) (hts (.initialized "java/lang/IndexOutOfBoundsException") (wm mb_4)) (by decide) (hat_83 hts hZ.2.2) hgd_83 hZ hS (hl.1.trans hml.symm) dX0_requirePlace_12 dX0_requirePlace_15 dX0_requirePlace_16 dX0_requirePlace_18 dX0_requirePlace_21 ht9 (by decide) (by decide) (by decide) (by decide) hlocks (by decide) (by decide) rfl hP hK hD
set_option maxHeartbeats 1000000 in
set_option maxRecDepth 100000 in
theorem c_requireOperation (l : Launch) (hl9 : l.stackTraces = false) (D : va_G) (a : Nat → Nat) (k : Nat → ClassId) (n : Nat) (K V : Nat → Int64) (kd : Nat → Int32) (SK SV : Nat → Int64) (j : Nat) (sz : Nat) (hj : j < 8) (hs : ¬ kd j = -1) : Met l yX0_requireOperation wsX0_requireOperation ({ frames := 0, cells := 0, slots := 0, locals := 0 }) (cP D (tX k) (wX a k n K V kd SK SV) [.ref (a 0), .int (nI j)] sz) (cQv D (tX k) True (wX a k n K V kd SK SV) (va_A (wX a k n K V kd SK SV) sz)) 0 0 (va_A (wX a k n K V kd SK SV) sz) := by
  refine mk_n (cc := cX0_requireOperation) (maxL := 2) (ret := none) (fun A => cQv D (tX k) True (wX a k n K V kd SK SV) A) (by decide) rfl (Nat.le_of_ble_eq_true rfl) ?_
  intro p e s m below meth c ls A hx hb hr hml hlocks hnm hown hts hP hK hD hZ hA hS hl
  have hown : s.vm.findClass RX0 = some m.cls := hown
  have hl : lv_has ls 2 [(0, .ref (a 0)), (1, .int (nI j))] := hl
  refine lv_aload_n hx hb dX0_requireOperation_0 rfl (lv_at hl 0 rfl) ?_
  refine va_get (D := D) (ci := 0) (v := .ref (a 3)) (C := RX0) (T := TX0) (N := 6) hx hb hts (fun w h => wm (ui_X0 w h)) hown hK hP 0 rfl rfl 3 (by decide) (hts (.fieldLink RX0 20 "LinkedIndex" "slotKinds" "[I") (wm mb_5)) (fun _ h9 => h9) rfl dX0_requireOperation_1 ?_
  refine lv_iload_n hx hb dX0_requireOperation_4 rfl (lv_at hl 1 rfl) ?_
  refine x_iald (j := j) hx hb hK hP 3 2 rfl rfl hj (by decide) dX0_requireOperation_5 ?_
  refine lv_iconst (v := (-1)) hx hb dX0_requireOperation_6 (by decide) ?_
  refine lv_icmp_ne (tgt := 20) hx hb dX0_requireOperation_7 (by decide) (fun h1 => ?_) (fun h1 => ?_)
  · skip
    exact fn_v hx hb hr hlocks (by decide) (by decide) trivial hP hK hD hS dX0_requireOperation_20
  · skip
    exact absurd h1 hs
set_option maxHeartbeats 1000000 in
set_option maxRecDepth 100000 in
theorem t_requireOperation (l : Launch) (hl9 : l.stackTraces = false) (D : va_G) (a : Nat → Nat) (k : Nat → ClassId) (n : Nat) (K V : Nat → Int64) (kd : Nat → Int32) (SK SV : Nat → Int64) (j : Nat) (sz : Nat) (hj : j < 8) (hs : kd j = -1) : vx_Met l yX0_requireOperation wsX0_requireOperation ({ frames := 6, cells := 1, slots := 6, locals := 82 }) (cP D (tX k) (wX a k n K V kd SK SV) [.ref (a 0), .int (nI j)] sz) (cQv D (tX k) False (wX a k n K V kd SK SV) (va_A (wX a k n K V kd SK SV) sz)) (cX D (tX k) (fun E => E = "java/lang/IllegalStateException") (wX a k n K V kd SK SV) (va_A (wX a k n K V kd SK SV) sz)) 1 6 (va_A (wX a k n K V kd SK SV) sz) := by
  refine mk_x (cc := cX0_requireOperation) (maxL := 2) (ret := none) (fun A => cQv D (tX k) False (wX a k n K V kd SK SV) A) (fun A => cX D (tX k) (fun E => E = "java/lang/IllegalStateException") (wX a k n K V kd SK SV) A) (by decide) rfl (Nat.le_of_ble_eq_true rfl) ?_
  intro p e s m below meth c ls A hx hb hr hml ht9 hlocks hnm hown hts hP hK hD hZ hA hS hl
  have hown : s.vm.findClass RX0 = some m.cls := hown
  have hl : lv_has ls 2 [(0, .ref (a 0)), (1, .int (nI j))] := hl
  refine lv_aload_n hx hb dX0_requireOperation_0 rfl (lv_at hl 0 rfl) ?_
  refine va_get (D := D) (ci := 0) (v := .ref (a 3)) (C := RX0) (T := TX0) (N := 6) hx hb hts (fun w h => wm (ui_X0 w h)) hown hK hP 0 rfl rfl 3 (by decide) (hts (.fieldLink RX0 20 "LinkedIndex" "slotKinds" "[I") (wm mb_5)) (fun _ h9 => h9) rfl dX0_requireOperation_1 ?_
  refine lv_iload_n hx hb dX0_requireOperation_4 rfl (lv_at hl 1 rfl) ?_
  refine x_iald (j := j) hx hb hK hP 3 2 rfl rfl hj (by decide) dX0_requireOperation_5 ?_
  refine lv_iconst (v := (-1)) hx hb dX0_requireOperation_6 (by decide) ?_
  refine lv_icmp_ne (tgt := 20) hx hb dX0_requireOperation_7 (by decide) (fun h1 => ?_) (fun h1 => ?_)
  · skip
    exact absurd hs h1
  · skip
    exact fx_throw (cls := "java/lang/IllegalStateException") (text := "the slot is empty") (ic := 45) hx hb hl9 hown (by decide +kernel) (hts (.classLink RX0 41 "java/lang/IllegalStateException") (wm mb_6)) (hts (.initialized "java/lang/IllegalStateException") (wm mb_7)) (by decide) (hat_45 hts hZ.2.2) hgd_45 hZ hS (hl.1.trans hml.symm) dX0_requireOperation_10 dX0_requireOperation_13 dX0_requireOperation_14 dX0_requireOperation_16 dX0_requireOperation_19 ht9 (by decide) (by decide) (by decide) (by decide) hlocks (by decide) (by decide) rfl hP hK hD
set_option maxHeartbeats 1000000 in
set_option maxRecDepth 100000 in
theorem c_placeOf (l : Launch) (hl9 : l.stackTraces = false) (D : va_G) (a : Nat → Nat) (k : Nat → ClassId) (n : Nat) (K V : Nat → Int64) (kd : Nat → Int32) (SK SV : Nat → Int64) (key : Int64) (sz : Nat) (hn : n ≤ 100) : Met l yX0_placeOf wsX0_placeOf ({ frames := 0, cells := 0, slots := 0, locals := 0 }) (cP D (tX k) (wX a k n K V kd SK SV) [.ref (a 0), .long key] sz) (cQi D (tX k) (fun r => r = nI (rk K key n)) (wX a k n K V kd SK SV) (va_A (wX a k n K V kd SK SV) sz)) 0 0 (va_A (wX a k n K V kd SK SV) sz) := by
  refine mk_n (cc := cX0_placeOf) (maxL := 4) (ret := (some .int)) (fun A => cQi D (tX k) (fun r => r = nI (rk K key n)) (wX a k n K V kd SK SV) A) (by decide) rfl (Nat.le_of_ble_eq_true rfl) ?_
  intro p e s m below meth c ls A hx hb hr hml hlocks hnm hown hts hP hK hD hZ hA hS hl
  have hown : s.vm.findClass RX0 = some m.cls := hown
  have hl : lv_has ls 4 [(0, .ref (a 0)), (1, .long key)] := hl
  refine lv_iconst (v := 0) hx hb dX0_placeOf_0 (by decide) ?_
  refine lv_istore_n (lv' := [(3, .int 0), (0, .ref (a 0)), (1, .long key)]) hx hb dX0_placeOf_1 rfl hl (by decide) rfl (fun ls hl => ?_)
  have loop : ∀ (f i : Nat), n - i < f → i ≤ n → rkF K key (n - i) i = rk K key n → ∀ ls : Array Slot, lv_has ls 4 [(3, .int (nI i)), (0, .ref (a 0)), (1, .long key)] → W p l e ({ frames := 0, cells := 0, slots := 0, locals := 0 }) s m ([.ref (a 0), .long key] : List Value).toArray below meth c s.heap [] 0 0 (MQ below (cQi D (tX k) (fun r => r = nI (rk K key n)) (wX a k n K V kd SK SV) A) ([.ref (a 0), .long key] : List Value).toArray s 0 0 A) (F0 m 2 ls []) := by
    intro f
    induction f with
    | zero => intro i hf; omega
    | succ f ih =>
      intro i hf hi hk ls hl
      refine lv_iload_n hx hb dX0_placeOf_2 rfl (lv_at hl 0 rfl) ?_
      refine lv_aload_n hx hb dX0_placeOf_3 rfl (lv_at hl 1 rfl) ?_
      refine va_get (D := D) (ci := 0) (v := .int (nI n)) (C := RX0) (T := TX0) (N := 6) hx hb hts (fun w h => wm (ui_X0 w h)) hown hK hP 0 rfl rfl 2 (by decide) (hts (.fieldLink RX0 16 "LinkedIndex" "keyCount" "I") (wm mb_2)) (fun _ h9 => h9) rfl dX0_placeOf_4 ?_
      refine lv_icmp_ge (tgt := 27) hx hb dX0_placeOf_7 (by decide) (fun h1 => ?_) (fun h1 => ?_)
      · skip
        have h1 : n ≤ i := (nI_leI (by omega) (by omega)).mp h1
        refine lv_iload_n hx hb dX0_placeOf_27 rfl (lv_at hl 0 rfl) ?_
        exact fn_i hx hb hr hlocks (by decide) (by decide) (by rw [← hk, rkF_z h1]) hP hK hD hS dX0_placeOf_28
      · skip
        have h1 : i < n := Nat.lt_of_not_le (fun q => h1 ((nI_leI (by omega) (by omega)).mpr q))
        refine lv_aload_n hx hb dX0_placeOf_10 rfl (lv_at hl 1 rfl) ?_
        refine va_get (D := D) (ci := 0) (v := .ref (a 1)) (C := RX0) (T := TX0) (N := 6) hx hb hts (fun w h => wm (ui_X0 w h)) hown hK hP 0 rfl rfl 0 (by decide) (hts (.fieldLink RX0 9 "LinkedIndex" "keys" "[J") (wm mb_8)) (fun _ h9 => h9) rfl dX0_placeOf_11 ?_
        refine lv_iload_n hx hb dX0_placeOf_14 rfl (lv_at hl 0 rfl) ?_
        refine x_lald (j := i) hx hb hK hP 1 0 rfl rfl (by omega) (by decide) dX0_placeOf_15 ?_
        refine lv_lload_n hx hb dX0_placeOf_16 rfl (lv_at hl 2 rfl) ?_
        refine W.lcmp hx hb dX0_placeOf_17 ?_
        refine lv_if_ge (tgt := 27) hx hb dX0_placeOf_18 (by decide) (fun h2 => ?_) (fun h2 => ?_)
        · skip
          have h2 : ¬ K i < key := fun q => i64_nltle q ((lg_cmp_ge _ _).mp h2)
          refine lv_iload_n hx hb dX0_placeOf_27 rfl (lv_at hl 0 rfl) ?_
          exact fn_i hx hb hr hlocks (by decide) (by decide) (by rw [← hk, rkF_e h1 h2]) hP hK hD hS dX0_placeOf_28
        · skip
          have h2 : K i < key := i64_nle (fun q => h2 ((lg_cmp_ge _ _).mpr q))
          refine lv_iinc (k := 0) (v := nI (i + 1)) (lv' := [(3, .int (nI (i + 1))), (0, .ref (a 0)), (1, .long key)]) hx hb dX0_placeOf_21 hl rfl (by rw [show Int32.ofInt 1 = 1 from by decide]; exact nI_1 _) (by decide) rfl (fun ls hl => ?_)
          refine lv_goto (tgt := 2) hx hb dX0_placeOf_24 (by decide) ?_
          exact ih (i + 1) (by omega) (by omega) (by rw [← rkF_s h1 h2]; exact hk) ls hl
  exact loop (n + 1) 0 (by omega) (by omega) rfl ls hl
set_option maxHeartbeats 1000000 in
set_option maxRecDepth 100000 in
theorem c_isAt (l : Launch) (hl9 : l.stackTraces = false) (D : va_G) (a : Nat → Nat) (k : Nat → ClassId) (n : Nat) (K V : Nat → Int64) (kd : Nat → Int32) (SK SV : Nat → Int64) (r : Nat) (key : Int64) (sz : Nat) (hr9 : r ≤ 100) (hn : n ≤ 100) : Met l yX0_isAt wsX0_isAt ({ frames := 0, cells := 0, slots := 0, locals := 0 }) (cP D (tX k) (wX a k n K V kd SK SV) [.ref (a 0), .int (nI r), .long key] sz) (cQi D (tX k) (fun v => v = (if atR K n key r then 1 else 0)) (wX a k n K V kd SK SV) (va_A (wX a k n K V kd SK SV) sz)) 0 0 (va_A (wX a k n K V kd SK SV) sz) := by
  refine mk_n (cc := cX0_isAt) (maxL := 4) (ret := (some .boolean)) (fun A => cQi D (tX k) (fun v => v = (if atR K n key r then 1 else 0)) (wX a k n K V kd SK SV) A) (by decide) rfl (Nat.le_of_ble_eq_true rfl) ?_
  intro p e s m below meth c ls A hx hb hr hml hlocks hnm hown hts hP hK hD hZ hA hS hl
  have hown : s.vm.findClass RX0 = some m.cls := hown
  have hl : lv_has ls 4 [(0, .ref (a 0)), (1, .int (nI r)), (2, .long key)] := hl
  refine lv_iload_n hx hb dX0_isAt_0 rfl (lv_at hl 1 rfl) ?_
  refine lv_aload_n hx hb dX0_isAt_1 rfl (lv_at hl 0 rfl) ?_
  refine va_get (D := D) (ci := 0) (v := .int (nI n)) (C := RX0) (T := TX0) (N := 6) hx hb hts (fun w h => wm (ui_X0 w h)) hown hK hP 0 rfl rfl 2 (by decide) (hts (.fieldLink RX0 16 "LinkedIndex" "keyCount" "I") (wm mb_2)) (fun _ h9 => h9) rfl dX0_isAt_2 ?_
  refine lv_icmp_ge (tgt := 23) hx hb dX0_isAt_5 (by decide) (fun h1 => ?_) (fun h1 => ?_)
  · skip
    have h1 : n ≤ r := (nI_leI (by omega) (by omega)).mp h1
    refine lv_iconst (v := 0) hx hb dX0_isAt_23 (by decide) ?_
    exact fn_z hx hb hr (by decide) hlocks (by decide) (by decide) (by rw [if_neg (fun q => absurd q.1 (by omega))]) hP hK hD hS dX0_isAt_24
  · skip
    have h1 : r < n := Nat.lt_of_not_le (fun q => h1 ((nI_leI (by omega) (by omega)).mpr q))
    refine lv_aload_n hx hb dX0_isAt_8 rfl (lv_at hl 0 rfl) ?_
    refine va_get (D := D) (ci := 0) (v := .ref (a 1)) (C := RX0) (T := TX0) (N := 6) hx hb hts (fun w h => wm (ui_X0 w h)) hown hK hP 0 rfl rfl 0 (by decide) (hts (.fieldLink RX0 9 "LinkedIndex" "keys" "[J") (wm mb_8)) (fun _ h9 => h9) rfl dX0_isAt_9 ?_
    refine lv_iload_n hx hb dX0_isAt_12 rfl (lv_at hl 1 rfl) ?_
    refine x_lald (j := r) hx hb hK hP 1 0 rfl rfl (by omega) (by decide) dX0_isAt_13 ?_
    refine lv_lload_n hx hb dX0_isAt_14 rfl (lv_at hl 2 rfl) ?_
    refine W.lcmp hx hb dX0_isAt_15 ?_
    refine lv_if_ne (tgt := 23) hx hb dX0_isAt_16 (by decide) (fun h2 => ?_) (fun h2 => ?_)
    · skip
      have h2 : ¬ K r = key := fun q => h2 ((lg_cmp_eq _ _).mpr q)
      refine lv_iconst (v := 0) hx hb dX0_isAt_23 (by decide) ?_
      exact fn_z hx hb hr (by decide) hlocks (by decide) (by decide) (by rw [if_neg (fun q => h2 q.2)]) hP hK hD hS dX0_isAt_24
    · skip
      have h2 : K r = key := (lg_cmp_eq _ _).mp h2
      refine lv_iconst (v := 1) hx hb dX0_isAt_19 (by decide) ?_
      refine lv_goto (tgt := 24) hx hb dX0_isAt_20 (by decide) ?_
      exact fn_z hx hb hr (by decide) hlocks (by decide) (by decide) (by rw [if_pos ⟨h1, h2⟩]) hP hK hD hS dX0_isAt_24
set_option maxHeartbeats 1000000 in
set_option maxRecDepth 100000 in
theorem c_openGap (l : Launch) (hl9 : l.stackTraces = false) (D : va_G) (a : Nat → Nat) (k : Nat → ClassId) (n : Nat) (K V : Nat → Int64) (kd : Nat → Int32) (SK SV : Nat → Int64) (r : Nat) (sz : Nat) (hr9 : r ≤ n) (hn : n < 100) : Met l yX0_openGap wsX0_openGap ({ frames := 0, cells := 0, slots := 0, locals := 0 }) (cP D (tX k) (wX a k n K V kd SK SV) [.ref (a 0), .int (nI r)] sz) (cQv D (tX k) True (wX a k (n + 1) (opF r (n - r) K) (opF r (n - r) V) kd SK SV) (va_A (wX a k n K V kd SK SV) sz)) 0 0 (va_A (wX a k n K V kd SK SV) sz) := by
  refine mk_n (cc := cX0_openGap) (maxL := 3) (ret := none) (fun A => cQv D (tX k) True (wX a k (n + 1) (opF r (n - r) K) (opF r (n - r) V) kd SK SV) A) (by decide) rfl (Nat.le_of_ble_eq_true rfl) ?_
  intro p e s m below meth c ls A hx hb hr hml hlocks hnm hown hts hP hK hD hZ hA hS hl
  have hown : s.vm.findClass RX0 = some m.cls := hown
  have hl : lv_has ls 3 [(0, .ref (a 0)), (1, .int (nI r))] := hl
  refine lv_aload_n hx hb dX0_openGap_0 rfl (lv_at hl 0 rfl) ?_
  refine va_get (D := D) (ci := 0) (v := .int (nI n)) (C := RX0) (T := TX0) (N := 6) hx hb hts (fun w h => wm (ui_X0 w h)) hown hK hP 0 rfl rfl 2 (by decide) (hts (.fieldLink RX0 16 "LinkedIndex" "keyCount" "I") (wm mb_2)) (fun _ h9 => h9) rfl dX0_openGap_1 ?_
  refine lv_istore_n (lv' := [(2, .int (nI n)), (0, .ref (a 0)), (1, .int (nI r))]) hx hb dX0_openGap_4 rfl hl (by decide) rfl (fun ls hl => ?_)
  have loop : ∀ (d : Nat) (Kc Vc : Nat → Int64) (H : Heap) (locs : List Loc), r + d ≤ n → opF r d Kc = opF r (n - r) K → opF r d Vc = opF r (n - r) V → va_P D vwCl (wX a k n Kc Vc kd SK SV) H → va_D A (wX a k n Kc Vc kd SK SV) → va_S A s.heap H locs → ∀ ls : Array Slot, lv_has ls 3 [(2, .int (nI (r + d))), (0, .ref (a 0)), (1, .int (nI r))] → W p l e ({ frames := 0, cells := 0, slots := 0, locals := 0 }) s m ([.ref (a 0), .int (nI r)] : List Value).toArray below meth c H locs 0 0 (MQ below (cQv D (tX k) True (wX a k (n + 1) (opF r (n - r) K) (opF r (n - r) V) kd SK SV) A) ([.ref (a 0), .int (nI r)] : List Value).toArray s 0 0 A) (F0 m 5 ls []) := by
    intro d
    induction d with
    | zero =>
      intro Kc Vc H locs hd e1 e2 hP hD hS ls hl
      have e1 : Kc = opF r (n - r) K := e1
      have e2 : Vc = opF r (n - r) V := e2
      subst e1
      subst e2
      refine lv_iload_n hx hb dX0_openGap_5 rfl (lv_at hl 0 rfl) ?_
      refine lv_iload_n hx hb dX0_openGap_6 rfl (lv_at hl 2 rfl) ?_
      refine lv_icmp_le (tgt := 44) hx hb dX0_openGap_7 (by decide) (fun h1 => ?_) (fun h1 => ?_)
      · skip
        refine lv_aload_n hx hb dX0_openGap_44 rfl (lv_at hl 1 rfl) ?_
        refine lv_dup hx hb dX0_openGap_45 rfl ?_
        refine va_get (D := D) (ci := 0) (v := .int (nI n)) (C := RX0) (T := TX0) (N := 6) hx hb hts (fun w h => wm (ui_X0 w h)) hown hK hP 0 rfl rfl 2 (by decide) (hts (.fieldLink RX0 16 "LinkedIndex" "keyCount" "I") (wm mb_2)) (fun _ h9 => h9) rfl dX0_openGap_46 ?_
        refine lv_iconst (v := 1) hx hb dX0_openGap_49 (by decide) ?_
        refine lv_iadd hx hb dX0_openGap_50 ?_
        refine xi (y := nI (n + 1)) (nI_add n 1) ?_
        refine va_put (D := D) (ci := 0) (v := .int (nI (n + 1))) (ty := .int) (C := RX0) (T := TX0) (N := 6) hx hb hts (fun w h => wm (ui_X0 w h)) tyX0 tyX0_ok nmX0 hown hK hP hD hS 0 rfl rfl 2 (by decide) (hts (.fieldLink RX0 16 "LinkedIndex" "keyCount" "I") (wm mb_2)) (fun _ h9 => h9) rfl (by decide +kernel) rfl rfl (Nat.le_of_ble_eq_true rfl) dX0_openGap_51 (fun H locs hP hD hS => ?_)
        have hP : va_P D vwCl (wX a k (n + 1) (opF r (n - r) K) (opF r (n - r) V) kd SK SV) H := hP
        have hD : va_D A (wX a k (n + 1) (opF r (n - r) K) (opF r (n - r) V) kd SK SV) := hD
        exact fn_v hx hb hr hlocks (by decide) (by decide) trivial hP hK hD hS dX0_openGap_54
      · skip
        exact absurd ((nI_leI (by omega) (by omega)).mpr (Nat.le_refl _)) h1
    | succ d ih =>
      intro Kc Vc H locs hd e1 e2 hP hD hS ls hl
      refine lv_iload_n hx hb dX0_openGap_5 rfl (lv_at hl 0 rfl) ?_
      refine lv_iload_n hx hb dX0_openGap_6 rfl (lv_at hl 2 rfl) ?_
      refine lv_icmp_le (tgt := 44) hx hb dX0_openGap_7 (by decide) (fun h1 => ?_) (fun h1 => ?_)
      · skip
        exact absurd ((nI_leI (by omega) (by omega)).mp h1) (by omega)
      · skip
        refine lv_aload_n hx hb dX0_openGap_10 rfl (lv_at hl 1 rfl) ?_
        refine va_get (D := D) (ci := 0) (v := .ref (a 1)) (C := RX0) (T := TX0) (N := 6) hx hb hts (fun w h => wm (ui_X0 w h)) hown hK hP 0 rfl rfl 0 (by decide) (hts (.fieldLink RX0 9 "LinkedIndex" "keys" "[J") (wm mb_8)) (fun _ h9 => h9) rfl dX0_openGap_11 ?_
        refine lv_iload_n hx hb dX0_openGap_14 rfl (lv_at hl 0 rfl) ?_
        refine lv_aload_n hx hb dX0_openGap_15 rfl (lv_at hl 1 rfl) ?_
        refine va_get (D := D) (ci := 0) (v := .ref (a 1)) (C := RX0) (T := TX0) (N := 6) hx hb hts (fun w h => wm (ui_X0 w h)) hown hK hP 0 rfl rfl 0 (by decide) (hts (.fieldLink RX0 9 "LinkedIndex" "keys" "[J") (wm mb_8)) (fun _ h9 => h9) rfl dX0_openGap_16 ?_
        refine lv_iload_n hx hb dX0_openGap_19 rfl (lv_at hl 0 rfl) ?_
        refine lv_iconst (v := 1) hx hb dX0_openGap_20 (by decide) ?_
        refine lv_isub hx hb dX0_openGap_21 ?_
        refine xi (y := nI (r + d)) (nI_pred _) ?_
        refine x_lald (j := (r + d)) hx hb hK hP 1 0 rfl rfl (by omega) (by decide) dX0_openGap_22 ?_
        refine x_last (j := (r + d + 1)) hx hb hK hP hD hS 1 0 rfl rfl (by omega) (by decide) dX0_openGap_23 (fun H locs hP hD hS => ?_)
        have hP : va_P D vwCl (wX a k n (vp_updL Kc (r + d + 1) (Kc (r + d))) Vc kd SK SV) H := hP
        have hD : va_D A (wX a k n (vp_updL Kc (r + d + 1) (Kc (r + d))) Vc kd SK SV) := hD
        refine lv_aload_n hx hb dX0_openGap_24 rfl (lv_at hl 1 rfl) ?_
        refine va_get (D := D) (ci := 0) (v := .ref (a 2)) (C := RX0) (T := TX0) (N := 6) hx hb hts (fun w h => wm (ui_X0 w h)) hown hK hP 0 rfl rfl 1 (by decide) (hts (.fieldLink RX0 13 "LinkedIndex" "values" "[J") (wm mb_9)) (fun _ h9 => h9) rfl dX0_openGap_25 ?_
        refine lv_iload_n hx hb dX0_openGap_28 rfl (lv_at hl 0 rfl) ?_
        refine lv_aload_n hx hb dX0_openGap_29 rfl (lv_at hl 1 rfl) ?_
        refine va_get (D := D) (ci := 0) (v := .ref (a 2)) (C := RX0) (T := TX0) (N := 6) hx hb hts (fun w h => wm (ui_X0 w h)) hown hK hP 0 rfl rfl 1 (by decide) (hts (.fieldLink RX0 13 "LinkedIndex" "values" "[J") (wm mb_9)) (fun _ h9 => h9) rfl dX0_openGap_30 ?_
        refine lv_iload_n hx hb dX0_openGap_33 rfl (lv_at hl 0 rfl) ?_
        refine lv_iconst (v := 1) hx hb dX0_openGap_34 (by decide) ?_
        refine lv_isub hx hb dX0_openGap_35 ?_
        refine xi (y := nI (r + d)) (nI_pred _) ?_
        refine x_lald (j := (r + d)) hx hb hK hP 2 1 rfl rfl (by omega) (by decide) dX0_openGap_36 ?_
        refine x_last (j := (r + d + 1)) hx hb hK hP hD hS 2 1 rfl rfl (by omega) (by decide) dX0_openGap_37 (fun H locs hP hD hS => ?_)
        have hP : va_P D vwCl (wX a k n (vp_updL Kc (r + d + 1) (Kc (r + d))) (vp_updL Vc (r + d + 1) (Vc (r + d))) kd SK SV) H := hP
        have hD : va_D A (wX a k n (vp_updL Kc (r + d + 1) (Kc (r + d))) (vp_updL Vc (r + d + 1) (Vc (r + d))) kd SK SV) := hD
        refine lv_iinc (k := 0) (v := nI (r + d)) (lv' := [(2, .int (nI (r + d))), (0, .ref (a 0)), (1, .int (nI r))]) hx hb dX0_openGap_38 hl rfl (by rw [show Int32.ofInt (-1) = -1 from by decide]; exact pk_m1 _) (by decide) rfl (fun ls hl => ?_)
        refine lv_goto (tgt := 5) hx hb dX0_openGap_41 (by decide) ?_
        exact ih _ _ H locs (by omega) e1 e2 hP hD hS ls hl
  have e9 : r + (n - r) = n := by omega
  have hl : lv_has ls 3 [(2, .int (nI (r + (n - r)))), (0, .ref (a 0)), (1, .int (nI r))] := by rw [e9]; exact hl
  exact loop (n - r) K V s.heap [] (by omega) rfl rfl hP hD hS ls hl
set_option maxHeartbeats 1000000 in
set_option maxRecDepth 100000 in
theorem c_closeGap (l : Launch) (hl9 : l.stackTraces = false) (D : va_G) (a : Nat → Nat) (k : Nat → ClassId) (n : Nat) (K V : Nat → Int64) (kd : Nat → Int32) (SK SV : Nat → Int64) (r : Nat) (sz : Nat) (hr9 : r < n) (hn : n ≤ 100) : Met l yX0_closeGap wsX0_closeGap ({ frames := 0, cells := 0, slots := 0, locals := 0 }) (cP D (tX k) (wX a k n K V kd SK SV) [.ref (a 0), .int (nI r)] sz) (cQv D (tX k) True (wX a k (n - 1) (clF (n - 1 - r) r K) (clF (n - 1 - r) r V) kd SK SV) (va_A (wX a k n K V kd SK SV) sz)) 0 0 (va_A (wX a k n K V kd SK SV) sz) := by
  refine mk_n (cc := cX0_closeGap) (maxL := 3) (ret := none) (fun A => cQv D (tX k) True (wX a k (n - 1) (clF (n - 1 - r) r K) (clF (n - 1 - r) r V) kd SK SV) A) (by decide) rfl (Nat.le_of_ble_eq_true rfl) ?_
  intro p e s m below meth c ls A hx hb hr hml hlocks hnm hown hts hP hK hD hZ hA hS hl
  have hown : s.vm.findClass RX0 = some m.cls := hown
  have hl : lv_has ls 3 [(0, .ref (a 0)), (1, .int (nI r))] := hl
  refine lv_aload_n hx hb dX0_closeGap_0 rfl (lv_at hl 0 rfl) ?_
  refine lv_dup hx hb dX0_closeGap_1 rfl ?_
  refine va_get (D := D) (ci := 0) (v := .int (nI n)) (C := RX0) (T := TX0) (N := 6) hx hb hts (fun w h => wm (ui_X0 w h)) hown hK hP 0 rfl rfl 2 (by decide) (hts (.fieldLink RX0 16 "LinkedIndex" "keyCount" "I") (wm mb_2)) (fun _ h9 => h9) rfl dX0_closeGap_2 ?_
  refine lv_iconst (v := 1) hx hb dX0_closeGap_5 (by decide) ?_
  refine lv_isub hx hb dX0_closeGap_6 ?_
  refine xi (y := nI (n - 1)) (pk_sub (a := n) (b := 1) (by omega)) ?_
  refine va_put (D := D) (ci := 0) (v := .int (nI (n - 1))) (ty := .int) (C := RX0) (T := TX0) (N := 6) hx hb hts (fun w h => wm (ui_X0 w h)) tyX0 tyX0_ok nmX0 hown hK hP hD hS 0 rfl rfl 2 (by decide) (hts (.fieldLink RX0 16 "LinkedIndex" "keyCount" "I") (wm mb_2)) (fun _ h9 => h9) rfl (by decide +kernel) rfl rfl (Nat.le_of_ble_eq_true rfl) dX0_closeGap_7 (fun H locs hP hD hS => ?_)
  have hP : va_P D vwCl (wX a k (n - 1) K V kd SK SV) H := hP
  have hD : va_D A (wX a k (n - 1) K V kd SK SV) := hD
  refine lv_iload_n hx hb dX0_closeGap_10 rfl (lv_at hl 1 rfl) ?_
  refine lv_istore_n (lv' := [(2, .int (nI r)), (0, .ref (a 0)), (1, .int (nI r))]) hx hb dX0_closeGap_11 rfl hl (by decide) rfl (fun ls hl => ?_)
  have loop : ∀ (f i : Nat) (Kc Vc : Nat → Int64) (H : Heap) (locs : List Loc), n - 1 - i < f → i ≤ n - 1 → clF (n - 1 - i) i Kc = clF (n - 1 - r) r K → clF (n - 1 - i) i Vc = clF (n - 1 - r) r V → va_P D vwCl (wX a k (n - 1) Kc Vc kd SK SV) H → va_D A (wX a k (n - 1) Kc Vc kd SK SV) → va_S A s.heap H locs → ∀ ls : Array Slot, lv_has ls 3 [(2, .int (nI i)), (0, .ref (a 0)), (1, .int (nI r))] → W p l e ({ frames := 0, cells := 0, slots := 0, locals := 0 }) s m ([.ref (a 0), .int (nI r)] : List Value).toArray below meth c H locs 0 0 (MQ below (cQv D (tX k) True (wX a k (n - 1) (clF (n - 1 - r) r K) (clF (n - 1 - r) r V) kd SK SV) A) ([.ref (a 0), .int (nI r)] : List Value).toArray s 0 0 A) (F0 m 12 ls []) := by
    intro f
    induction f with
    | zero => intro i Kc Vc H locs hf; omega
    | succ f ih =>
      intro i Kc Vc H locs hf hi e1 e2 hP hD hS ls hl
      refine lv_iload_n hx hb dX0_closeGap_12 rfl (lv_at hl 0 rfl) ?_
      refine lv_aload_n hx hb dX0_closeGap_13 rfl (lv_at hl 1 rfl) ?_
      refine va_get (D := D) (ci := 0) (v := .int (nI (n - 1))) (C := RX0) (T := TX0) (N := 6) hx hb hts (fun w h => wm (ui_X0 w h)) hown hK hP 0 rfl rfl 2 (by decide) (hts (.fieldLink RX0 16 "LinkedIndex" "keyCount" "I") (wm mb_2)) (fun _ h9 => h9) rfl dX0_closeGap_14 ?_
      refine lv_icmp_ge (tgt := 54) hx hb dX0_closeGap_17 (by decide) (fun h1 => ?_) (fun h1 => ?_)
      · skip
        have h1 : n - 1 ≤ i := (nI_leI (by omega) (by omega)).mp h1
        have e0 : n - 1 - i = 0 := by omega
        rw [e0] at e1 e2
        have e1 : Kc = clF (n - 1 - r) r K := e1
        have e2 : Vc = clF (n - 1 - r) r V := e2
        subst e1
        subst e2
        exact fn_v hx hb hr hlocks (by decide) (by decide) trivial hP hK hD hS dX0_closeGap_54
      · skip
        have h1 : i < n - 1 := Nat.lt_of_not_le (fun q => h1 ((nI_leI (by omega) (by omega)).mpr q))
        refine lv_aload_n hx hb dX0_closeGap_20 rfl (lv_at hl 1 rfl) ?_
        refine va_get (D := D) (ci := 0) (v := .ref (a 1)) (C := RX0) (T := TX0) (N := 6) hx hb hts (fun w h => wm (ui_X0 w h)) hown hK hP 0 rfl rfl 0 (by decide) (hts (.fieldLink RX0 9 "LinkedIndex" "keys" "[J") (wm mb_8)) (fun _ h9 => h9) rfl dX0_closeGap_21 ?_
        refine lv_iload_n hx hb dX0_closeGap_24 rfl (lv_at hl 0 rfl) ?_
        refine lv_aload_n hx hb dX0_closeGap_25 rfl (lv_at hl 1 rfl) ?_
        refine va_get (D := D) (ci := 0) (v := .ref (a 1)) (C := RX0) (T := TX0) (N := 6) hx hb hts (fun w h => wm (ui_X0 w h)) hown hK hP 0 rfl rfl 0 (by decide) (hts (.fieldLink RX0 9 "LinkedIndex" "keys" "[J") (wm mb_8)) (fun _ h9 => h9) rfl dX0_closeGap_26 ?_
        refine lv_iload_n hx hb dX0_closeGap_29 rfl (lv_at hl 0 rfl) ?_
        refine lv_iconst (v := 1) hx hb dX0_closeGap_30 (by decide) ?_
        refine lv_iadd hx hb dX0_closeGap_31 ?_
        refine xi (y := nI (i + 1)) (nI_add i 1) ?_
        refine x_lald (j := (i + 1)) hx hb hK hP 1 0 rfl rfl (by omega) (by decide) dX0_closeGap_32 ?_
        refine x_last (j := i) hx hb hK hP hD hS 1 0 rfl rfl (by omega) (by decide) dX0_closeGap_33 (fun H locs hP hD hS => ?_)
        have hP : va_P D vwCl (wX a k (n - 1) (vp_updL Kc i (Kc (i + 1))) Vc kd SK SV) H := hP
        have hD : va_D A (wX a k (n - 1) (vp_updL Kc i (Kc (i + 1))) Vc kd SK SV) := hD
        refine lv_aload_n hx hb dX0_closeGap_34 rfl (lv_at hl 1 rfl) ?_
        refine va_get (D := D) (ci := 0) (v := .ref (a 2)) (C := RX0) (T := TX0) (N := 6) hx hb hts (fun w h => wm (ui_X0 w h)) hown hK hP 0 rfl rfl 1 (by decide) (hts (.fieldLink RX0 13 "LinkedIndex" "values" "[J") (wm mb_9)) (fun _ h9 => h9) rfl dX0_closeGap_35 ?_
        refine lv_iload_n hx hb dX0_closeGap_38 rfl (lv_at hl 0 rfl) ?_
        refine lv_aload_n hx hb dX0_closeGap_39 rfl (lv_at hl 1 rfl) ?_
        refine va_get (D := D) (ci := 0) (v := .ref (a 2)) (C := RX0) (T := TX0) (N := 6) hx hb hts (fun w h => wm (ui_X0 w h)) hown hK hP 0 rfl rfl 1 (by decide) (hts (.fieldLink RX0 13 "LinkedIndex" "values" "[J") (wm mb_9)) (fun _ h9 => h9) rfl dX0_closeGap_40 ?_
        refine lv_iload_n hx hb dX0_closeGap_43 rfl (lv_at hl 0 rfl) ?_
        refine lv_iconst (v := 1) hx hb dX0_closeGap_44 (by decide) ?_
        refine lv_iadd hx hb dX0_closeGap_45 ?_
        refine xi (y := nI (i + 1)) (nI_add i 1) ?_
        refine x_lald (j := (i + 1)) hx hb hK hP 2 1 rfl rfl (by omega) (by decide) dX0_closeGap_46 ?_
        refine x_last (j := i) hx hb hK hP hD hS 2 1 rfl rfl (by omega) (by decide) dX0_closeGap_47 (fun H locs hP hD hS => ?_)
        have hP : va_P D vwCl (wX a k (n - 1) (vp_updL Kc i (Kc (i + 1))) (vp_updL Vc i (Vc (i + 1))) kd SK SV) H := hP
        have hD : va_D A (wX a k (n - 1) (vp_updL Kc i (Kc (i + 1))) (vp_updL Vc i (Vc (i + 1))) kd SK SV) := hD
        refine lv_iinc (k := 0) (v := nI (i + 1)) (lv' := [(2, .int (nI (i + 1))), (0, .ref (a 0)), (1, .int (nI r))]) hx hb dX0_closeGap_48 hl rfl (by rw [show Int32.ofInt 1 = 1 from by decide]; exact nI_1 _) (by decide) rfl (fun ls hl => ?_)
        refine lv_goto (tgt := 12) hx hb dX0_closeGap_51 (by decide) ?_
        have e0 : n - 1 - i = (n - 1 - (i + 1)) + 1 := by omega
        rw [e0] at e1 e2
        exact ih (i + 1) _ _ H locs (by omega) (by omega) e1 e2 hP hD hS ls hl
  exact loop n r K V H locs (by omega) (by omega) rfl rfl hP hD hS ls hl
end
section
set_option maxHeartbeats 1000000 in
set_option maxRecDepth 100000 in
theorem c_begin (l : Launch) (hl9 : l.stackTraces = false) (D : va_G) (a : Nat → Nat) (k : Nat → ClassId) (n : Nat) (K V : Nat → Int64) (kd : Nat → Int32) (SK SV : Nat → Int64) (slot kind : Int32) (key value : Int64) (sz : Nat)  : vx_Met l yX0_begin wsX0_begin ({ frames := 7, cells := 1, slots := 6, locals := 102 }) (cP D (tX k) (wX a k n K V kd SK SV) [.ref (a 0), .int slot, .int kind, .long key, .long value] sz) (cQv D (tX k) (cdB slot kind kd = 0) (wX a k n K V (upd kd (ix slot) kind) (vp_updL SK (ix slot) key) (vp_updL SV (ix slot) value)) (va_A (wX a k n K V kd SK SV) sz)) (cX D (tX k) (tcE (cdB slot kind kd)) (wX a k n K V kd SK SV) (va_A (wX a k n K V kd SK SV) sz)) 1 6 (va_A (wX a k n K V kd SK SV) sz) := by
  refine mk_x (cc := cX0_begin) (maxL := 7) (ret := none) (fun A => cQv D (tX k) (cdB slot kind kd = 0) (wX a k n K V (upd kd (ix slot) kind) (vp_updL SK (ix slot) key) (vp_updL SV (ix slot) value)) A) (fun A => cX D (tX k) (tcE (cdB slot kind kd)) (wX a k n K V kd SK SV) A) (by decide) rfl (Nat.le_of_ble_eq_true rfl) ?_
  intro p e s m below meth c ls A hx hb hr hml ht9 hlocks hnm hown hts hP hK hD hZ hA hS hl
  have hown : s.vm.findClass RX0 = some m.cls := hown
  have hl : lv_has ls 7 [(0, .ref (a 0)), (1, .int slot), (2, .int kind), (3, .long key), (5, .long value)] := hl
  refine lv_iload_n hx hb dX0_begin_0 rfl (lv_at hl 1 rfl) ?_
  by_cases hs : okS slot
  · skip
    refine kn_v (wc := []) (wr := (wX a k n K V kd SK SV)) (w1 := []) (va_runS (As := [.int slot]) (rest := []) ⟨hx, hb, hml, hown, hts⟩ (c_requireSlot l hl9 D slot s.heap.size hs) (va_cwS 1 hts (gd_up (gd_S mb_10 mb_11 mb_12 mb_13)) rfl rfl rfl (by decide +kernel) ⟨by decide, by decide⟩) ⟨cP_blind, cPre hP hD hK hS hA hZ [] rfl (by decide) [] rfl⟩ rfl rfl hl.1 rfl (lv_room (Nat.le_of_ble_eq_true rfl)) dX0_begin_1 ⟨by decide, by decide⟩) hP hD hS hA [] [0, 1, 2, 3, 4, 5] rfl rfl (by decide) (by decide) (fun H locs hp hP hD hS => ?_)
    have hP : va_P D vwCl (wX a k n K V kd SK SV) H := hP
    have hD : va_D A (wX a k n K V kd SK SV) := hD
    obtain ⟨j, hj, rfl⟩ := okS_of hs
    rw [ix_n hj]
    refine lv_iload_n hx hb dX0_begin_4 rfl (lv_at hl 2 rfl) ?_
    refine lv_if_lt (tgt := 13) hx hb dX0_begin_5 (by decide) (fun h1 => ?_) (fun h1 => ?_)
    · skip
      exact fx_throw (cls := "java/lang/IllegalArgumentException") (text := "no such kind") (ic := 38) hx hb hl9 hown (by decide +kernel) (hts (.classLink RX0 34 "java/lang/IllegalArgumentException") (wm mb_0)) (hts (.initialized "java/lang/IllegalArgumentException") (wm mb_1)) (by decide) (hat_38 hts hZ.2.2) hgd_38 hZ hS (hl.1.trans hml.symm) dX0_begin_13 dX0_begin_16 dX0_begin_17 dX0_begin_19 dX0_begin_22 ht9 (by decide) (by decide) (by decide) (by decide) hlocks (by decide) (by decide) (tcE_1 (cdB_1 (fun q => q.2.1 h1))) hP hK hD
    · skip
      refine lv_iload_n hx hb dX0_begin_8 rfl (lv_at hl 2 rfl) ?_
      refine lv_iconst (v := 3) hx hb dX0_begin_9 (by decide) ?_
      refine lv_icmp_le (tgt := 23) hx hb dX0_begin_10 (by decide) (fun h2 => ?_) (fun h2 => ?_)
      · skip
        refine lv_aload_n hx hb dX0_begin_23 rfl (lv_at hl 0 rfl) ?_
        refine va_get (D := D) (ci := 0) (v := .ref (a 3)) (C := RX0) (T := TX0) (N := 6) hx hb hts (fun w h => wm (ui_X0 w h)) hown hK hP 0 rfl rfl 3 (by decide) (hts (.fieldLink RX0 20 "LinkedIndex" "slotKinds" "[I") (wm mb_5)) (fun _ h9 => h9) rfl dX0_begin_24 ?_
        refine lv_iload_n hx hb dX0_begin_27 rfl (lv_at hl 1 rfl) ?_
        refine x_iald (j := j) hx hb hK hP 3 2 rfl rfl hj (by decide) dX0_begin_28 ?_
        refine lv_iconst (v := (-1)) hx hb dX0_begin_29 (by decide) ?_
        refine lv_icmp_eq (tgt := 43) hx hb dX0_begin_30 (by decide) (fun h3 => ?_) (fun h3 => ?_)
        · skip
          refine lv_aload_n hx hb dX0_begin_43 rfl (lv_at hl 0 rfl) ?_
          refine va_get (D := D) (ci := 0) (v := .ref (a 3)) (C := RX0) (T := TX0) (N := 6) hx hb hts (fun w h => wm (ui_X0 w h)) hown hK hP 0 rfl rfl 3 (by decide) (hts (.fieldLink RX0 20 "LinkedIndex" "slotKinds" "[I") (wm mb_5)) (fun _ h9 => h9) rfl dX0_begin_44 ?_
          refine lv_iload_n hx hb dX0_begin_47 rfl (lv_at hl 1 rfl) ?_
          refine lv_iload_n hx hb dX0_begin_48 rfl (lv_at hl 2 rfl) ?_
          refine x_iast (j := j) hx hb hK hP hD hS 3 2 rfl rfl hj (by decide) dX0_begin_49 (fun H locs hP hD hS => ?_)
          have hP : va_P D vwCl (wX a k n K V (upd kd j kind) SK SV) H := hP
          have hD : va_D A (wX a k n K V (upd kd j kind) SK SV) := hD
          refine lv_aload_n hx hb dX0_begin_50 rfl (lv_at hl 0 rfl) ?_
          refine va_get (D := D) (ci := 0) (v := .ref (a 4)) (C := RX0) (T := TX0) (N := 6) hx hb hts (fun w h => wm (ui_X0 w h)) hown hK hP 0 rfl rfl 4 (by decide) (hts (.fieldLink RX0 24 "LinkedIndex" "slotKeys" "[J") (wm mb_14)) (fun _ h9 => h9) rfl dX0_begin_51 ?_
          refine lv_iload_n hx hb dX0_begin_54 rfl (lv_at hl 1 rfl) ?_
          refine lv_lload_n hx hb dX0_begin_55 rfl (lv_at hl 3 rfl) ?_
          refine x_last (j := j) hx hb hK hP hD hS 4 3 rfl rfl hj (by decide) dX0_begin_56 (fun H locs hP hD hS => ?_)
          have hP : va_P D vwCl (wX a k n K V (upd kd j kind) (vp_updL SK j key) SV) H := hP
          have hD : va_D A (wX a k n K V (upd kd j kind) (vp_updL SK j key) SV) := hD
          refine lv_aload_n hx hb dX0_begin_57 rfl (lv_at hl 0 rfl) ?_
          refine va_get (D := D) (ci := 0) (v := .ref (a 5)) (C := RX0) (T := TX0) (N := 6) hx hb hts (fun w h => wm (ui_X0 w h)) hown hK hP 0 rfl rfl 5 (by decide) (hts (.fieldLink RX0 27 "LinkedIndex" "slotValues" "[J") (wm mb_15)) (fun _ h9 => h9) rfl dX0_begin_58 ?_
          refine lv_iload_n hx hb dX0_begin_61 rfl (lv_at hl 1 rfl) ?_
          refine lv_lload hx hb dX0_begin_62 (lv_at hl 4 rfl) ?_
          refine x_last (j := j) hx hb hK hP hD hS 5 4 rfl rfl hj (by decide) dX0_begin_64 (fun H locs hP hD hS => ?_)
          have hP : va_P D vwCl (wX a k n K V (upd kd j kind) (vp_updL SK j key) (vp_updL SV j value)) H := hP
          have hD : va_D A (wX a k n K V (upd kd j kind) (vp_updL SK j key) (vp_updL SV j value)) := hD
          exact fx_v hx hb hr hlocks (by decide) (by decide) (cdB_0 ⟨okS_n hj, h1, h2⟩ (by rw [ix_n hj]; exact h3)) hP hK hD hS dX0_begin_65
        · skip
          exact fx_throw (cls := "java/lang/IllegalStateException") (text := "the slot is not empty") (ic := 45) hx hb hl9 hown (by decide +kernel) (hts (.classLink RX0 41 "java/lang/IllegalStateException") (wm mb_6)) (hts (.initialized "java/lang/IllegalStateException") (wm mb_7)) (by decide) (hat_45 hts hZ.2.2) hgd_45 hZ hS (hl.1.trans hml.symm) dX0_begin_33 dX0_begin_36 dX0_begin_37 dX0_begin_39 dX0_begin_42 ht9 (by decide) (by decide) (by decide) (by decide) hlocks (by decide) (by decide) (tcE_2 (cdB_2 ⟨okS_n hj, h1, h2⟩ (by rw [ix_n hj]; exact h3))) hP hK hD
      · skip
        exact fx_throw (cls := "java/lang/IllegalArgumentException") (text := "no such kind") (ic := 38) hx hb hl9 hown (by decide +kernel) (hts (.classLink RX0 34 "java/lang/IllegalArgumentException") (wm mb_0)) (hts (.initialized "java/lang/IllegalArgumentException") (wm mb_1)) (by decide) (hat_38 hts hZ.2.2) hgd_38 hZ hS (hl.1.trans hml.symm) dX0_begin_13 dX0_begin_16 dX0_begin_17 dX0_begin_19 dX0_begin_22 ht9 (by decide) (by decide) (by decide) (by decide) hlocks (by decide) (by decide) (tcE_1 (cdB_1 (fun q => h2 q.2.2))) hP hK hD
  · skip
    refine kx_v (wc := []) (wr := (wX a k n K V kd SK SV)) (w1 := []) (w2 := []) (vx_runS (As := [.int slot]) (rest := []) ⟨hx, hb, hml, hown, hts⟩ (t_requireSlot l hl9 D slot s.heap.size hs) (va_cwS 1 hts (gd_up (gd_S mb_10 mb_11 mb_12 mb_13)) rfl rfl rfl (by decide +kernel) ⟨by decide, by decide⟩) ⟨cP_blind, cPre hP hD hK hS hA hZ [] rfl (by decide) [] rfl⟩ rfl rfl hl.1 rfl (lv_room (Nat.le_of_ble_eq_true rfl)) dX0_begin_1 ⟨by decide, by decide⟩) hP hD hS hA [] [0, 1, 2, 3, 4, 5] rfl rfl (by decide) (by decide) (fun E ce q9 H locs hE hP hD hS hce hcv hcl => ?_) (fun H locs hp hP hD hS => ?_)
    · skip
      have hP : va_P D vwCl (wX a k n K V kd SK SV) H := hP
      have hD : va_D A (wX a k n K V kd SK SV) := hD
      subst hE
      exact fx_out ht9 hlocks hce hcv hcl hS (by decide) (by decide) (tcE_1 (cdB_1 (fun q => hs q.1))) hP hK hD
    · skip
      have hP : va_P D vwCl (wX a k n K V kd SK SV) H := hP
      have hD : va_D A (wX a k n K V kd SK SV) := hD
      exact hp.elim
set_option maxHeartbeats 1000000 in
set_option maxRecDepth 100000 in
theorem c_step (l : Launch) (hl9 : l.stackTraces = false) (D : va_G) (a : Nat → Nat) (k : Nat → ClassId) (n : Nat) (K V : Nat → Int64) (kd : Nat → Int32) (SK SV : Nat → Int64) (slot x : Int32) (sz : Nat)  : vx_Met l yX0_step wsX0_step ({ frames := 7, cells := 1, slots := 6, locals := 103 }) (cP D (tX k) (wX a k n K V kd SK SV) [.ref (a 0), .int slot, .int x] sz) (cQv D (tX k) (cdT slot x kd = 0) (wX a k n K V kd SK SV) (va_A (wX a k n K V kd SK SV) sz)) (cX D (tX k) (tcE (cdT slot x kd)) (wX a k n K V kd SK SV) (va_A (wX a k n K V kd SK SV) sz)) 1 6 (va_A (wX a k n K V kd SK SV) sz) := by
  refine mk_x (cc := cX0_step) (maxL := 3) (ret := none) (fun A => cQv D (tX k) (cdT slot x kd = 0) (wX a k n K V kd SK SV) A) (fun A => cX D (tX k) (tcE (cdT slot x kd)) (wX a k n K V kd SK SV) A) (by decide) rfl (Nat.le_of_ble_eq_true rfl) ?_
  intro p e s m below meth c ls A hx hb hr hml ht9 hlocks hnm hown hts hP hK hD hZ hA hS hl
  have hown : s.vm.findClass RX0 = some m.cls := hown
  have hl : lv_has ls 3 [(0, .ref (a 0)), (1, .int slot), (2, .int x)] := hl
  refine lv_iload_n hx hb dX0_step_0 rfl (lv_at hl 1 rfl) ?_
  by_cases hs : okS slot
  · skip
    refine kn_v (wc := []) (wr := (wX a k n K V kd SK SV)) (w1 := []) (va_runS (As := [.int slot]) (rest := []) ⟨hx, hb, hml, hown, hts⟩ (c_requireSlot l hl9 D slot s.heap.size hs) (va_cwS 1 hts (gd_up (gd_S mb_10 mb_11 mb_12 mb_13)) rfl rfl rfl (by decide +kernel) ⟨by decide, by decide⟩) ⟨cP_blind, cPre hP hD hK hS hA hZ [] rfl (by decide) [] rfl⟩ rfl rfl hl.1 rfl (lv_room (Nat.le_of_ble_eq_true rfl)) dX0_step_1 ⟨by decide, by decide⟩) hP hD hS hA [] [0, 1, 2, 3, 4, 5] rfl rfl (by decide) (by decide) (fun H locs hp hP hD hS => ?_)
    have hP : va_P D vwCl (wX a k n K V kd SK SV) H := hP
    have hD : va_D A (wX a k n K V kd SK SV) := hD
    obtain ⟨j, hj, rfl⟩ := okS_of hs
    refine lv_iload_n hx hb dX0_step_4 rfl (lv_at hl 2 rfl) ?_
    by_cases hs2 : okN x
    · skip
      refine kn_v (wc := []) (wr := (wX a k n K V kd SK SV)) (w1 := []) (va_runS (As := [.int x]) (rest := []) ⟨hx, hb, hml, hown, hts⟩ (c_requireSteps l hl9 D x H.size hs2) (va_cwS 1 hts (gd_up (gd_S mb_16 mb_17 mb_12 mb_18)) rfl rfl rfl (by decide +kernel) ⟨by decide, by decide⟩) ⟨cP_blind, cPre hP hD hK hS hA hZ [] rfl (by decide) [] rfl⟩ rfl rfl hl.1 rfl (lv_room (Nat.le_of_ble_eq_true rfl)) dX0_step_5 ⟨by decide, by decide⟩) hP hD hS hA [] [0, 1, 2, 3, 4, 5] rfl rfl (by decide) (by decide) (fun H locs hp hP hD hS => ?_)
      have hP : va_P D vwCl (wX a k n K V kd SK SV) H := hP
      have hD : va_D A (wX a k n K V kd SK SV) := hD
      refine lv_aload_n hx hb dX0_step_8 rfl (lv_at hl 0 rfl) ?_
      refine lv_iload_n hx hb dX0_step_9 rfl (lv_at hl 1 rfl) ?_
      by_cases hs3 : kd j = -1
      · skip
        refine kx_v (wc := (wX a k n K V kd SK SV)) (wr := []) (w1 := (wX a k n K V kd SK SV)) (w2 := (wX a k n K V kd SK SV)) (vx_runV (As := [.int (nI j)]) (rest := []) ⟨hx, hb, hml, hown, hts⟩ (t_requireOperation l hl9 D a k n K V kd SK SV j H.size hj hs3) (cwV 1 hts (gd_up (gd_V mb_19 mb_20 mb_21 mb_12 mb_22)) rfl rfl rfl (by decide +kernel) ⟨by decide, by decide⟩) ⟨cP_blind, va_recv (q0 := 0) (ci := 0) (q := (RX0, TX0, 6)) hK hP rfl rfl, cPre hP hD hK hS hA hZ [0, 1, 2, 3, 4, 5] rfl (by decide) [0, 1, 2, 3, 4] rfl⟩ rfl rfl hl.1 rfl (lv_room (Nat.le_of_ble_eq_true rfl)) dX0_step_10 ⟨by decide, by decide⟩) hP hD hS hA [0, 1, 2, 3, 4, 5] [] rfl rfl (by decide) (by decide) (fun E ce q9 H locs hE hP hD hS hce hcv hcl => ?_) (fun H locs hp hP hD hS => ?_)
        · skip
          have hP : va_P D vwCl (wX a k n K V kd SK SV) H := hP
          have hD : va_D A (wX a k n K V kd SK SV) := hD
          subst hE
          exact fx_out ht9 hlocks hce hcv hcl hS (by decide) (by decide) (tcE_2 (cdT_2 ⟨okS_n hj, hs2⟩ (by rw [ix_n hj]; exact hs3))) hP hK hD
        · skip
          have hP : va_P D vwCl (wX a k n K V kd SK SV) H := hP
          have hD : va_D A (wX a k n K V kd SK SV) := hD
          exact hp.elim
      · skip
        refine kn_v (wc := (wX a k n K V kd SK SV)) (wr := []) (w1 := (wX a k n K V kd SK SV)) (va_runV (As := [.int (nI j)]) (rest := []) ⟨hx, hb, hml, hown, hts⟩ (c_requireOperation l hl9 D a k n K V kd SK SV j H.size hj hs3) (cwV 1 hts (gd_up (gd_V mb_19 mb_20 mb_21 mb_12 mb_22)) rfl rfl rfl (by decide +kernel) ⟨by decide, by decide⟩) ⟨cP_blind, va_recv (q0 := 0) (ci := 0) (q := (RX0, TX0, 6)) hK hP rfl rfl, cPre hP hD hK hS hA hZ [0, 1, 2, 3, 4, 5] rfl (by decide) [0, 1, 2, 3, 4] rfl⟩ rfl rfl hl.1 rfl (lv_room (Nat.le_of_ble_eq_true rfl)) dX0_step_10 ⟨by decide, by decide⟩) hP hD hS hA [0, 1, 2, 3, 4, 5] [] rfl rfl (by decide) (by decide) (fun H locs hp hP hD hS => ?_)
        have hP : va_P D vwCl (wX a k n K V kd SK SV) H := hP
        have hD : va_D A (wX a k n K V kd SK SV) := hD
        exact fx_v hx hb hr hlocks (by decide) (by decide) (cdT_0 ⟨okS_n hj, hs2⟩ (by rw [ix_n hj]; exact hs3)) hP hK hD hS dX0_step_13
    · skip
      refine kx_v (wc := []) (wr := (wX a k n K V kd SK SV)) (w1 := []) (w2 := []) (vx_runS (As := [.int x]) (rest := []) ⟨hx, hb, hml, hown, hts⟩ (t_requireSteps l hl9 D x H.size hs2) (va_cwS 1 hts (gd_up (gd_S mb_16 mb_17 mb_12 mb_18)) rfl rfl rfl (by decide +kernel) ⟨by decide, by decide⟩) ⟨cP_blind, cPre hP hD hK hS hA hZ [] rfl (by decide) [] rfl⟩ rfl rfl hl.1 rfl (lv_room (Nat.le_of_ble_eq_true rfl)) dX0_step_5 ⟨by decide, by decide⟩) hP hD hS hA [] [0, 1, 2, 3, 4, 5] rfl rfl (by decide) (by decide) (fun E ce q9 H locs hE hP hD hS hce hcv hcl => ?_) (fun H locs hp hP hD hS => ?_)
      · skip
        have hP : va_P D vwCl (wX a k n K V kd SK SV) H := hP
        have hD : va_D A (wX a k n K V kd SK SV) := hD
        subst hE
        exact fx_out ht9 hlocks hce hcv hcl hS (by decide) (by decide) (tcE_1 (cdT_1 (fun q => hs2 q.2))) hP hK hD
      · skip
        have hP : va_P D vwCl (wX a k n K V kd SK SV) H := hP
        have hD : va_D A (wX a k n K V kd SK SV) := hD
        exact hp.elim
  · skip
    refine kx_v (wc := []) (wr := (wX a k n K V kd SK SV)) (w1 := []) (w2 := []) (vx_runS (As := [.int slot]) (rest := []) ⟨hx, hb, hml, hown, hts⟩ (t_requireSlot l hl9 D slot s.heap.size hs) (va_cwS 1 hts (gd_up (gd_S mb_10 mb_11 mb_12 mb_13)) rfl rfl rfl (by decide +kernel) ⟨by decide, by decide⟩) ⟨cP_blind, cPre hP hD hK hS hA hZ [] rfl (by decide) [] rfl⟩ rfl rfl hl.1 rfl (lv_room (Nat.le_of_ble_eq_true rfl)) dX0_step_1 ⟨by decide, by decide⟩) hP hD hS hA [] [0, 1, 2, 3, 4, 5] rfl rfl (by decide) (by decide) (fun E ce q9 H locs hE hP hD hS hce hcv hcl => ?_) (fun H locs hp hP hD hS => ?_)
    · skip
      have hP : va_P D vwCl (wX a k n K V kd SK SV) H := hP
      have hD : va_D A (wX a k n K V kd SK SV) := hD
      subst hE
      exact fx_out ht9 hlocks hce hcv hcl hS (by decide) (by decide) (tcE_1 (cdT_1 (fun q => hs q.1))) hP hK hD
    · skip
      have hP : va_P D vwCl (wX a k n K V kd SK SV) H := hP
      have hD : va_D A (wX a k n K V kd SK SV) := hD
      exact hp.elim
set_option maxHeartbeats 1000000 in
set_option maxRecDepth 100000 in
theorem c_tidy (l : Launch) (hl9 : l.stackTraces = false) (D : va_G) (a : Nat → Nat) (k : Nat → ClassId) (n : Nat) (K V : Nat → Int64) (kd : Nat → Int32) (SK SV : Nat → Int64) (x : Int32) (sz : Nat)  : vx_Met l yX0_tidy wsX0_tidy ({ frames := 7, cells := 1, slots := 6, locals := 102 }) (cP D (tX k) (wX a k n K V kd SK SV) [.ref (a 0), .int x] sz) (cQv D (tX k) (okN x) (wX a k n K V kd SK SV) (va_A (wX a k n K V kd SK SV) sz)) (cX D (tX k) (fun E => E = "java/lang/IllegalArgumentException" ∧ ¬ okN x) (wX a k n K V kd SK SV) (va_A (wX a k n K V kd SK SV) sz)) 1 6 (va_A (wX a k n K V kd SK SV) sz) := by
  refine mk_x (cc := cX0_tidy) (maxL := 2) (ret := none) (fun A => cQv D (tX k) (okN x) (wX a k n K V kd SK SV) A) (fun A => cX D (tX k) (fun E => E = "java/lang/IllegalArgumentException" ∧ ¬ okN x) (wX a k n K V kd SK SV) A) (by decide) rfl (Nat.le_of_ble_eq_true rfl) ?_
  intro p e s m below meth c ls A hx hb hr hml ht9 hlocks hnm hown hts hP hK hD hZ hA hS hl
  have hown : s.vm.findClass RX0 = some m.cls := hown
  have hl : lv_has ls 2 [(0, .ref (a 0)), (1, .int x)] := hl
  refine lv_iload_n hx hb dX0_tidy_0 rfl (lv_at hl 1 rfl) ?_
  by_cases hs : okN x
  · skip
    refine kn_v (wc := []) (wr := (wX a k n K V kd SK SV)) (w1 := []) (va_runS (As := [.int x]) (rest := []) ⟨hx, hb, hml, hown, hts⟩ (c_requireSteps l hl9 D x s.heap.size hs) (va_cwS 1 hts (gd_up (gd_S mb_16 mb_17 mb_12 mb_18)) rfl rfl rfl (by decide +kernel) ⟨by decide, by decide⟩) ⟨cP_blind, cPre hP hD hK hS hA hZ [] rfl (by decide) [] rfl⟩ rfl rfl hl.1 rfl (lv_room (Nat.le_of_ble_eq_true rfl)) dX0_tidy_1 ⟨by decide, by decide⟩) hP hD hS hA [] [0, 1, 2, 3, 4, 5] rfl rfl (by decide) (by decide) (fun H locs hp hP hD hS => ?_)
    have hP : va_P D vwCl (wX a k n K V kd SK SV) H := hP
    have hD : va_D A (wX a k n K V kd SK SV) := hD
    exact fx_v hx hb hr hlocks (by decide) (by decide) hs hP hK hD hS dX0_tidy_4
  · skip
    refine kx_v (wc := []) (wr := (wX a k n K V kd SK SV)) (w1 := []) (w2 := []) (vx_runS (As := [.int x]) (rest := []) ⟨hx, hb, hml, hown, hts⟩ (t_requireSteps l hl9 D x s.heap.size hs) (va_cwS 1 hts (gd_up (gd_S mb_16 mb_17 mb_12 mb_18)) rfl rfl rfl (by decide +kernel) ⟨by decide, by decide⟩) ⟨cP_blind, cPre hP hD hK hS hA hZ [] rfl (by decide) [] rfl⟩ rfl rfl hl.1 rfl (lv_room (Nat.le_of_ble_eq_true rfl)) dX0_tidy_1 ⟨by decide, by decide⟩) hP hD hS hA [] [0, 1, 2, 3, 4, 5] rfl rfl (by decide) (by decide) (fun E ce q9 H locs hE hP hD hS hce hcv hcl => ?_) (fun H locs hp hP hD hS => ?_)
    · skip
      have hP : va_P D vwCl (wX a k n K V kd SK SV) H := hP
      have hD : va_D A (wX a k n K V kd SK SV) := hD
      subst hE
      exact fx_out ht9 hlocks hce hcv hcl hS (by decide) (by decide) ⟨rfl, hs⟩ hP hK hD
    · skip
      have hP : va_P D vwCl (wX a k n K V kd SK SV) H := hP
      have hD : va_D A (wX a k n K V kd SK SV) := hD
      exact hp.elim
set_option maxHeartbeats 1000000 in
set_option maxRecDepth 100000 in
theorem c_drop (l : Launch) (hl9 : l.stackTraces = false) (D : va_G) (a : Nat → Nat) (k : Nat → ClassId) (n : Nat) (K V : Nat → Int64) (kd : Nat → Int32) (SK SV : Nat → Int64) (slot : Int32) (sz : Nat)  : vx_Met l yX0_drop wsX0_drop ({ frames := 7, cells := 1, slots := 6, locals := 102 }) (cP D (tX k) (wX a k n K V kd SK SV) [.ref (a 0), .int slot] sz) (cQi D (tX k) (fun v => okS slot ∧ v = (if kd (ix slot) = -1 then 0 else 1)) (wX a k n K V (upd kd (ix slot) (-1)) SK SV) (va_A (wX a k n K V kd SK SV) sz)) (cX D (tX k) (fun E => E = "java/lang/IllegalArgumentException" ∧ ¬ okS slot) (wX a k n K V kd SK SV) (va_A (wX a k n K V kd SK SV) sz)) 1 6 (va_A (wX a k n K V kd SK SV) sz) := by
  refine mk_x (cc := cX0_drop) (maxL := 3) (ret := (some .boolean)) (fun A => cQi D (tX k) (fun v => okS slot ∧ v = (if kd (ix slot) = -1 then 0 else 1)) (wX a k n K V (upd kd (ix slot) (-1)) SK SV) A) (fun A => cX D (tX k) (fun E => E = "java/lang/IllegalArgumentException" ∧ ¬ okS slot) (wX a k n K V kd SK SV) A) (by decide) rfl (Nat.le_of_ble_eq_true rfl) ?_
  intro p e s m below meth c ls A hx hb hr hml ht9 hlocks hnm hown hts hP hK hD hZ hA hS hl
  have hown : s.vm.findClass RX0 = some m.cls := hown
  have hl : lv_has ls 3 [(0, .ref (a 0)), (1, .int slot)] := hl
  refine lv_iload_n hx hb dX0_drop_0 rfl (lv_at hl 1 rfl) ?_
  by_cases hs : okS slot
  · skip
    refine kn_v (wc := []) (wr := (wX a k n K V kd SK SV)) (w1 := []) (va_runS (As := [.int slot]) (rest := []) ⟨hx, hb, hml, hown, hts⟩ (c_requireSlot l hl9 D slot s.heap.size hs) (va_cwS 1 hts (gd_up (gd_S mb_10 mb_11 mb_12 mb_13)) rfl rfl rfl (by decide +kernel) ⟨by decide, by decide⟩) ⟨cP_blind, cPre hP hD hK hS hA hZ [] rfl (by decide) [] rfl⟩ rfl rfl hl.1 rfl (lv_room (Nat.le_of_ble_eq_true rfl)) dX0_drop_1 ⟨by decide, by decide⟩) hP hD hS hA [] [0, 1, 2, 3, 4, 5] rfl rfl (by decide) (by decide) (fun H locs hp hP hD hS => ?_)
    have hP : va_P D vwCl (wX a k n K V kd SK SV) H := hP
    have hD : va_D A (wX a k n K V kd SK SV) := hD
    obtain ⟨j, hj, rfl⟩ := okS_of hs
    rw [ix_n hj]
    refine lv_aload_n hx hb dX0_drop_4 rfl (lv_at hl 0 rfl) ?_
    refine va_get (D := D) (ci := 0) (v := .ref (a 3)) (C := RX0) (T := TX0) (N := 6) hx hb hts (fun w h => wm (ui_X0 w h)) hown hK hP 0 rfl rfl 3 (by decide) (hts (.fieldLink RX0 20 "LinkedIndex" "slotKinds" "[I") (wm mb_5)) (fun _ h9 => h9) rfl dX0_drop_5 ?_
    refine lv_iload_n hx hb dX0_drop_8 rfl (lv_at hl 1 rfl) ?_
    refine x_iald (j := j) hx hb hK hP 3 2 rfl rfl hj (by decide) dX0_drop_9 ?_
    refine lv_iconst (v := (-1)) hx hb dX0_drop_10 (by decide) ?_
    refine lv_icmp_eq (tgt := 18) hx hb dX0_drop_11 (by decide) (fun h1 => ?_) (fun h1 => ?_)
    · skip
      refine lv_iconst (v := 0) hx hb dX0_drop_18 (by decide) ?_
      refine lv_istore_n (lv' := [(2, .int 0), (0, .ref (a 0)), (1, .int (nI j))]) hx hb dX0_drop_19 rfl hl (by decide) rfl (fun ls hl => ?_)
      refine lv_aload_n hx hb dX0_drop_20 rfl (lv_at hl 1 rfl) ?_
      refine va_get (D := D) (ci := 0) (v := .ref (a 3)) (C := RX0) (T := TX0) (N := 6) hx hb hts (fun w h => wm (ui_X0 w h)) hown hK hP 0 rfl rfl 3 (by decide) (hts (.fieldLink RX0 20 "LinkedIndex" "slotKinds" "[I") (wm mb_5)) (fun _ h9 => h9) rfl dX0_drop_21 ?_
      refine lv_iload_n hx hb dX0_drop_24 rfl (lv_at hl 2 rfl) ?_
      refine lv_iconst (v := (-1)) hx hb dX0_drop_25 (by decide) ?_
      refine x_iast (j := j) hx hb hK hP hD hS 3 2 rfl rfl hj (by decide) dX0_drop_26 (fun H locs hP hD hS => ?_)
      have hP : va_P D vwCl (wX a k n K V (upd kd j (-1)) SK SV) H := hP
      have hD : va_D A (wX a k n K V (upd kd j (-1)) SK SV) := hD
      refine lv_iload_n hx hb dX0_drop_27 rfl (lv_at hl 0 rfl) ?_
      exact fx_z hx hb hr (by decide) hlocks (by decide) (by decide) ⟨okS_n hj, by rw [if_pos h1]⟩ hP hK hD hS dX0_drop_28
    · skip
      refine lv_iconst (v := 1) hx hb dX0_drop_14 (by decide) ?_
      refine lv_goto (tgt := 19) hx hb dX0_drop_15 (by decide) ?_
      refine lv_istore_n (lv' := [(2, .int 1), (0, .ref (a 0)), (1, .int (nI j))]) hx hb dX0_drop_19 rfl hl (by decide) rfl (fun ls hl => ?_)
      refine lv_aload_n hx hb dX0_drop_20 rfl (lv_at hl 1 rfl) ?_
      refine va_get (D := D) (ci := 0) (v := .ref (a 3)) (C := RX0) (T := TX0) (N := 6) hx hb hts (fun w h => wm (ui_X0 w h)) hown hK hP 0 rfl rfl 3 (by decide) (hts (.fieldLink RX0 20 "LinkedIndex" "slotKinds" "[I") (wm mb_5)) (fun _ h9 => h9) rfl dX0_drop_21 ?_
      refine lv_iload_n hx hb dX0_drop_24 rfl (lv_at hl 2 rfl) ?_
      refine lv_iconst (v := (-1)) hx hb dX0_drop_25 (by decide) ?_
      refine x_iast (j := j) hx hb hK hP hD hS 3 2 rfl rfl hj (by decide) dX0_drop_26 (fun H locs hP hD hS => ?_)
      have hP : va_P D vwCl (wX a k n K V (upd kd j (-1)) SK SV) H := hP
      have hD : va_D A (wX a k n K V (upd kd j (-1)) SK SV) := hD
      refine lv_iload_n hx hb dX0_drop_27 rfl (lv_at hl 0 rfl) ?_
      exact fx_z hx hb hr (by decide) hlocks (by decide) (by decide) ⟨okS_n hj, by rw [if_neg h1]⟩ hP hK hD hS dX0_drop_28
  · skip
    refine kx_v (wc := []) (wr := (wX a k n K V kd SK SV)) (w1 := []) (w2 := []) (vx_runS (As := [.int slot]) (rest := []) ⟨hx, hb, hml, hown, hts⟩ (t_requireSlot l hl9 D slot s.heap.size hs) (va_cwS 1 hts (gd_up (gd_S mb_10 mb_11 mb_12 mb_13)) rfl rfl rfl (by decide +kernel) ⟨by decide, by decide⟩) ⟨cP_blind, cPre hP hD hK hS hA hZ [] rfl (by decide) [] rfl⟩ rfl rfl hl.1 rfl (lv_room (Nat.le_of_ble_eq_true rfl)) dX0_drop_1 ⟨by decide, by decide⟩) hP hD hS hA [] [0, 1, 2, 3, 4, 5] rfl rfl (by decide) (by decide) (fun E ce q9 H locs hE hP hD hS hce hcv hcl => ?_) (fun H locs hp hP hD hS => ?_)
    · skip
      have hP : va_P D vwCl (wX a k n K V kd SK SV) H := hP
      have hD : va_D A (wX a k n K V kd SK SV) := hD
      subst hE
      exact fx_out ht9 hlocks hce hcv hcl hS (by decide) (by decide) ⟨rfl, hs⟩ hP hK hD
    · skip
      have hP : va_P D vwCl (wX a k n K V kd SK SV) H := hP
      have hD : va_D A (wX a k n K V kd SK SV) := hD
      exact hp.elim
set_option maxHeartbeats 1000000 in
set_option maxRecDepth 100000 in
theorem c_kind (l : Launch) (hl9 : l.stackTraces = false) (D : va_G) (a : Nat → Nat) (k : Nat → ClassId) (n : Nat) (K V : Nat → Int64) (kd : Nat → Int32) (SK SV : Nat → Int64) (slot : Int32) (sz : Nat)  : vx_Met l yX0_kind wsX0_kind ({ frames := 7, cells := 1, slots := 6, locals := 102 }) (cP D (tX k) (wX a k n K V kd SK SV) [.ref (a 0), .int slot] sz) (cQi D (tX k) (fun v => okS slot ∧ v = kd (ix slot)) (wX a k n K V kd SK SV) (va_A (wX a k n K V kd SK SV) sz)) (cX D (tX k) (fun E => E = "java/lang/IllegalArgumentException" ∧ ¬ okS slot) (wX a k n K V kd SK SV) (va_A (wX a k n K V kd SK SV) sz)) 1 6 (va_A (wX a k n K V kd SK SV) sz) := by
  refine mk_x (cc := cX0_kind) (maxL := 2) (ret := (some .int)) (fun A => cQi D (tX k) (fun v => okS slot ∧ v = kd (ix slot)) (wX a k n K V kd SK SV) A) (fun A => cX D (tX k) (fun E => E = "java/lang/IllegalArgumentException" ∧ ¬ okS slot) (wX a k n K V kd SK SV) A) (by decide) rfl (Nat.le_of_ble_eq_true rfl) ?_
  intro p e s m below meth c ls A hx hb hr hml ht9 hlocks hnm hown hts hP hK hD hZ hA hS hl
  have hown : s.vm.findClass RX0 = some m.cls := hown
  have hl : lv_has ls 2 [(0, .ref (a 0)), (1, .int slot)] := hl
  refine lv_iload_n hx hb dX0_kind_0 rfl (lv_at hl 1 rfl) ?_
  by_cases hs : okS slot
  · skip
    refine kn_v (wc := []) (wr := (wX a k n K V kd SK SV)) (w1 := []) (va_runS (As := [.int slot]) (rest := []) ⟨hx, hb, hml, hown, hts⟩ (c_requireSlot l hl9 D slot s.heap.size hs) (va_cwS 1 hts (gd_up (gd_S mb_10 mb_11 mb_12 mb_13)) rfl rfl rfl (by decide +kernel) ⟨by decide, by decide⟩) ⟨cP_blind, cPre hP hD hK hS hA hZ [] rfl (by decide) [] rfl⟩ rfl rfl hl.1 rfl (lv_room (Nat.le_of_ble_eq_true rfl)) dX0_kind_1 ⟨by decide, by decide⟩) hP hD hS hA [] [0, 1, 2, 3, 4, 5] rfl rfl (by decide) (by decide) (fun H locs hp hP hD hS => ?_)
    have hP : va_P D vwCl (wX a k n K V kd SK SV) H := hP
    have hD : va_D A (wX a k n K V kd SK SV) := hD
    obtain ⟨j, hj, rfl⟩ := okS_of hs
    rw [ix_n hj]
    refine lv_aload_n hx hb dX0_kind_4 rfl (lv_at hl 0 rfl) ?_
    refine va_get (D := D) (ci := 0) (v := .ref (a 3)) (C := RX0) (T := TX0) (N := 6) hx hb hts (fun w h => wm (ui_X0 w h)) hown hK hP 0 rfl rfl 3 (by decide) (hts (.fieldLink RX0 20 "LinkedIndex" "slotKinds" "[I") (wm mb_5)) (fun _ h9 => h9) rfl dX0_kind_5 ?_
    refine lv_iload_n hx hb dX0_kind_8 rfl (lv_at hl 1 rfl) ?_
    refine x_iald (j := j) hx hb hK hP 3 2 rfl rfl hj (by decide) dX0_kind_9 ?_
    exact fx_i hx hb hr hlocks (by decide) (by decide) ⟨okS_n hj, rfl⟩ hP hK hD hS dX0_kind_10
  · skip
    refine kx_v (wc := []) (wr := (wX a k n K V kd SK SV)) (w1 := []) (w2 := []) (vx_runS (As := [.int slot]) (rest := []) ⟨hx, hb, hml, hown, hts⟩ (t_requireSlot l hl9 D slot s.heap.size hs) (va_cwS 1 hts (gd_up (gd_S mb_10 mb_11 mb_12 mb_13)) rfl rfl rfl (by decide +kernel) ⟨by decide, by decide⟩) ⟨cP_blind, cPre hP hD hK hS hA hZ [] rfl (by decide) [] rfl⟩ rfl rfl hl.1 rfl (lv_room (Nat.le_of_ble_eq_true rfl)) dX0_kind_1 ⟨by decide, by decide⟩) hP hD hS hA [] [0, 1, 2, 3, 4, 5] rfl rfl (by decide) (by decide) (fun E ce q9 H locs hE hP hD hS hce hcv hcl => ?_) (fun H locs hp hP hD hS => ?_)
    · skip
      have hP : va_P D vwCl (wX a k n K V kd SK SV) H := hP
      have hD : va_D A (wX a k n K V kd SK SV) := hD
      subst hE
      exact fx_out ht9 hlocks hce hcv hcl hS (by decide) (by decide) ⟨rfl, hs⟩ hP hK hD
    · skip
      have hP : va_P D vwCl (wX a k n K V kd SK SV) H := hP
      have hD : va_D A (wX a k n K V kd SK SV) := hD
      exact hp.elim
set_option maxHeartbeats 1000000 in
set_option maxRecDepth 100000 in
theorem c_size (l : Launch) (hl9 : l.stackTraces = false) (D : va_G) (a : Nat → Nat) (k : Nat → ClassId) (n : Nat) (K V : Nat → Int64) (kd : Nat → Int32) (SK SV : Nat → Int64) (sz : Nat)  : Met l yX0_size wsX0_size ({ frames := 0, cells := 0, slots := 0, locals := 0 }) (cP D (tX k) (wX a k n K V kd SK SV) [.ref (a 0)] sz) (cQi D (tX k) (fun v => v = nI n) (wX a k n K V kd SK SV) (va_A (wX a k n K V kd SK SV) sz)) 0 0 (va_A (wX a k n K V kd SK SV) sz) := by
  refine mk_n (cc := cX0_size) (maxL := 1) (ret := (some .int)) (fun A => cQi D (tX k) (fun v => v = nI n) (wX a k n K V kd SK SV) A) (by decide) rfl (Nat.le_of_ble_eq_true rfl) ?_
  intro p e s m below meth c ls A hx hb hr hml hlocks hnm hown hts hP hK hD hZ hA hS hl
  have hown : s.vm.findClass RX0 = some m.cls := hown
  have hl : lv_has ls 1 [(0, .ref (a 0))] := hl
  refine lv_aload_n hx hb dX0_size_0 rfl (lv_at hl 0 rfl) ?_
  refine va_get (D := D) (ci := 0) (v := .int (nI n)) (C := RX0) (T := TX0) (N := 6) hx hb hts (fun w h => wm (ui_X0 w h)) hown hK hP 0 rfl rfl 2 (by decide) (hts (.fieldLink RX0 16 "LinkedIndex" "keyCount" "I") (wm mb_2)) (fun _ h9 => h9) rfl dX0_size_1 ?_
  exact fn_i hx hb hr hlocks (by decide) (by decide) rfl hP hK hD hS dX0_size_4
set_option maxHeartbeats 1000000 in
set_option maxRecDepth 100000 in
theorem c_key (l : Launch) (hl9 : l.stackTraces = false) (D : va_G) (a : Nat → Nat) (k : Nat → ClassId) (n : Nat) (K V : Nat → Int64) (kd : Nat → Int32) (SK SV : Nat → Int64) (x : Int32) (sz : Nat) (hn : n ≤ 100) : vx_Met l yX0_key wsX0_key ({ frames := 7, cells := 1, slots := 6, locals := 103 }) (cP D (tX k) (wX a k n K V kd SK SV) [.ref (a 0), .int x] sz) (cQl D (tX k) (fun v => okP x n ∧ v = K (ix x)) (wX a k n K V kd SK SV) (va_A (wX a k n K V kd SK SV) sz)) (cX D (tX k) (fun E => E = "java/lang/IndexOutOfBoundsException" ∧ ¬ okP x n) (wX a k n K V kd SK SV) (va_A (wX a k n K V kd SK SV) sz)) 1 6 (va_A (wX a k n K V kd SK SV) sz) := by
  refine mk_x (cc := cX0_key) (maxL := 2) (ret := (some .long)) (fun A => cQl D (tX k) (fun v => okP x n ∧ v = K (ix x)) (wX a k n K V kd SK SV) A) (fun A => cX D (tX k) (fun E => E = "java/lang/IndexOutOfBoundsException" ∧ ¬ okP x n) (wX a k n K V kd SK SV) A) (by decide) rfl (Nat.le_of_ble_eq_true rfl) ?_
  intro p e s m below meth c ls A hx hb hr hml ht9 hlocks hnm hown hts hP hK hD hZ hA hS hl
  have hown : s.vm.findClass RX0 = some m.cls := hown
  have hl : lv_has ls 2 [(0, .ref (a 0)), (1, .int x)] := hl
  refine lv_aload_n hx hb dX0_key_0 rfl (lv_at hl 0 rfl) ?_
  refine lv_iload_n hx hb dX0_key_1 rfl (lv_at hl 1 rfl) ?_
  by_cases hs : okP x n
  · skip
    refine kn_v (wc := (wX a k n K V kd SK SV)) (wr := []) (w1 := (wX a k n K V kd SK SV)) (va_runV (As := [.int x]) (rest := []) ⟨hx, hb, hml, hown, hts⟩ (c_requirePlace l hl9 D a k n K V kd SK SV x s.heap.size hs) (cwV 1 hts (gd_up (gd_V mb_23 mb_24 mb_25 mb_12 mb_26)) rfl rfl rfl (by decide +kernel) ⟨by decide, by decide⟩) ⟨cP_blind, va_recv (q0 := 0) (ci := 0) (q := (RX0, TX0, 6)) hK hP rfl rfl, cPre hP hD hK hS hA hZ [0, 1, 2, 3, 4, 5] rfl (by decide) [0, 1, 2, 3, 4] rfl⟩ rfl rfl hl.1 rfl (lv_room (Nat.le_of_ble_eq_true rfl)) dX0_key_2 ⟨by decide, by decide⟩) hP hD hS hA [0, 1, 2, 3, 4, 5] [] rfl rfl (by decide) (by decide) (fun H locs hp hP hD hS => ?_)
    have hP : va_P D vwCl (wX a k n K V kd SK SV) H := hP
    have hD : va_D A (wX a k n K V kd SK SV) := hD
    have hp0 := hs
    obtain ⟨j, hj, rfl⟩ := okP_of (by omega) hs
    rw [show ix (nI j) = j from nI_clamp (by omega)]
    refine lv_aload_n hx hb dX0_key_5 rfl (lv_at hl 0 rfl) ?_
    refine va_get (D := D) (ci := 0) (v := .ref (a 1)) (C := RX0) (T := TX0) (N := 6) hx hb hts (fun w h => wm (ui_X0 w h)) hown hK hP 0 rfl rfl 0 (by decide) (hts (.fieldLink RX0 9 "LinkedIndex" "keys" "[J") (wm mb_8)) (fun _ h9 => h9) rfl dX0_key_6 ?_
    refine lv_iload_n hx hb dX0_key_9 rfl (lv_at hl 1 rfl) ?_
    refine x_lald (j := j) hx hb hK hP 1 0 rfl rfl (by omega) (by decide) dX0_key_10 ?_
    exact fx_l hx hb hr hlocks (by decide) (by decide) ⟨hp0, rfl⟩ hP hK hD hS dX0_key_11
  · skip
    refine kx_v (wc := (wX a k n K V kd SK SV)) (wr := []) (w1 := (wX a k n K V kd SK SV)) (w2 := (wX a k n K V kd SK SV)) (vx_runV (As := [.int x]) (rest := []) ⟨hx, hb, hml, hown, hts⟩ (t_requirePlace l hl9 D a k n K V kd SK SV x s.heap.size hs) (cwV 1 hts (gd_up (gd_V mb_23 mb_24 mb_25 mb_12 mb_26)) rfl rfl rfl (by decide +kernel) ⟨by decide, by decide⟩) ⟨cP_blind, va_recv (q0 := 0) (ci := 0) (q := (RX0, TX0, 6)) hK hP rfl rfl, cPre hP hD hK hS hA hZ [0, 1, 2, 3, 4, 5] rfl (by decide) [0, 1, 2, 3, 4] rfl⟩ rfl rfl hl.1 rfl (lv_room (Nat.le_of_ble_eq_true rfl)) dX0_key_2 ⟨by decide, by decide⟩) hP hD hS hA [0, 1, 2, 3, 4, 5] [] rfl rfl (by decide) (by decide) (fun E ce q9 H locs hE hP hD hS hce hcv hcl => ?_) (fun H locs hp hP hD hS => ?_)
    · skip
      have hP : va_P D vwCl (wX a k n K V kd SK SV) H := hP
      have hD : va_D A (wX a k n K V kd SK SV) := hD
      subst hE
      exact fx_out ht9 hlocks hce hcv hcl hS (by decide) (by decide) ⟨rfl, hs⟩ hP hK hD
    · skip
      have hP : va_P D vwCl (wX a k n K V kd SK SV) H := hP
      have hD : va_D A (wX a k n K V kd SK SV) := hD
      exact hp.elim
set_option maxHeartbeats 1000000 in
set_option maxRecDepth 100000 in
theorem c_value (l : Launch) (hl9 : l.stackTraces = false) (D : va_G) (a : Nat → Nat) (k : Nat → ClassId) (n : Nat) (K V : Nat → Int64) (kd : Nat → Int32) (SK SV : Nat → Int64) (x : Int32) (sz : Nat) (hn : n ≤ 100) : vx_Met l yX0_value wsX0_value ({ frames := 7, cells := 1, slots := 6, locals := 103 }) (cP D (tX k) (wX a k n K V kd SK SV) [.ref (a 0), .int x] sz) (cQl D (tX k) (fun v => okP x n ∧ v = V (ix x)) (wX a k n K V kd SK SV) (va_A (wX a k n K V kd SK SV) sz)) (cX D (tX k) (fun E => E = "java/lang/IndexOutOfBoundsException" ∧ ¬ okP x n) (wX a k n K V kd SK SV) (va_A (wX a k n K V kd SK SV) sz)) 1 6 (va_A (wX a k n K V kd SK SV) sz) := by
  refine mk_x (cc := cX0_value) (maxL := 2) (ret := (some .long)) (fun A => cQl D (tX k) (fun v => okP x n ∧ v = V (ix x)) (wX a k n K V kd SK SV) A) (fun A => cX D (tX k) (fun E => E = "java/lang/IndexOutOfBoundsException" ∧ ¬ okP x n) (wX a k n K V kd SK SV) A) (by decide) rfl (Nat.le_of_ble_eq_true rfl) ?_
  intro p e s m below meth c ls A hx hb hr hml ht9 hlocks hnm hown hts hP hK hD hZ hA hS hl
  have hown : s.vm.findClass RX0 = some m.cls := hown
  have hl : lv_has ls 2 [(0, .ref (a 0)), (1, .int x)] := hl
  refine lv_aload_n hx hb dX0_value_0 rfl (lv_at hl 0 rfl) ?_
  refine lv_iload_n hx hb dX0_value_1 rfl (lv_at hl 1 rfl) ?_
  by_cases hs : okP x n
  · skip
    refine kn_v (wc := (wX a k n K V kd SK SV)) (wr := []) (w1 := (wX a k n K V kd SK SV)) (va_runV (As := [.int x]) (rest := []) ⟨hx, hb, hml, hown, hts⟩ (c_requirePlace l hl9 D a k n K V kd SK SV x s.heap.size hs) (cwV 1 hts (gd_up (gd_V mb_23 mb_24 mb_25 mb_12 mb_26)) rfl rfl rfl (by decide +kernel) ⟨by decide, by decide⟩) ⟨cP_blind, va_recv (q0 := 0) (ci := 0) (q := (RX0, TX0, 6)) hK hP rfl rfl, cPre hP hD hK hS hA hZ [0, 1, 2, 3, 4, 5] rfl (by decide) [0, 1, 2, 3, 4] rfl⟩ rfl rfl hl.1 rfl (lv_room (Nat.le_of_ble_eq_true rfl)) dX0_value_2 ⟨by decide, by decide⟩) hP hD hS hA [0, 1, 2, 3, 4, 5] [] rfl rfl (by decide) (by decide) (fun H locs hp hP hD hS => ?_)
    have hP : va_P D vwCl (wX a k n K V kd SK SV) H := hP
    have hD : va_D A (wX a k n K V kd SK SV) := hD
    have hp0 := hs
    obtain ⟨j, hj, rfl⟩ := okP_of (by omega) hs
    rw [show ix (nI j) = j from nI_clamp (by omega)]
    refine lv_aload_n hx hb dX0_value_5 rfl (lv_at hl 0 rfl) ?_
    refine va_get (D := D) (ci := 0) (v := .ref (a 2)) (C := RX0) (T := TX0) (N := 6) hx hb hts (fun w h => wm (ui_X0 w h)) hown hK hP 0 rfl rfl 1 (by decide) (hts (.fieldLink RX0 13 "LinkedIndex" "values" "[J") (wm mb_9)) (fun _ h9 => h9) rfl dX0_value_6 ?_
    refine lv_iload_n hx hb dX0_value_9 rfl (lv_at hl 1 rfl) ?_
    refine x_lald (j := j) hx hb hK hP 2 1 rfl rfl (by omega) (by decide) dX0_value_10 ?_
    exact fx_l hx hb hr hlocks (by decide) (by decide) ⟨hp0, rfl⟩ hP hK hD hS dX0_value_11
  · skip
    refine kx_v (wc := (wX a k n K V kd SK SV)) (wr := []) (w1 := (wX a k n K V kd SK SV)) (w2 := (wX a k n K V kd SK SV)) (vx_runV (As := [.int x]) (rest := []) ⟨hx, hb, hml, hown, hts⟩ (t_requirePlace l hl9 D a k n K V kd SK SV x s.heap.size hs) (cwV 1 hts (gd_up (gd_V mb_23 mb_24 mb_25 mb_12 mb_26)) rfl rfl rfl (by decide +kernel) ⟨by decide, by decide⟩) ⟨cP_blind, va_recv (q0 := 0) (ci := 0) (q := (RX0, TX0, 6)) hK hP rfl rfl, cPre hP hD hK hS hA hZ [0, 1, 2, 3, 4, 5] rfl (by decide) [0, 1, 2, 3, 4] rfl⟩ rfl rfl hl.1 rfl (lv_room (Nat.le_of_ble_eq_true rfl)) dX0_value_2 ⟨by decide, by decide⟩) hP hD hS hA [0, 1, 2, 3, 4, 5] [] rfl rfl (by decide) (by decide) (fun E ce q9 H locs hE hP hD hS hce hcv hcl => ?_) (fun H locs hp hP hD hS => ?_)
    · skip
      have hP : va_P D vwCl (wX a k n K V kd SK SV) H := hP
      have hD : va_D A (wX a k n K V kd SK SV) := hD
      subst hE
      exact fx_out ht9 hlocks hce hcv hcl hS (by decide) (by decide) ⟨rfl, hs⟩ hP hK hD
    · skip
      have hP : va_P D vwCl (wX a k n K V kd SK SV) H := hP
      have hD : va_D A (wX a k n K V kd SK SV) := hD
      exact hp.elim
set_option maxHeartbeats 1000000 in
set_option maxRecDepth 100000 in
theorem c_crash (l : Launch) (hl9 : l.stackTraces = false) (D : va_G) (a : Nat → Nat) (k : Nat → ClassId) (n : Nat) (K V : Nat → Int64) (kd : Nat → Int32) (SK SV : Nat → Int64) (sz : Nat)  : Met l yX0_crash wsX0_crash ({ frames := 0, cells := 0, slots := 0, locals := 0 }) (cP D (tX k) (wX a k n K V kd SK SV) [.ref (a 0)] sz) (cQi D (tX k) (fun v => v = (crF 8 0 kd 0).2) (wX a k n K V ((crF 8 0 kd 0).1) SK SV) (va_A (wX a k n K V kd SK SV) sz)) 0 0 (va_A (wX a k n K V kd SK SV) sz) := by
  refine mk_n (cc := cX0_crash) (maxL := 3) (ret := (some .int)) (fun A => cQi D (tX k) (fun v => v = (crF 8 0 kd 0).2) (wX a k n K V ((crF 8 0 kd 0).1) SK SV) A) (by decide) rfl (Nat.le_of_ble_eq_true rfl) ?_
  intro p e s m below meth c ls A hx hb hr hml hlocks hnm hown hts hP hK hD hZ hA hS hl
  have hown : s.vm.findClass RX0 = some m.cls := hown
  have hl : lv_has ls 3 [(0, .ref (a 0))] := hl
  refine lv_iconst (v := 0) hx hb dX0_crash_0 (by decide) ?_
  refine lv_istore_n (lv' := [(1, .int 0), (0, .ref (a 0))]) hx hb dX0_crash_1 rfl hl (by decide) rfl (fun ls hl => ?_)
  refine lv_iconst (v := 0) hx hb dX0_crash_2 (by decide) ?_
  refine lv_istore_n (lv' := [(2, .int 0), (1, .int 0), (0, .ref (a 0))]) hx hb dX0_crash_3 rfl hl (by decide) rfl (fun ls hl => ?_)
  have loop : ∀ (f i : Nat) (kc : Nat → Int32) (acc : Int32) (H : Heap) (locs : List Loc), 8 - i = f → i ≤ 8 → crF f i kc acc = crF 8 0 kd 0 → va_P D vwCl (wX a k n K V kc SK SV) H → va_D A (wX a k n K V kc SK SV) → va_S A s.heap H locs → ∀ ls : Array Slot, lv_has ls 3 [(2, .int (nI i)), (1, .int acc), (0, .ref (a 0))] → W p l e ({ frames := 0, cells := 0, slots := 0, locals := 0 }) s m ([.ref (a 0)] : List Value).toArray below meth c H locs 0 0 (MQ below (cQi D (tX k) (fun v => v = (crF 8 0 kd 0).2) (wX a k n K V ((crF 8 0 kd 0).1) SK SV) A) ([.ref (a 0)] : List Value).toArray s 0 0 A) (F0 m 4 ls []) := by
    intro f
    induction f with
    | zero =>
      intro i kc acc H locs hf hi e1 hP hD hS ls hl
      have e2 : kc = (crF 8 0 kd 0).1 := congrArg Prod.fst e1
      have e3 : acc = (crF 8 0 kd 0).2 := congrArg Prod.snd e1
      refine lv_iload_n hx hb dX0_crash_4 rfl (lv_at hl 0 rfl) ?_
      refine lv_bipush (v := 8) hx hb dX0_crash_5 (by decide) ?_
      refine lv_icmp_ge (tgt := 36) hx hb dX0_crash_7 (by decide) (fun h1 => ?_) (fun h1 => ?_)
      · skip
        rw [e2] at hP hD
        refine lv_iload_n hx hb dX0_crash_36 rfl (lv_at hl 1 rfl) ?_
        exact fn_i hx hb hr hlocks (by decide) (by decide) e3 hP hK hD hS dX0_crash_37
      · skip
        exact absurd ((nI_leI (a := 8) (by omega) (by omega)).mpr (by omega)) h1
    | succ f ih =>
      intro i kc acc H locs hf hi e1 hP hD hS ls hl
      refine lv_iload_n hx hb dX0_crash_4 rfl (lv_at hl 0 rfl) ?_
      refine lv_bipush (v := 8) hx hb dX0_crash_5 (by decide) ?_
      refine lv_icmp_ge (tgt := 36) hx hb dX0_crash_7 (by decide) (fun h1 => ?_) (fun h1 => ?_)
      · skip
        exact absurd ((nI_leI (a := 8) (by omega) (by omega)).mp h1) (by omega)
      · skip
        refine lv_aload_n hx hb dX0_crash_10 rfl (lv_at hl 2 rfl) ?_
        refine va_get (D := D) (ci := 0) (v := .ref (a 3)) (C := RX0) (T := TX0) (N := 6) hx hb hts (fun w h => wm (ui_X0 w h)) hown hK hP 0 rfl rfl 3 (by decide) (hts (.fieldLink RX0 20 "LinkedIndex" "slotKinds" "[I") (wm mb_5)) (fun _ h9 => h9) rfl dX0_crash_11 ?_
        refine lv_iload_n hx hb dX0_crash_14 rfl (lv_at hl 0 rfl) ?_
        refine x_iald (j := i) hx hb hK hP 3 2 rfl rfl (by omega) (by decide) dX0_crash_15 ?_
        refine lv_iconst (v := (-1)) hx hb dX0_crash_16 (by decide) ?_
        refine lv_icmp_eq (tgt := 30) hx hb dX0_crash_17 (by decide) (fun h2 => ?_) (fun h2 => ?_)
        · skip
          have e1 : crF f (i + 1) kc acc = crF 8 0 kd 0 := by
            rw [← e1]
            show _ = crF f (i + 1) (upd kc i (-1)) (if kc i = -1 then acc else acc + 1)
            rw [upd_same h2, if_pos h2]
          refine lv_iinc (k := 0) (v := nI (i + 1)) (lv' := [(2, .int (nI (i + 1))), (1, .int acc), (0, .ref (a 0))]) hx hb dX0_crash_30 hl rfl (by rw [show Int32.ofInt 1 = 1 from by decide]; exact nI_1 _) (by decide) rfl (fun ls hl => ?_)
          refine lv_goto (tgt := 4) hx hb dX0_crash_33 (by decide) ?_
          exact ih (i + 1) kc acc H locs (by omega) (by omega) e1 hP hD hS ls (lv_sub hl [0, 1, 2] rfl)
        · skip
          refine lv_aload_n hx hb dX0_crash_20 rfl (lv_at hl 2 rfl) ?_
          refine va_get (D := D) (ci := 0) (v := .ref (a 3)) (C := RX0) (T := TX0) (N := 6) hx hb hts (fun w h => wm (ui_X0 w h)) hown hK hP 0 rfl rfl 3 (by decide) (hts (.fieldLink RX0 20 "LinkedIndex" "slotKinds" "[I") (wm mb_5)) (fun _ h9 => h9) rfl dX0_crash_21 ?_
          refine lv_iload_n hx hb dX0_crash_24 rfl (lv_at hl 0 rfl) ?_
          refine lv_iconst (v := (-1)) hx hb dX0_crash_25 (by decide) ?_
          refine x_iast (j := i) hx hb hK hP hD hS 3 2 rfl rfl (by omega) (by decide) dX0_crash_26 (fun H locs hP hD hS => ?_)
          have hP : va_P D vwCl (wX a k n K V (upd kc i (-1)) SK SV) H := hP
          have hD : va_D A (wX a k n K V (upd kc i (-1)) SK SV) := hD
          have e1 : crF f (i + 1) (upd kc i (-1)) (acc + 1) = crF 8 0 kd 0 := by
            rw [← e1]
            show _ = crF f (i + 1) (upd kc i (-1)) (if kc i = -1 then acc else acc + 1)
            rw [if_neg h2]
          refine lv_iinc (k := 1) (v := acc + 1) (lv' := [(1, .int (acc + 1)), (2, .int (nI i)), (0, .ref (a 0))]) hx hb dX0_crash_27 hl rfl rfl (by decide) rfl (fun ls hl => ?_)
          refine lv_iinc (k := 1) (v := nI (i + 1)) (lv' := [(2, .int (nI (i + 1))), (1, .int (acc + 1)), (0, .ref (a 0))]) hx hb dX0_crash_30 hl rfl (by rw [show Int32.ofInt 1 = 1 from by decide]; exact nI_1 _) (by decide) rfl (fun ls hl => ?_)
          refine lv_goto (tgt := 4) hx hb dX0_crash_33 (by decide) ?_
          exact ih (i + 1) _ _ H locs (by omega) (by omega) e1 hP hD hS ls (lv_sub hl [0, 1, 2] rfl)
  exact loop 8 0 kd 0 s.heap [] rfl (by omega) rfl hP hD hS ls hl
set_option maxHeartbeats 1000000 in
set_option maxRecDepth 100000 in
theorem c_count (l : Launch) (hl9 : l.stackTraces = false) (D : va_G) (a : Nat → Nat) (k : Nat → ClassId) (n : Nat) (K V : Nat → Int64) (kd : Nat → Int32) (SK SV : Nat → Int64) (fr to_ : Int64) (sz : Nat) (hn : n ≤ 100) : Met l yX0_count wsX0_count ({ frames := 1, cells := 0, slots := 0, locals := 23 }) (cP D (tX k) (wX a k n K V kd SK SV) [.ref (a 0), .long fr, .long to_] sz) (cQi D (tX k) (fun v => v = cntS K n fr to_) (wX a k n K V kd SK SV) (va_A (wX a k n K V kd SK SV) sz)) 0 0 (va_A (wX a k n K V kd SK SV) sz) := by
  refine mk_n (cc := cX0_count) (maxL := 7) (ret := (some .int)) (fun A => cQi D (tX k) (fun v => v = cntS K n fr to_) (wX a k n K V kd SK SV) A) (by decide) rfl (Nat.le_of_ble_eq_true rfl) ?_
  intro p e s m below meth c ls A hx hb hr hml hlocks hnm hown hts hP hK hD hZ hA hS hl
  have hown : s.vm.findClass RX0 = some m.cls := hown
  have hl : lv_has ls 7 [(0, .ref (a 0)), (1, .long fr), (3, .long to_)] := hl
  refine lv_iconst (v := 0) hx hb dX0_count_0 (by decide) ?_
  refine lv_istore (lv' := [(5, .int 0), (0, .ref (a 0)), (1, .long fr), (3, .long to_)]) hx hb dX0_count_1 hl (by decide) rfl (fun ls hl => ?_)
  refine lv_aload_n hx hb dX0_count_3 rfl (lv_at hl 1 rfl) ?_
  refine lv_lload_n hx hb dX0_count_4 rfl (lv_at hl 2 rfl) ?_
  refine kn_i (wc := (wX a k n K V kd SK SV)) (wr := []) (w1 := (wX a k n K V kd SK SV)) (va_runV (As := [.long fr]) (rest := []) ⟨hx, hb, hml, hown, hts⟩ (c_placeOf l hl9 D a k n K V kd SK SV fr s.heap.size hn) (cwV 1 hts (gd_up (gd_V mb_27 mb_28 mb_29 mb_12 mb_30)) rfl rfl rfl (by decide +kernel) ⟨by decide, by decide⟩) ⟨cP_blind, va_recv (q0 := 0) (ci := 0) (q := (RX0, TX0, 6)) hK hP rfl rfl, cPre hP hD hK hS hA hZ [0, 1, 2, 3, 4, 5] rfl (by decide) [0, 1, 2, 3, 4] rfl⟩ rfl rfl hl.1 rfl (lv_room (Nat.le_of_ble_eq_true rfl)) dX0_count_5 ⟨by decide, by decide⟩) hP hD hS hA [0, 1, 2, 3, 4, 5] [] rfl rfl (by decide) (by decide) (fun r9 H locs hp hP hD hS => ?_)
  have hP : va_P D vwCl (wX a k n K V kd SK SV) H := hP
  have hD : va_D A (wX a k n K V kd SK SV) := hD
  have hle := rk_le K fr n
  subst hp
  refine lv_istore (lv' := [(6, .int (nI (rk K fr n))), (5, .int 0), (0, .ref (a 0)), (1, .long fr), (3, .long to_)]) hx hb dX0_count_8 hl (by decide) rfl (fun ls hl => ?_)
  have loop : ∀ (f i : Nat) (acc : Int32), n - i < f → i ≤ n → cC (fun x y : Int32 => x + y) (fun _ => 1) K to_ (n - i) i acc = cntS K n fr to_ → ∀ ls : Array Slot, lv_has ls 7 [(6, .int (nI i)), (5, .int acc), (0, .ref (a 0)), (1, .long fr), (3, .long to_)] → W p l e ({ frames := 1, cells := 0, slots := 0, locals := 23 }) s m ([.ref (a 0), .long fr, .long to_] : List Value).toArray below meth c H locs (0 + 0) (0 + 0) (MQ below (cQi D (tX k) (fun v => v = cntS K n fr to_) (wX a k n K V kd SK SV) A) ([.ref (a 0), .long fr, .long to_] : List Value).toArray s 0 0 A) (F0 m 10 ls []) := by
    intro f
    induction f with
    | zero => intro i acc hf; omega
    | succ f ih =>
      intro i acc hf hi hk ls hl
      refine lv_iload hx hb dX0_count_10 (lv_at hl 0 rfl) ?_
      refine lv_aload_n hx hb dX0_count_12 rfl (lv_at hl 2 rfl) ?_
      refine va_get (D := D) (ci := 0) (v := .int (nI n)) (C := RX0) (T := TX0) (N := 6) hx hb hts (fun w h => wm (ui_X0 w h)) hown hK hP 0 rfl rfl 2 (by decide) (hts (.fieldLink RX0 16 "LinkedIndex" "keyCount" "I") (wm mb_2)) (fun _ h9 => h9) rfl dX0_count_13 ?_
      refine lv_icmp_ge (tgt := 40) hx hb dX0_count_16 (by decide) (fun h1 => ?_) (fun h1 => ?_)
      · skip
        have h1 : n ≤ i := (nI_leI (by omega) (by omega)).mp h1
        refine lv_iload hx hb dX0_count_40 (lv_at hl 1 rfl) ?_
        exact fn_i hx hb hr hlocks (by decide) (by decide) (by rw [← hk, show n - i = 0 by omega]; rfl) hP hK hD hS dX0_count_42
      · skip
        have h1 : i < n := Nat.lt_of_not_le (fun q => h1 ((nI_leI (by omega) (by omega)).mpr q))
        refine lv_aload_n hx hb dX0_count_19 rfl (lv_at hl 2 rfl) ?_
        refine va_get (D := D) (ci := 0) (v := .ref (a 1)) (C := RX0) (T := TX0) (N := 6) hx hb hts (fun w h => wm (ui_X0 w h)) hown hK hP 0 rfl rfl 0 (by decide) (hts (.fieldLink RX0 9 "LinkedIndex" "keys" "[J") (wm mb_8)) (fun _ h9 => h9) rfl dX0_count_20 ?_
        refine lv_iload hx hb dX0_count_23 (lv_at hl 0 rfl) ?_
        refine x_lald (j := i) hx hb hK hP 1 0 rfl rfl (by omega) (by decide) dX0_count_25 ?_
        refine lv_lload_n hx hb dX0_count_26 rfl (lv_at hl 4 rfl) ?_
        refine W.lcmp hx hb dX0_count_27 ?_
        refine lv_if_gt (tgt := 40) hx hb dX0_count_28 (by decide) (fun h2 => ?_) (fun h2 => ?_)
        · skip
          have h2 : ¬ K i ≤ to_ := fun q => i64_nltle ((lg_cmp_gt _ _).mp h2) q
          refine lv_iload hx hb dX0_count_40 (lv_at hl 1 rfl) ?_
          exact fn_i hx hb hr hlocks (by decide) (by decide) (by rw [← hk, show n - i = (n - (i + 1)) + 1 by omega]; show acc = if K i ≤ to_ then _ else acc; rw [if_neg h2]) hP hK hD hS dX0_count_42
        · skip
          have h2 : K i ≤ to_ := i64_nlt (fun q => h2 ((lg_cmp_gt _ _).mpr q))
          have hk : cC (fun x y : Int32 => x + y) (fun _ => 1) K to_ (n - (i + 1)) (i + 1) (acc + 1) = cntS K n fr to_ := by
            rw [← hk, show n - i = (n - (i + 1)) + 1 by omega]
            show _ = if K i ≤ to_ then _ else acc
            rw [if_pos h2]
          refine lv_iinc (k := 1) (v := acc + 1) (lv' := [(5, .int (acc + 1)), (6, .int (nI i)), (0, .ref (a 0)), (1, .long fr), (3, .long to_)]) hx hb dX0_count_31 hl rfl rfl (by decide) rfl (fun ls hl => ?_)
          refine lv_iinc (k := 1) (v := nI (i + 1)) (lv' := [(6, .int (nI (i + 1))), (5, .int (acc + 1)), (0, .ref (a 0)), (1, .long fr), (3, .long to_)]) hx hb dX0_count_34 hl rfl (by rw [show Int32.ofInt 1 = 1 from by decide]; exact nI_1 _) (by decide) rfl (fun ls hl => ?_)
          refine lv_goto (tgt := 10) hx hb dX0_count_37 (by decide) ?_
          exact ih (i + 1) _ (by omega) (by omega) hk ls (lv_sub hl [0, 1, 2, 3, 4] rfl)
  exact loop (n + 1) _ _ (by omega) hle rfl ls hl
set_option maxHeartbeats 1000000 in
set_option maxRecDepth 100000 in
theorem c_sum (l : Launch) (hl9 : l.stackTraces = false) (D : va_G) (a : Nat → Nat) (k : Nat → ClassId) (n : Nat) (K V : Nat → Int64) (kd : Nat → Int32) (SK SV : Nat → Int64) (fr to_ : Int64) (sz : Nat) (hn : n ≤ 100) : Met l yX0_sum wsX0_sum ({ frames := 1, cells := 0, slots := 0, locals := 23 }) (cP D (tX k) (wX a k n K V kd SK SV) [.ref (a 0), .long fr, .long to_] sz) (cQl D (tX k) (fun v => v = sumS K V n fr to_) (wX a k n K V kd SK SV) (va_A (wX a k n K V kd SK SV) sz)) 0 0 (va_A (wX a k n K V kd SK SV) sz) := by
  refine mk_n (cc := cX0_sum) (maxL := 8) (ret := (some .long)) (fun A => cQl D (tX k) (fun v => v = sumS K V n fr to_) (wX a k n K V kd SK SV) A) (by decide) rfl (Nat.le_of_ble_eq_true rfl) ?_
  intro p e s m below meth c ls A hx hb hr hml hlocks hnm hown hts hP hK hD hZ hA hS hl
  have hown : s.vm.findClass RX0 = some m.cls := hown
  have hl : lv_has ls 8 [(0, .ref (a 0)), (1, .long fr), (3, .long to_)] := hl
  refine lv_lconst (v := 0) hx hb dX0_sum_0 (by decide) ?_
  refine lv_lstore (lv' := [(5, .long 0), (0, .ref (a 0)), (1, .long fr), (3, .long to_)]) hx hb dX0_sum_1 hl (by decide) rfl (fun ls hl => ?_)
  refine lv_aload_n hx hb dX0_sum_3 rfl (lv_at hl 1 rfl) ?_
  refine lv_lload_n hx hb dX0_sum_4 rfl (lv_at hl 2 rfl) ?_
  refine kn_i (wc := (wX a k n K V kd SK SV)) (wr := []) (w1 := (wX a k n K V kd SK SV)) (va_runV (As := [.long fr]) (rest := []) ⟨hx, hb, hml, hown, hts⟩ (c_placeOf l hl9 D a k n K V kd SK SV fr s.heap.size hn) (cwV 1 hts (gd_up (gd_V mb_27 mb_28 mb_29 mb_12 mb_30)) rfl rfl rfl (by decide +kernel) ⟨by decide, by decide⟩) ⟨cP_blind, va_recv (q0 := 0) (ci := 0) (q := (RX0, TX0, 6)) hK hP rfl rfl, cPre hP hD hK hS hA hZ [0, 1, 2, 3, 4, 5] rfl (by decide) [0, 1, 2, 3, 4] rfl⟩ rfl rfl hl.1 rfl (lv_room (Nat.le_of_ble_eq_true rfl)) dX0_sum_5 ⟨by decide, by decide⟩) hP hD hS hA [0, 1, 2, 3, 4, 5] [] rfl rfl (by decide) (by decide) (fun r9 H locs hp hP hD hS => ?_)
  have hP : va_P D vwCl (wX a k n K V kd SK SV) H := hP
  have hD : va_D A (wX a k n K V kd SK SV) := hD
  have hle := rk_le K fr n
  subst hp
  refine lv_istore (lv' := [(7, .int (nI (rk K fr n))), (5, .long 0), (0, .ref (a 0)), (1, .long fr), (3, .long to_)]) hx hb dX0_sum_8 hl (by decide) rfl (fun ls hl => ?_)
  have loop : ∀ (f i : Nat) (acc : Int64), n - i < f → i ≤ n → cC (fun x y : Int64 => x + y) V K to_ (n - i) i acc = sumS K V n fr to_ → ∀ ls : Array Slot, lv_has ls 8 [(7, .int (nI i)), (5, .long acc), (0, .ref (a 0)), (1, .long fr), (3, .long to_)] → W p l e ({ frames := 1, cells := 0, slots := 0, locals := 23 }) s m ([.ref (a 0), .long fr, .long to_] : List Value).toArray below meth c H locs (0 + 0) (0 + 0) (MQ below (cQl D (tX k) (fun v => v = sumS K V n fr to_) (wX a k n K V kd SK SV) A) ([.ref (a 0), .long fr, .long to_] : List Value).toArray s 0 0 A) (F0 m 10 ls []) := by
    intro f
    induction f with
    | zero => intro i acc hf; omega
    | succ f ih =>
      intro i acc hf hi hk ls hl
      refine lv_iload hx hb dX0_sum_10 (lv_at hl 0 rfl) ?_
      refine lv_aload_n hx hb dX0_sum_12 rfl (lv_at hl 2 rfl) ?_
      refine va_get (D := D) (ci := 0) (v := .int (nI n)) (C := RX0) (T := TX0) (N := 6) hx hb hts (fun w h => wm (ui_X0 w h)) hown hK hP 0 rfl rfl 2 (by decide) (hts (.fieldLink RX0 16 "LinkedIndex" "keyCount" "I") (wm mb_2)) (fun _ h9 => h9) rfl dX0_sum_13 ?_
      refine lv_icmp_ge (tgt := 49) hx hb dX0_sum_16 (by decide) (fun h1 => ?_) (fun h1 => ?_)
      · skip
        have h1 : n ≤ i := (nI_leI (by omega) (by omega)).mp h1
        refine lv_lload hx hb dX0_sum_49 (lv_at hl 1 rfl) ?_
        exact fn_l hx hb hr hlocks (by decide) (by decide) (by rw [← hk, show n - i = 0 by omega]; rfl) hP hK hD hS dX0_sum_51
      · skip
        have h1 : i < n := Nat.lt_of_not_le (fun q => h1 ((nI_leI (by omega) (by omega)).mpr q))
        refine lv_aload_n hx hb dX0_sum_19 rfl (lv_at hl 2 rfl) ?_
        refine va_get (D := D) (ci := 0) (v := .ref (a 1)) (C := RX0) (T := TX0) (N := 6) hx hb hts (fun w h => wm (ui_X0 w h)) hown hK hP 0 rfl rfl 0 (by decide) (hts (.fieldLink RX0 9 "LinkedIndex" "keys" "[J") (wm mb_8)) (fun _ h9 => h9) rfl dX0_sum_20 ?_
        refine lv_iload hx hb dX0_sum_23 (lv_at hl 0 rfl) ?_
        refine x_lald (j := i) hx hb hK hP 1 0 rfl rfl (by omega) (by decide) dX0_sum_25 ?_
        refine lv_lload_n hx hb dX0_sum_26 rfl (lv_at hl 4 rfl) ?_
        refine W.lcmp hx hb dX0_sum_27 ?_
        refine lv_if_gt (tgt := 49) hx hb dX0_sum_28 (by decide) (fun h2 => ?_) (fun h2 => ?_)
        · skip
          have h2 : ¬ K i ≤ to_ := fun q => i64_nltle ((lg_cmp_gt _ _).mp h2) q
          refine lv_lload hx hb dX0_sum_49 (lv_at hl 1 rfl) ?_
          exact fn_l hx hb hr hlocks (by decide) (by decide) (by rw [← hk, show n - i = (n - (i + 1)) + 1 by omega]; show acc = if K i ≤ to_ then _ else acc; rw [if_neg h2]) hP hK hD hS dX0_sum_51
        · skip
          have h2 : K i ≤ to_ := i64_nlt (fun q => h2 ((lg_cmp_gt _ _).mpr q))
          have hk : cC (fun x y : Int64 => x + y) V K to_ (n - (i + 1)) (i + 1) (acc + V i) = sumS K V n fr to_ := by
            rw [← hk, show n - i = (n - (i + 1)) + 1 by omega]
            show _ = if K i ≤ to_ then _ else acc
            rw [if_pos h2]
          refine lv_lload hx hb dX0_sum_31 (lv_at hl 1 rfl) ?_
          refine lv_aload_n hx hb dX0_sum_33 rfl (lv_at hl 2 rfl) ?_
          refine va_get (D := D) (ci := 0) (v := .ref (a 2)) (C := RX0) (T := TX0) (N := 6) hx hb hts (fun w h => wm (ui_X0 w h)) hown hK hP 0 rfl rfl 1 (by decide) (hts (.fieldLink RX0 13 "LinkedIndex" "values" "[J") (wm mb_9)) (fun _ h9 => h9) rfl dX0_sum_34 ?_
          refine lv_iload hx hb dX0_sum_37 (lv_at hl 0 rfl) ?_
          refine x_lald (j := i) hx hb hK hP 2 1 rfl rfl (by omega) (by decide) dX0_sum_39 ?_
          refine lv_ladd hx hb dX0_sum_40 ?_
          refine lv_lstore (lv' := [(5, .long (acc + (V i))), (7, .int (nI i)), (0, .ref (a 0)), (1, .long fr), (3, .long to_)]) hx hb dX0_sum_41 hl (by decide) rfl (fun ls hl => ?_)
          refine lv_iinc (k := 1) (v := nI (i + 1)) (lv' := [(7, .int (nI (i + 1))), (5, .long (acc + (V i))), (0, .ref (a 0)), (1, .long fr), (3, .long to_)]) hx hb dX0_sum_43 hl rfl (by rw [show Int32.ofInt 1 = 1 from by decide]; exact nI_1 _) (by decide) rfl (fun ls hl => ?_)
          refine lv_goto (tgt := 10) hx hb dX0_sum_46 (by decide) ?_
          exact ih (i + 1) _ (by omega) (by omega) hk ls (lv_sub hl [0, 1, 2, 3, 4] rfl)
  exact loop (n + 1) _ _ (by omega) hle rfl ls hl
end
section
set_option maxHeartbeats 1000000 in
set_option maxRecDepth 100000 in
theorem c_finishPut (l : Launch) (hl9 : l.stackTraces = false) (D : va_G) (a : Nat → Nat) (k : Nat → ClassId) (n : Nat) (K V : Nat → Int64) (kd : Nat → Int32) (SK SV : Nat → Int64) (j r : Nat) (sz : Nat) (hj : j < 8) (hr9 : r ≤ n) (hn : n ≤ 100) : vx_Met l yX0_finishPut wsX0_finishPut ({ frames := 6, cells := 1, slots := 6, locals := 82 }) (cP D (tX k) (wX a k n K V kd SK SV) [.ref (a 0), .int (nI j), .int (nI r)] sz) (cQl D (tX k) (fun v => (atR K n (SK j) r ∨ n < 100) ∧ v = (if atR K n (SK j) r then 1 else 0)) (wX a k (fpN n K (SK j) r) (fpK n K (SK j) r) (fpV n K V (SK j) (SV j) r) (upd kd j (-1)) SK SV) (va_A (wX a k n K V kd SK SV) sz)) (cX D (tX k) (fun E => E = "java/lang/IllegalStateException" ∧ ¬ atR K n (SK j) r ∧ 100 ≤ n) (wX a k n K V kd SK SV) (va_A (wX a k n K V kd SK SV) sz)) 1 6 (va_A (wX a k n K V kd SK SV) sz) := by
  refine mk_x (cc := cX0_finishPut) (maxL := 4) (ret := (some .long)) (fun A => cQl D (tX k) (fun v => (atR K n (SK j) r ∨ n < 100) ∧ v = (if atR K n (SK j) r then 1 else 0)) (wX a k (fpN n K (SK j) r) (fpK n K (SK j) r) (fpV n K V (SK j) (SV j) r) (upd kd j (-1)) SK SV) A) (fun A => cX D (tX k) (fun E => E = "java/lang/IllegalStateException" ∧ ¬ atR K n (SK j) r ∧ 100 ≤ n) (wX a k n K V kd SK SV) A) (by decide) rfl (Nat.le_of_ble_eq_true rfl) ?_
  intro p e s m below meth c ls A hx hb hr hml ht9 hlocks hnm hown hts hP hK hD hZ hA hS hl
  have hown : s.vm.findClass RX0 = some m.cls := hown
  have hl : lv_has ls 4 [(0, .ref (a 0)), (1, .int (nI j)), (2, .int (nI r))] := hl
  refine lv_aload_n hx hb dX0_finishPut_0 rfl (lv_at hl 0 rfl) ?_
  refine lv_iload_n hx hb dX0_finishPut_1 rfl (lv_at hl 2 rfl) ?_
  refine lv_aload_n hx hb dX0_finishPut_2 rfl (lv_at hl 0 rfl) ?_
  refine va_get (D := D) (ci := 0) (v := .ref (a 4)) (C := RX0) (T := TX0) (N := 6) hx hb hts (fun w h => wm (ui_X0 w h)) hown hK hP 0 rfl rfl 4 (by decide) (hts (.fieldLink RX0 24 "LinkedIndex" "slotKeys" "[J") (wm mb_14)) (fun _ h9 => h9) rfl dX0_finishPut_3 ?_
  refine lv_iload_n hx hb dX0_finishPut_6 rfl (lv_at hl 1 rfl) ?_
  refine x_lald (j := j) hx hb hK hP 4 3 rfl rfl (by omega) (by decide) dX0_finishPut_7 ?_
  refine kn_i (wc := (wX a k n K V kd SK SV)) (wr := []) (w1 := (wX a k n K V kd SK SV)) (va_runV (As := [.int (nI r), .long (SK j)]) (rest := []) ⟨hx, hb, hml, hown, hts⟩ (c_isAt l hl9 D a k n K V kd SK SV r (SK j) s.heap.size (by omega) hn) (cwV 2 hts (gd_up (gd_V mb_31 mb_32 mb_33 mb_12 mb_34)) rfl rfl rfl (by decide +kernel) ⟨by decide, by decide⟩) ⟨cP_blind, va_recv (q0 := 0) (ci := 0) (q := (RX0, TX0, 6)) hK hP rfl rfl, cPre hP hD hK hS hA hZ [0, 1, 2, 3, 4, 5] rfl (by decide) [0, 1, 2, 3, 4] rfl⟩ rfl rfl hl.1 rfl (lv_room (Nat.le_of_ble_eq_true rfl)) dX0_finishPut_8 ⟨by decide, by decide⟩) hP hD hS hA [0, 1, 2, 3, 4, 5] [] rfl rfl (by decide) (by decide) (fun r9 H locs hp hP hD hS => ?_)
  have hP : va_P D vwCl (wX a k n K V kd SK SV) H := hP
  have hD : va_D A (wX a k n K V kd SK SV) := hD
  by_cases h4 : atR K n (SK j) r
  · skip
    rw [if_pos h4] at hp
    subst hp
    refine lv_istore_n (lv' := [(3, .int 1), (0, .ref (a 0)), (1, .int (nI j)), (2, .int (nI r))]) hx hb dX0_finishPut_11 rfl hl (by decide) rfl (fun ls hl => ?_)
    refine lv_iload_n hx hb dX0_finishPut_12 rfl (lv_at hl 0 rfl) ?_
    refine lv_if_ne (tgt := 52) hx hb dX0_finishPut_13 (by decide) (fun h1 => ?_) (fun h1 => ?_)
    · skip
      refine lv_aload_n hx hb dX0_finishPut_52 rfl (lv_at hl 1 rfl) ?_
      refine va_get (D := D) (ci := 0) (v := .ref (a 2)) (C := RX0) (T := TX0) (N := 6) hx hb hts (fun w h => wm (ui_X0 w h)) hown hK hP 0 rfl rfl 1 (by decide) (hts (.fieldLink RX0 13 "LinkedIndex" "values" "[J") (wm mb_9)) (fun _ h9 => h9) rfl dX0_finishPut_53 ?_
      refine lv_iload_n hx hb dX0_finishPut_56 rfl (lv_at hl 3 rfl) ?_
      refine lv_aload_n hx hb dX0_finishPut_57 rfl (lv_at hl 1 rfl) ?_
      refine va_get (D := D) (ci := 0) (v := .ref (a 5)) (C := RX0) (T := TX0) (N := 6) hx hb hts (fun w h => wm (ui_X0 w h)) hown hK hP 0 rfl rfl 5 (by decide) (hts (.fieldLink RX0 27 "LinkedIndex" "slotValues" "[J") (wm mb_15)) (fun _ h9 => h9) rfl dX0_finishPut_58 ?_
      refine lv_iload_n hx hb dX0_finishPut_61 rfl (lv_at hl 2 rfl) ?_
      refine x_lald (j := j) hx hb hK hP 5 4 rfl rfl (by omega) (by decide) dX0_finishPut_62 ?_
      refine x_last (j := r) hx hb hK hP hD hS 2 1 rfl rfl (by omega) (by decide) dX0_finishPut_63 (fun H locs hP hD hS => ?_)
      have hP : va_P D vwCl (wX a k n K (vp_updL V r (SV j)) kd SK SV) H := hP
      have hD : va_D A (wX a k n K (vp_updL V r (SV j)) kd SK SV) := hD
      refine lv_aload_n hx hb dX0_finishPut_64 rfl (lv_at hl 1 rfl) ?_
      refine va_get (D := D) (ci := 0) (v := .ref (a 3)) (C := RX0) (T := TX0) (N := 6) hx hb hts (fun w h => wm (ui_X0 w h)) hown hK hP 0 rfl rfl 3 (by decide) (hts (.fieldLink RX0 20 "LinkedIndex" "slotKinds" "[I") (wm mb_5)) (fun _ h9 => h9) rfl dX0_finishPut_65 ?_
      refine lv_iload_n hx hb dX0_finishPut_68 rfl (lv_at hl 2 rfl) ?_
      refine lv_iconst (v := (-1)) hx hb dX0_finishPut_69 (by decide) ?_
      refine x_iast (j := j) hx hb hK hP hD hS 3 2 rfl rfl (by omega) (by decide) dX0_finishPut_70 (fun H locs hP hD hS => ?_)
      have hP : va_P D vwCl (wX a k n K (vp_updL V r (SV j)) (upd kd j (-1)) SK SV) H := hP
      have hD : va_D A (wX a k n K (vp_updL V r (SV j)) (upd kd j (-1)) SK SV) := hD
      refine lv_iload_n hx hb dX0_finishPut_71 rfl (lv_at hl 0 rfl) ?_
      refine lv_if_eq (tgt := 79) hx hb dX0_finishPut_72 (by decide) (fun h2 => ?_) (fun h2 => ?_)
      · skip
        exact absurd h2 (by decide)
      · skip
        refine lv_lconst (v := 1) hx hb dX0_finishPut_75 (by decide) ?_
        refine lv_goto (tgt := 80) hx hb dX0_finishPut_76 (by decide) ?_
        have e1 : fpN n K (SK j) r = n := if_pos h4
        have e2 : fpK n K (SK j) r = K := if_pos h4
        have e3 : fpV n K V (SK j) (SV j) r = vp_updL V r (SV j) := by unfold fpV; rw [if_pos h4]
        rw [e1, e2, e3, if_pos h4]
        exact fx_l hx hb hr hlocks (by decide) (by decide) ⟨Or.inl h4, by rfl⟩ hP hK hD hS dX0_finishPut_80
    · skip
      exact absurd h1 (by decide)
  · skip
    rw [if_neg h4] at hp
    subst hp
    refine lv_istore_n (lv' := [(3, .int 0), (0, .ref (a 0)), (1, .int (nI j)), (2, .int (nI r))]) hx hb dX0_finishPut_11 rfl hl (by decide) rfl (fun ls hl => ?_)
    refine lv_iload_n hx hb dX0_finishPut_12 rfl (lv_at hl 0 rfl) ?_
    refine lv_if_ne (tgt := 52) hx hb dX0_finishPut_13 (by decide) (fun h1 => ?_) (fun h1 => ?_)
    · skip
      exact absurd rfl h1
    · skip
      refine lv_aload_n hx hb dX0_finishPut_16 rfl (lv_at hl 1 rfl) ?_
      refine va_get (D := D) (ci := 0) (v := .int (nI n)) (C := RX0) (T := TX0) (N := 6) hx hb hts (fun w h => wm (ui_X0 w h)) hown hK hP 0 rfl rfl 2 (by decide) (hts (.fieldLink RX0 16 "LinkedIndex" "keyCount" "I") (wm mb_2)) (fun _ h9 => h9) rfl dX0_finishPut_17 ?_
      refine lv_bipush (v := 100) hx hb dX0_finishPut_20 (by decide) ?_
      refine lv_icmp_lt (tgt := 35) hx hb dX0_finishPut_22 (by decide) (fun h5 => ?_) (fun h5 => ?_)
      · skip
        have h5 : n < 100 := (nI_ltI (a := n) (b := 100) (by omega) (by decide)).mp h5
        refine lv_aload_n hx hb dX0_finishPut_35 rfl (lv_at hl 1 rfl) ?_
        refine lv_iload_n hx hb dX0_finishPut_36 rfl (lv_at hl 3 rfl) ?_
        refine kn_v (wc := (wX a k n K V kd SK SV)) (wr := []) (w1 := (wX a k (n + 1) (opF r (n - r) K) (opF r (n - r) V) kd SK SV)) (va_runV (As := [.int (nI r)]) (rest := []) ⟨hx, hb, hml, hown, hts⟩ (c_openGap l hl9 D a k n K V kd SK SV r H.size hr9 h5) (cwV 1 hts (gd_up (gd_V mb_35 mb_36 mb_37 mb_12 mb_38)) rfl rfl rfl (by decide +kernel) ⟨by decide, by decide⟩) ⟨cP_blind, va_recv (q0 := 0) (ci := 0) (q := (RX0, TX0, 6)) hK hP rfl rfl, cPre hP hD hK hS hA hZ [0, 1, 2, 3, 4, 5] rfl (by decide) [0, 1, 2, 3, 4] rfl⟩ rfl rfl hl.1 rfl (lv_room (Nat.le_of_ble_eq_true rfl)) dX0_finishPut_37 ⟨by decide, by decide⟩) hP hD hS hA [0, 1, 2, 3, 4, 5] [] rfl rfl (by decide) (by decide) (fun H locs hp hP hD hS => ?_)
        have hP : va_P D vwCl (wX a k (n + 1) (opF r (n - r) K) (opF r (n - r) V) kd SK SV) H := hP
        have hD : va_D A (wX a k (n + 1) (opF r (n - r) K) (opF r (n - r) V) kd SK SV) := hD
        refine lv_aload_n hx hb dX0_finishPut_40 rfl (lv_at hl 1 rfl) ?_
        refine va_get (D := D) (ci := 0) (v := .ref (a 1)) (C := RX0) (T := TX0) (N := 6) hx hb hts (fun w h => wm (ui_X0 w h)) hown hK hP 0 rfl rfl 0 (by decide) (hts (.fieldLink RX0 9 "LinkedIndex" "keys" "[J") (wm mb_8)) (fun _ h9 => h9) rfl dX0_finishPut_41 ?_
        refine lv_iload_n hx hb dX0_finishPut_44 rfl (lv_at hl 3 rfl) ?_
        refine lv_aload_n hx hb dX0_finishPut_45 rfl (lv_at hl 1 rfl) ?_
        refine va_get (D := D) (ci := 0) (v := .ref (a 4)) (C := RX0) (T := TX0) (N := 6) hx hb hts (fun w h => wm (ui_X0 w h)) hown hK hP 0 rfl rfl 4 (by decide) (hts (.fieldLink RX0 24 "LinkedIndex" "slotKeys" "[J") (wm mb_14)) (fun _ h9 => h9) rfl dX0_finishPut_46 ?_
        refine lv_iload_n hx hb dX0_finishPut_49 rfl (lv_at hl 2 rfl) ?_
        refine x_lald (j := j) hx hb hK hP 4 3 rfl rfl (by omega) (by decide) dX0_finishPut_50 ?_
        refine x_last (j := r) hx hb hK hP hD hS 1 0 rfl rfl (by omega) (by decide) dX0_finishPut_51 (fun H locs hP hD hS => ?_)
        have hP : va_P D vwCl (wX a k (n + 1) (vp_updL (opF r (n - r) K) r (SK j)) (opF r (n - r) V) kd SK SV) H := hP
        have hD : va_D A (wX a k (n + 1) (vp_updL (opF r (n - r) K) r (SK j)) (opF r (n - r) V) kd SK SV) := hD
        refine lv_aload_n hx hb dX0_finishPut_52 rfl (lv_at hl 1 rfl) ?_
        refine va_get (D := D) (ci := 0) (v := .ref (a 2)) (C := RX0) (T := TX0) (N := 6) hx hb hts (fun w h => wm (ui_X0 w h)) hown hK hP 0 rfl rfl 1 (by decide) (hts (.fieldLink RX0 13 "LinkedIndex" "values" "[J") (wm mb_9)) (fun _ h9 => h9) rfl dX0_finishPut_53 ?_
        refine lv_iload_n hx hb dX0_finishPut_56 rfl (lv_at hl 3 rfl) ?_
        refine lv_aload_n hx hb dX0_finishPut_57 rfl (lv_at hl 1 rfl) ?_
        refine va_get (D := D) (ci := 0) (v := .ref (a 5)) (C := RX0) (T := TX0) (N := 6) hx hb hts (fun w h => wm (ui_X0 w h)) hown hK hP 0 rfl rfl 5 (by decide) (hts (.fieldLink RX0 27 "LinkedIndex" "slotValues" "[J") (wm mb_15)) (fun _ h9 => h9) rfl dX0_finishPut_58 ?_
        refine lv_iload_n hx hb dX0_finishPut_61 rfl (lv_at hl 2 rfl) ?_
        refine x_lald (j := j) hx hb hK hP 5 4 rfl rfl (by omega) (by decide) dX0_finishPut_62 ?_
        refine x_last (j := r) hx hb hK hP hD hS 2 1 rfl rfl (by omega) (by decide) dX0_finishPut_63 (fun H locs hP hD hS => ?_)
        have hP : va_P D vwCl (wX a k (n + 1) (vp_updL (opF r (n - r) K) r (SK j)) (vp_updL (opF r (n - r) V) r (SV j)) kd SK SV) H := hP
        have hD : va_D A (wX a k (n + 1) (vp_updL (opF r (n - r) K) r (SK j)) (vp_updL (opF r (n - r) V) r (SV j)) kd SK SV) := hD
        refine lv_aload_n hx hb dX0_finishPut_64 rfl (lv_at hl 1 rfl) ?_
        refine va_get (D := D) (ci := 0) (v := .ref (a 3)) (C := RX0) (T := TX0) (N := 6) hx hb hts (fun w h => wm (ui_X0 w h)) hown hK hP 0 rfl rfl 3 (by decide) (hts (.fieldLink RX0 20 "LinkedIndex" "slotKinds" "[I") (wm mb_5)) (fun _ h9 => h9) rfl dX0_finishPut_65 ?_
        refine lv_iload_n hx hb dX0_finishPut_68 rfl (lv_at hl 2 rfl) ?_
        refine lv_iconst (v := (-1)) hx hb dX0_finishPut_69 (by decide) ?_
        refine x_iast (j := j) hx hb hK hP hD hS 3 2 rfl rfl (by omega) (by decide) dX0_finishPut_70 (fun H locs hP hD hS => ?_)
        have hP : va_P D vwCl (wX a k (n + 1) (vp_updL (opF r (n - r) K) r (SK j)) (vp_updL (opF r (n - r) V) r (SV j)) (upd kd j (-1)) SK SV) H := hP
        have hD : va_D A (wX a k (n + 1) (vp_updL (opF r (n - r) K) r (SK j)) (vp_updL (opF r (n - r) V) r (SV j)) (upd kd j (-1)) SK SV) := hD
        refine lv_iload_n hx hb dX0_finishPut_71 rfl (lv_at hl 0 rfl) ?_
        refine lv_if_eq (tgt := 79) hx hb dX0_finishPut_72 (by decide) (fun h2 => ?_) (fun h2 => ?_)
        · skip
          refine lv_lconst (v := 0) hx hb dX0_finishPut_79 (by decide) ?_
          have e1 : fpN n K (SK j) r = n + 1 := if_neg h4
          have e2 : fpK n K (SK j) r = vp_updL (opF r (n - r) K) r (SK j) := if_neg h4
          have e3 : fpV n K V (SK j) (SV j) r = vp_updL (opF r (n - r) V) r (SV j) := by unfold fpV; rw [if_neg h4]
          rw [e1, e2, e3, if_neg h4]
          exact fx_l hx hb hr hlocks (by decide) (by decide) ⟨Or.inr h5, by rfl⟩ hP hK hD hS dX0_finishPut_80
        · skip
          exact absurd rfl h2
      · skip
        have h5 : 100 ≤ n := Nat.le_of_not_lt (fun q => h5 ((nI_ltI (a := n) (b := 100) (by omega) (by decide)).mpr q))
        exact fx_throw (cls := "java/lang/IllegalStateException") (text := "there are 100 keys") (ic := 45) hx hb hl9 hown (by decide +kernel) (hts (.classLink RX0 41 "java/lang/IllegalStateException") (wm mb_6)) (hts (.initialized "java/lang/IllegalStateException") (wm mb_7)) (by decide) (hat_45 hts hZ.2.2) hgd_45 hZ hS (hl.1.trans hml.symm) dX0_finishPut_25 dX0_finishPut_28 dX0_finishPut_29 dX0_finishPut_31 dX0_finishPut_34 ht9 (by decide) (by decide) (by decide) (by decide) hlocks (by decide) (by decide) ⟨rfl, h4, h5⟩ hP hK hD
set_option maxHeartbeats 1000000 in
set_option maxRecDepth 100000 in
theorem c_finish (l : Launch) (hl9 : l.stackTraces = false) (D : va_G) (a : Nat → Nat) (k : Nat → ClassId) (n : Nat) (K V : Nat → Int64) (kd : Nat → Int32) (SK SV : Nat → Int64) (slot : Int32) (sz : Nat) (hn : n ≤ 100) : vx_Met l yX0_finish wsX0_finish ({ frames := 7, cells := 1, slots := 6, locals := 105 }) (cP D (tX k) (wX a k n K V kd SK SV) [.ref (a 0), .int slot] sz) (cQl D (tX k) (fun v => (fin n K V kd SK SV slot).1 = 0 ∧ v = (fin n K V kd SK SV slot).2.1) (wX a k (fin n K V kd SK SV slot).2.2.1 (fin n K V kd SK SV slot).2.2.2.1 (fin n K V kd SK SV slot).2.2.2.2.1 (fin n K V kd SK SV slot).2.2.2.2.2 SK SV) (va_A (wX a k n K V kd SK SV) sz)) (cX D (tX k) (tcE (fin n K V kd SK SV slot).1) (wX a k (fin n K V kd SK SV slot).2.2.1 (fin n K V kd SK SV slot).2.2.2.1 (fin n K V kd SK SV slot).2.2.2.2.1 (fin n K V kd SK SV slot).2.2.2.2.2 SK SV) (va_A (wX a k n K V kd SK SV) sz)) 1 6 (va_A (wX a k n K V kd SK SV) sz) := by
  refine mk_x (cc := cX0_finish) (maxL := 7) (ret := (some .long)) (fun A => cQl D (tX k) (fun v => (fin n K V kd SK SV slot).1 = 0 ∧ v = (fin n K V kd SK SV slot).2.1) (wX a k (fin n K V kd SK SV slot).2.2.1 (fin n K V kd SK SV slot).2.2.2.1 (fin n K V kd SK SV slot).2.2.2.2.1 (fin n K V kd SK SV slot).2.2.2.2.2 SK SV) A) (fun A => cX D (tX k) (tcE (fin n K V kd SK SV slot).1) (wX a k (fin n K V kd SK SV slot).2.2.1 (fin n K V kd SK SV slot).2.2.2.1 (fin n K V kd SK SV slot).2.2.2.2.1 (fin n K V kd SK SV slot).2.2.2.2.2 SK SV) A) (by decide) rfl (Nat.le_of_ble_eq_true rfl) ?_
  intro p e s m below meth c ls A hx hb hr hml ht9 hlocks hnm hown hts hP hK hD hZ hA hS hl
  have hown : s.vm.findClass RX0 = some m.cls := hown
  have hl : lv_has ls 7 [(0, .ref (a 0)), (1, .int slot)] := hl
  refine lv_iload_n hx hb dX0_finish_0 rfl (lv_at hl 1 rfl) ?_
  by_cases hs : okS slot
  · skip
    refine kn_v (wc := []) (wr := (wX a k n K V kd SK SV)) (w1 := []) (va_runS (As := [.int slot]) (rest := []) ⟨hx, hb, hml, hown, hts⟩ (c_requireSlot l hl9 D slot s.heap.size hs) (va_cwS 1 hts (gd_up (gd_S mb_10 mb_11 mb_12 mb_13)) rfl rfl rfl (by decide +kernel) ⟨by decide, by decide⟩) ⟨cP_blind, cPre hP hD hK hS hA hZ [] rfl (by decide) [] rfl⟩ rfl rfl hl.1 rfl (lv_room (Nat.le_of_ble_eq_true rfl)) dX0_finish_1 ⟨by decide, by decide⟩) hP hD hS hA [] [0, 1, 2, 3, 4, 5] rfl rfl (by decide) (by decide) (fun H locs hp hP hD hS => ?_)
    have hP : va_P D vwCl (wX a k n K V kd SK SV) H := hP
    have hD : va_D A (wX a k n K V kd SK SV) := hD
    obtain ⟨j, hj, rfl⟩ := okS_of hs
    refine lv_aload_n hx hb dX0_finish_4 rfl (lv_at hl 0 rfl) ?_
    refine lv_iload_n hx hb dX0_finish_5 rfl (lv_at hl 1 rfl) ?_
    by_cases h0 : kd j = -1
    · skip
      refine kx_v (wc := (wX a k n K V kd SK SV)) (wr := []) (w1 := (wX a k n K V kd SK SV)) (w2 := (wX a k n K V kd SK SV)) (vx_runV (As := [.int (nI j)]) (rest := []) ⟨hx, hb, hml, hown, hts⟩ (t_requireOperation l hl9 D a k n K V kd SK SV j H.size hj h0) (cwV 1 hts (gd_up (gd_V mb_19 mb_20 mb_21 mb_12 mb_22)) rfl rfl rfl (by decide +kernel) ⟨by decide, by decide⟩) ⟨cP_blind, va_recv (q0 := 0) (ci := 0) (q := (RX0, TX0, 6)) hK hP rfl rfl, cPre hP hD hK hS hA hZ [0, 1, 2, 3, 4, 5] rfl (by decide) [0, 1, 2, 3, 4] rfl⟩ rfl rfl hl.1 rfl (lv_room (Nat.le_of_ble_eq_true rfl)) dX0_finish_6 ⟨by decide, by decide⟩) hP hD hS hA [0, 1, 2, 3, 4, 5] [] rfl rfl (by decide) (by decide) (fun E ce q9 H locs hE hP hD hS hce hcv hcl => ?_) (fun H locs hp hP hD hS => ?_)
      · skip
        have hP : va_P D vwCl (wX a k n K V kd SK SV) H := hP
        have hD : va_D A (wX a k n K V kd SK SV) := hD
        subst hE
        have hf : fin n K V kd SK SV (nI j) = (2, 0, n, K, V, kd) := by unfold fin; rw [ix_n hj, if_pos (okS_n hj), if_pos h0]
        rw [hf]
        exact fx_out ht9 hlocks hce hcv hcl hS (by decide) (by decide) (tcE_2 rfl) hP hK hD
      · skip
        have hP : va_P D vwCl (wX a k n K V kd SK SV) H := hP
        have hD : va_D A (wX a k n K V kd SK SV) := hD
        exact hp.elim
    · skip
      refine kn_v (wc := (wX a k n K V kd SK SV)) (wr := []) (w1 := (wX a k n K V kd SK SV)) (va_runV (As := [.int (nI j)]) (rest := []) ⟨hx, hb, hml, hown, hts⟩ (c_requireOperation l hl9 D a k n K V kd SK SV j H.size hj h0) (cwV 1 hts (gd_up (gd_V mb_19 mb_20 mb_21 mb_12 mb_22)) rfl rfl rfl (by decide +kernel) ⟨by decide, by decide⟩) ⟨cP_blind, va_recv (q0 := 0) (ci := 0) (q := (RX0, TX0, 6)) hK hP rfl rfl, cPre hP hD hK hS hA hZ [0, 1, 2, 3, 4, 5] rfl (by decide) [0, 1, 2, 3, 4] rfl⟩ rfl rfl hl.1 rfl (lv_room (Nat.le_of_ble_eq_true rfl)) dX0_finish_6 ⟨by decide, by decide⟩) hP hD hS hA [0, 1, 2, 3, 4, 5] [] rfl rfl (by decide) (by decide) (fun H locs hp hP hD hS => ?_)
      have hP : va_P D vwCl (wX a k n K V kd SK SV) H := hP
      have hD : va_D A (wX a k n K V kd SK SV) := hD
      refine lv_aload_n hx hb dX0_finish_9 rfl (lv_at hl 0 rfl) ?_
      refine va_get (D := D) (ci := 0) (v := .ref (a 3)) (C := RX0) (T := TX0) (N := 6) hx hb hts (fun w h => wm (ui_X0 w h)) hown hK hP 0 rfl rfl 3 (by decide) (hts (.fieldLink RX0 20 "LinkedIndex" "slotKinds" "[I") (wm mb_5)) (fun _ h9 => h9) rfl dX0_finish_10 ?_
      refine lv_iload_n hx hb dX0_finish_13 rfl (lv_at hl 1 rfl) ?_
      refine x_iald (j := j) hx hb hK hP 3 2 rfl rfl (by omega) (by decide) dX0_finish_14 ?_
      refine lv_istore_n (lv' := [(2, .int (kd j)), (0, .ref (a 0)), (1, .int (nI j))]) hx hb dX0_finish_15 rfl hl (by decide) rfl (fun ls hl => ?_)
      refine lv_aload_n hx hb dX0_finish_16 rfl (lv_at hl 1 rfl) ?_
      refine lv_aload_n hx hb dX0_finish_17 rfl (lv_at hl 1 rfl) ?_
      refine va_get (D := D) (ci := 0) (v := .ref (a 4)) (C := RX0) (T := TX0) (N := 6) hx hb hts (fun w h => wm (ui_X0 w h)) hown hK hP 0 rfl rfl 4 (by decide) (hts (.fieldLink RX0 24 "LinkedIndex" "slotKeys" "[J") (wm mb_14)) (fun _ h9 => h9) rfl dX0_finish_18 ?_
      refine lv_iload_n hx hb dX0_finish_21 rfl (lv_at hl 2 rfl) ?_
      refine x_lald (j := j) hx hb hK hP 4 3 rfl rfl (by omega) (by decide) dX0_finish_22 ?_
      refine kn_i (wc := (wX a k n K V kd SK SV)) (wr := []) (w1 := (wX a k n K V kd SK SV)) (va_runV (As := [.long (SK j)]) (rest := []) ⟨hx, hb, hml, hown, hts⟩ (c_placeOf l hl9 D a k n K V kd SK SV (SK j) H.size hn) (cwV 1 hts (gd_up (gd_V mb_27 mb_28 mb_29 mb_12 mb_30)) rfl rfl rfl (by decide +kernel) ⟨by decide, by decide⟩) ⟨cP_blind, va_recv (q0 := 0) (ci := 0) (q := (RX0, TX0, 6)) hK hP rfl rfl, cPre hP hD hK hS hA hZ [0, 1, 2, 3, 4, 5] rfl (by decide) [0, 1, 2, 3, 4] rfl⟩ rfl rfl hl.1 rfl (lv_room (Nat.le_of_ble_eq_true rfl)) dX0_finish_23 ⟨by decide, by decide⟩) hP hD hS hA [0, 1, 2, 3, 4, 5] [] rfl rfl (by decide) (by decide) (fun r9 H locs hp hP hD hS => ?_)
      have hP : va_P D vwCl (wX a k n K V kd SK SV) H := hP
      have hD : va_D A (wX a k n K V kd SK SV) := hD
      have hle := rk_le K (SK j) n
      obtain ⟨r, hr0⟩ : ∃ r, r = rk K (SK j) n := ⟨_, rfl⟩
      rw [← hr0] at hp hle
      subst hp
      refine lv_istore_n (lv' := [(3, .int (nI r)), (2, .int (kd j)), (0, .ref (a 0)), (1, .int (nI j))]) hx hb dX0_finish_26 rfl hl (by decide) rfl (fun ls hl => ?_)
      refine lv_iload_n hx hb dX0_finish_27 rfl (lv_at hl 1 rfl) ?_
      refine lv_iconst (v := 1) hx hb dX0_finish_28 (by decide) ?_
      refine lv_icmp_ne (tgt := 39) hx hb dX0_finish_29 (by decide) (fun h1 => ?_) (fun h1 => ?_)
      · skip
        refine lv_iload_n hx hb dX0_finish_39 rfl (lv_at hl 1 rfl) ?_
        refine lv_iconst (v := 3) hx hb dX0_finish_40 (by decide) ?_
        refine lv_icmp_ne (tgt := 60) hx hb dX0_finish_41 (by decide) (fun h2 => ?_) (fun h2 => ?_)
        · skip
          refine lv_aload_n hx hb dX0_finish_60 rfl (lv_at hl 2 rfl) ?_
          refine lv_iload_n hx hb dX0_finish_61 rfl (lv_at hl 0 rfl) ?_
          refine lv_aload_n hx hb dX0_finish_62 rfl (lv_at hl 2 rfl) ?_
          refine va_get (D := D) (ci := 0) (v := .ref (a 4)) (C := RX0) (T := TX0) (N := 6) hx hb hts (fun w h => wm (ui_X0 w h)) hown hK hP 0 rfl rfl 4 (by decide) (hts (.fieldLink RX0 24 "LinkedIndex" "slotKeys" "[J") (wm mb_14)) (fun _ h9 => h9) rfl dX0_finish_63 ?_
          refine lv_iload_n hx hb dX0_finish_66 rfl (lv_at hl 3 rfl) ?_
          refine x_lald (j := j) hx hb hK hP 4 3 rfl rfl (by omega) (by decide) dX0_finish_67 ?_
          refine kn_i (wc := (wX a k n K V kd SK SV)) (wr := []) (w1 := (wX a k n K V kd SK SV)) (va_runV (As := [.int (nI r), .long (SK j)]) (rest := []) ⟨hx, hb, hml, hown, hts⟩ (c_isAt l hl9 D a k n K V kd SK SV r (SK j) H.size (by omega) hn) (cwV 2 hts (gd_up (gd_V mb_31 mb_32 mb_33 mb_12 mb_34)) rfl rfl rfl (by decide +kernel) ⟨by decide, by decide⟩) ⟨cP_blind, va_recv (q0 := 0) (ci := 0) (q := (RX0, TX0, 6)) hK hP rfl rfl, cPre hP hD hK hS hA hZ [0, 1, 2, 3, 4, 5] rfl (by decide) [0, 1, 2, 3, 4] rfl⟩ rfl rfl hl.1 rfl (lv_room (Nat.le_of_ble_eq_true rfl)) dX0_finish_68 ⟨by decide, by decide⟩) hP hD hS hA [0, 1, 2, 3, 4, 5] [] rfl rfl (by decide) (by decide) (fun r9 H locs hp hP hD hS => ?_)
          have hP : va_P D vwCl (wX a k n K V kd SK SV) H := hP
          have hD : va_D A (wX a k n K V kd SK SV) := hD
          by_cases h4 : atR K n (SK j) r
          · skip
            rw [if_pos h4] at hp
            subst hp
            refine lv_istore (lv' := [(4, .int 1), (3, .int (nI r)), (2, .int (kd j)), (0, .ref (a 0)), (1, .int (nI j))]) hx hb dX0_finish_71 hl (by decide) rfl (fun ls hl => ?_)
            refine lv_aload_n hx hb dX0_finish_73 rfl (lv_at hl 3 rfl) ?_
            refine va_get (D := D) (ci := 0) (v := .ref (a 3)) (C := RX0) (T := TX0) (N := 6) hx hb hts (fun w h => wm (ui_X0 w h)) hown hK hP 0 rfl rfl 3 (by decide) (hts (.fieldLink RX0 20 "LinkedIndex" "slotKinds" "[I") (wm mb_5)) (fun _ h9 => h9) rfl dX0_finish_74 ?_
            refine lv_iload_n hx hb dX0_finish_77 rfl (lv_at hl 4 rfl) ?_
            refine lv_iconst (v := (-1)) hx hb dX0_finish_78 (by decide) ?_
            refine x_iast (j := j) hx hb hK hP hD hS 3 2 rfl rfl (by omega) (by decide) dX0_finish_79 (fun H locs hP hD hS => ?_)
            have hP : va_P D vwCl (wX a k n K V (upd kd j (-1)) SK SV) H := hP
            have hD : va_D A (wX a k n K V (upd kd j (-1)) SK SV) := hD
            refine lv_iload hx hb dX0_finish_80 (lv_at hl 0 rfl) ?_
            refine lv_if_ne (tgt := 95) hx hb dX0_finish_82 (by decide) (fun h6 => ?_) (fun h6 => ?_)
            · skip
              refine lv_iload_n hx hb dX0_finish_95 rfl (lv_at hl 2 rfl) ?_
              refine lv_iconst (v := 3) hx hb dX0_finish_96 (by decide) ?_
              refine lv_icmp_ne (tgt := 107) hx hb dX0_finish_97 (by decide) (fun h7 => ?_) (fun h7 => ?_)
              · skip
                have hlt := h4.1
                refine lv_aload_n hx hb dX0_finish_107 rfl (lv_at hl 3 rfl) ?_
                refine va_get (D := D) (ci := 0) (v := .ref (a 2)) (C := RX0) (T := TX0) (N := 6) hx hb hts (fun w h => wm (ui_X0 w h)) hown hK hP 0 rfl rfl 1 (by decide) (hts (.fieldLink RX0 13 "LinkedIndex" "values" "[J") (wm mb_9)) (fun _ h9 => h9) rfl dX0_finish_108 ?_
                refine lv_iload_n hx hb dX0_finish_111 rfl (lv_at hl 1 rfl) ?_
                refine x_lald (j := r) hx hb hK hP 2 1 rfl rfl (by omega) (by decide) dX0_finish_112 ?_
                refine lv_lstore (lv' := [(5, .long (V r)), (4, .int 1), (3, .int (nI r)), (2, .int (kd j)), (0, .ref (a 0)), (1, .int (nI j))]) hx hb dX0_finish_113 hl (by decide) rfl (fun ls hl => ?_)
                refine lv_iload_n hx hb dX0_finish_115 rfl (lv_at hl 3 rfl) ?_
                refine lv_iconst (v := 2) hx hb dX0_finish_116 (by decide) ?_
                refine lv_icmp_ne (tgt := 125) hx hb dX0_finish_117 (by decide) (fun h8 => ?_) (fun h8 => ?_)
                · skip
                  have hf : fin n K V kd SK SV (nI j) = (0, V r, n, K, V, upd kd j (-1)) := by
                    unfold fin
                    rw [ix_n hj, ← hr0, if_pos (okS_n hj), if_neg h0, if_neg h1, if_neg h2, if_pos h4, if_neg h8]
                  rw [hf]
                  refine lv_lload hx hb dX0_finish_125 (lv_at hl 0 rfl) ?_
                  exact fx_l hx hb hr hlocks (by decide) (by decide) ⟨rfl, rfl⟩ hP hK hD hS dX0_finish_127
                · skip
                  refine lv_aload_n hx hb dX0_finish_120 rfl (lv_at hl 4 rfl) ?_
                  refine lv_iload_n hx hb dX0_finish_121 rfl (lv_at hl 2 rfl) ?_
                  refine kn_v (wc := (wX a k n K V (upd kd j (-1)) SK SV)) (wr := []) (w1 := (wX a k (n - 1) (clF (n - 1 - r) r K) (clF (n - 1 - r) r V) (upd kd j (-1)) SK SV)) (va_runV (As := [.int (nI r)]) (rest := []) ⟨hx, hb, hml, hown, hts⟩ (c_closeGap l hl9 D a k n K V (upd kd j (-1)) SK SV r H.size hlt hn) (cwV 1 hts (gd_up (gd_V mb_39 mb_40 mb_41 mb_12 mb_42)) rfl rfl rfl (by decide +kernel) ⟨by decide, by decide⟩) ⟨cP_blind, va_recv (q0 := 0) (ci := 0) (q := (RX0, TX0, 6)) hK hP rfl rfl, cPre hP hD hK hS hA hZ [0, 1, 2, 3, 4, 5] rfl (by decide) [0, 1, 2, 3, 4] rfl⟩ rfl rfl hl.1 rfl (lv_room (Nat.le_of_ble_eq_true rfl)) dX0_finish_122 ⟨by decide, by decide⟩) hP hD hS hA [0, 1, 2, 3, 4, 5] [] rfl rfl (by decide) (by decide) (fun H locs hp hP hD hS => ?_)
                  have hP : va_P D vwCl (wX a k (n - 1) (clF (n - 1 - r) r K) (clF (n - 1 - r) r V) (upd kd j (-1)) SK SV) H := hP
                  have hD : va_D A (wX a k (n - 1) (clF (n - 1 - r) r K) (clF (n - 1 - r) r V) (upd kd j (-1)) SK SV) := hD
                  have hf : fin n K V kd SK SV (nI j) = (0, V r, n - 1, clF (n - 1 - r) r K, clF (n - 1 - r) r V, upd kd j (-1)) := by
                    unfold fin
                    rw [ix_n hj, ← hr0, if_pos (okS_n hj), if_neg h0, if_neg h1, if_neg h2, if_pos h4, if_pos h8]
                  rw [hf]
                  refine lv_lload hx hb dX0_finish_125 (lv_at hl 0 rfl) ?_
                  exact fx_l hx hb hr hlocks (by decide) (by decide) ⟨rfl, rfl⟩ hP hK hD hS dX0_finish_127
              · skip
                exact absurd h7 h2
            · skip
              exact absurd h6 (by decide)
          · skip
            rw [if_neg h4] at hp
            subst hp
            refine lv_istore (lv' := [(4, .int 0), (3, .int (nI r)), (2, .int (kd j)), (0, .ref (a 0)), (1, .int (nI j))]) hx hb dX0_finish_71 hl (by decide) rfl (fun ls hl => ?_)
            refine lv_aload_n hx hb dX0_finish_73 rfl (lv_at hl 3 rfl) ?_
            refine va_get (D := D) (ci := 0) (v := .ref (a 3)) (C := RX0) (T := TX0) (N := 6) hx hb hts (fun w h => wm (ui_X0 w h)) hown hK hP 0 rfl rfl 3 (by decide) (hts (.fieldLink RX0 20 "LinkedIndex" "slotKinds" "[I") (wm mb_5)) (fun _ h9 => h9) rfl dX0_finish_74 ?_
            refine lv_iload_n hx hb dX0_finish_77 rfl (lv_at hl 4 rfl) ?_
            refine lv_iconst (v := (-1)) hx hb dX0_finish_78 (by decide) ?_
            refine x_iast (j := j) hx hb hK hP hD hS 3 2 rfl rfl (by omega) (by decide) dX0_finish_79 (fun H locs hP hD hS => ?_)
            have hP : va_P D vwCl (wX a k n K V (upd kd j (-1)) SK SV) H := hP
            have hD : va_D A (wX a k n K V (upd kd j (-1)) SK SV) := hD
            refine lv_iload hx hb dX0_finish_80 (lv_at hl 0 rfl) ?_
            refine lv_if_ne (tgt := 95) hx hb dX0_finish_82 (by decide) (fun h6 => ?_) (fun h6 => ?_)
            · skip
              exact absurd rfl h6
            · skip
              have hf : fin n K V kd SK SV (nI j) = (3, 0, n, K, V, upd kd j (-1)) := by
                unfold fin
                rw [ix_n hj, ← hr0, if_pos (okS_n hj), if_neg h0, if_neg h1, if_neg h2, if_neg h4]
              rw [hf]
              exact fx_nse hx hb hl9 hown hts hZ hS (hl.1.trans hml.symm) dX0_finish_85 dX0_finish_88 dX0_finish_89 dX0_finish_91 dX0_finish_94 ht9 (by decide) (by decide) (by decide) (by decide) hlocks (by decide) (by decide) (tcE_3 rfl) hP hK hD
        · skip
          refine lv_iload_n hx hb dX0_finish_44 rfl (lv_at hl 0 rfl) ?_
          refine lv_aload_n hx hb dX0_finish_45 rfl (lv_at hl 2 rfl) ?_
          refine va_get (D := D) (ci := 0) (v := .int (nI n)) (C := RX0) (T := TX0) (N := 6) hx hb hts (fun w h => wm (ui_X0 w h)) hown hK hP 0 rfl rfl 2 (by decide) (hts (.fieldLink RX0 16 "LinkedIndex" "keyCount" "I") (wm mb_2)) (fun _ h9 => h9) rfl dX0_finish_46 ?_
          refine lv_icmp_ge (tgt := 56) hx hb dX0_finish_49 (by decide) (fun h4 => ?_) (fun h4 => ?_)
          · skip
            have h4 : ¬ r < n := fun q => absurd ((nI_leI (by omega) (by omega)).mp h4) (by omega)
            refine lv_iconst (v := 0) hx hb dX0_finish_56 (by decide) ?_
            refine lv_goto (tgt := 71) hx hb dX0_finish_57 (by decide) ?_
            refine lv_istore (lv' := [(4, .int 0), (3, .int (nI r)), (2, .int (kd j)), (0, .ref (a 0)), (1, .int (nI j))]) hx hb dX0_finish_71 hl (by decide) rfl (fun ls hl => ?_)
            refine lv_aload_n hx hb dX0_finish_73 rfl (lv_at hl 3 rfl) ?_
            refine va_get (D := D) (ci := 0) (v := .ref (a 3)) (C := RX0) (T := TX0) (N := 6) hx hb hts (fun w h => wm (ui_X0 w h)) hown hK hP 0 rfl rfl 3 (by decide) (hts (.fieldLink RX0 20 "LinkedIndex" "slotKinds" "[I") (wm mb_5)) (fun _ h9 => h9) rfl dX0_finish_74 ?_
            refine lv_iload_n hx hb dX0_finish_77 rfl (lv_at hl 4 rfl) ?_
            refine lv_iconst (v := (-1)) hx hb dX0_finish_78 (by decide) ?_
            refine x_iast (j := j) hx hb hK hP hD hS 3 2 rfl rfl (by omega) (by decide) dX0_finish_79 (fun H locs hP hD hS => ?_)
            have hP : va_P D vwCl (wX a k n K V (upd kd j (-1)) SK SV) H := hP
            have hD : va_D A (wX a k n K V (upd kd j (-1)) SK SV) := hD
            refine lv_iload hx hb dX0_finish_80 (lv_at hl 0 rfl) ?_
            refine lv_if_ne (tgt := 95) hx hb dX0_finish_82 (by decide) (fun h6 => ?_) (fun h6 => ?_)
            · skip
              exact absurd rfl h6
            · skip
              have hf : fin n K V kd SK SV (nI j) = (3, 0, n, K, V, upd kd j (-1)) := by
                unfold fin
                rw [ix_n hj, ← hr0, if_pos (okS_n hj), if_neg h0, if_neg h1, if_pos h2, if_neg h4]
              rw [hf]
              exact fx_nse hx hb hl9 hown hts hZ hS (hl.1.trans hml.symm) dX0_finish_85 dX0_finish_88 dX0_finish_89 dX0_finish_91 dX0_finish_94 ht9 (by decide) (by decide) (by decide) (by decide) hlocks (by decide) (by decide) (tcE_3 rfl) hP hK hD
          · skip
            have h4 : r < n := Nat.lt_of_not_le (fun q => h4 ((nI_leI (by omega) (by omega)).mpr q))
            refine lv_iconst (v := 1) hx hb dX0_finish_52 (by decide) ?_
            refine lv_goto (tgt := 71) hx hb dX0_finish_53 (by decide) ?_
            refine lv_istore (lv' := [(4, .int 1), (3, .int (nI r)), (2, .int (kd j)), (0, .ref (a 0)), (1, .int (nI j))]) hx hb dX0_finish_71 hl (by decide) rfl (fun ls hl => ?_)
            refine lv_aload_n hx hb dX0_finish_73 rfl (lv_at hl 3 rfl) ?_
            refine va_get (D := D) (ci := 0) (v := .ref (a 3)) (C := RX0) (T := TX0) (N := 6) hx hb hts (fun w h => wm (ui_X0 w h)) hown hK hP 0 rfl rfl 3 (by decide) (hts (.fieldLink RX0 20 "LinkedIndex" "slotKinds" "[I") (wm mb_5)) (fun _ h9 => h9) rfl dX0_finish_74 ?_
            refine lv_iload_n hx hb dX0_finish_77 rfl (lv_at hl 4 rfl) ?_
            refine lv_iconst (v := (-1)) hx hb dX0_finish_78 (by decide) ?_
            refine x_iast (j := j) hx hb hK hP hD hS 3 2 rfl rfl (by omega) (by decide) dX0_finish_79 (fun H locs hP hD hS => ?_)
            have hP : va_P D vwCl (wX a k n K V (upd kd j (-1)) SK SV) H := hP
            have hD : va_D A (wX a k n K V (upd kd j (-1)) SK SV) := hD
            refine lv_iload hx hb dX0_finish_80 (lv_at hl 0 rfl) ?_
            refine lv_if_ne (tgt := 95) hx hb dX0_finish_82 (by decide) (fun h6 => ?_) (fun h6 => ?_)
            · skip
              refine lv_iload_n hx hb dX0_finish_95 rfl (lv_at hl 2 rfl) ?_
              refine lv_iconst (v := 3) hx hb dX0_finish_96 (by decide) ?_
              refine lv_icmp_ne (tgt := 107) hx hb dX0_finish_97 (by decide) (fun h7 => ?_) (fun h7 => ?_)
              · skip
                exact absurd h2 h7
              · skip
                have hf : fin n K V kd SK SV (nI j) = (0, K r, n, K, V, upd kd j (-1)) := by
                  unfold fin
                  rw [ix_n hj, ← hr0, if_pos (okS_n hj), if_neg h0, if_neg h1, if_pos h2, if_pos h4]
                rw [hf]
                refine lv_aload_n hx hb dX0_finish_100 rfl (lv_at hl 3 rfl) ?_
                refine va_get (D := D) (ci := 0) (v := .ref (a 1)) (C := RX0) (T := TX0) (N := 6) hx hb hts (fun w h => wm (ui_X0 w h)) hown hK hP 0 rfl rfl 0 (by decide) (hts (.fieldLink RX0 9 "LinkedIndex" "keys" "[J") (wm mb_8)) (fun _ h9 => h9) rfl dX0_finish_101 ?_
                refine lv_iload_n hx hb dX0_finish_104 rfl (lv_at hl 1 rfl) ?_
                refine x_lald (j := r) hx hb hK hP 1 0 rfl rfl (by omega) (by decide) dX0_finish_105 ?_
                exact fx_l hx hb hr hlocks (by decide) (by decide) ⟨rfl, rfl⟩ hP hK hD hS dX0_finish_106
            · skip
              exact absurd h6 (by decide)
      · skip
        refine lv_aload_n hx hb dX0_finish_32 rfl (lv_at hl 2 rfl) ?_
        refine lv_iload_n hx hb dX0_finish_33 rfl (lv_at hl 3 rfl) ?_
        refine lv_iload_n hx hb dX0_finish_34 rfl (lv_at hl 0 rfl) ?_
        refine kx_l (wc := (wX a k n K V kd SK SV)) (wr := []) (w1 := (wX a k (fpN n K (SK j) r) (fpK n K (SK j) r) (fpV n K V (SK j) (SV j) r) (upd kd j (-1)) SK SV)) (w2 := (wX a k n K V kd SK SV)) (vx_runV (As := [.int (nI j), .int (nI r)]) (rest := []) ⟨hx, hb, hml, hown, hts⟩ (c_finishPut l hl9 D a k n K V kd SK SV j r H.size hj hle hn) (cwV 2 hts (gd_up (gd_V mb_43 mb_44 mb_45 mb_12 mb_46)) rfl rfl rfl (by decide +kernel) ⟨by decide, by decide⟩) ⟨cP_blind, va_recv (q0 := 0) (ci := 0) (q := (RX0, TX0, 6)) hK hP rfl rfl, cPre hP hD hK hS hA hZ [0, 1, 2, 3, 4, 5] rfl (by decide) [0, 1, 2, 3, 4] rfl⟩ rfl rfl hl.1 rfl (lv_room (Nat.le_of_ble_eq_true rfl)) dX0_finish_35 ⟨by decide, by decide⟩) hP hD hS hA [0, 1, 2, 3, 4, 5] [] rfl rfl (by decide) (by decide) (fun E ce q9 H locs hE hP hD hS hce hcv hcl => ?_) (fun r9 H locs hp hP hD hS => ?_)
        · skip
          have hP : va_P D vwCl (wX a k n K V kd SK SV) H := hP
          have hD : va_D A (wX a k n K V kd SK SV) := hD
          have hf : fin n K V kd SK SV (nI j) = (2, 0, n, K, V, kd) := by
            unfold fin
            rw [ix_n hj, ← hr0, if_pos (okS_n hj), if_neg h0, if_pos h1, if_neg hE.2.1, if_pos hE.2.2]
          rw [hf]
          exact fx_out ht9 hlocks hce hcv hcl hS (by decide) (by decide) (hE.1 ▸ tcE_2 rfl) hP hK hD
        · skip
          have hP : va_P D vwCl (wX a k (fpN n K (SK j) r) (fpK n K (SK j) r) (fpV n K V (SK j) (SV j) r) (upd kd j (-1)) SK SV) H := hP
          have hD : va_D A (wX a k (fpN n K (SK j) r) (fpK n K (SK j) r) (fpV n K V (SK j) (SV j) r) (upd kd j (-1)) SK SV) := hD
          by_cases h4 : atR K n (SK j) r
          · skip
            have hf : fin n K V kd SK SV (nI j) = (0, 1, n, K, vp_updL V r (SV j), upd kd j (-1)) := by
              unfold fin
              rw [ix_n hj, ← hr0, if_pos (okS_n hj), if_neg h0, if_pos h1, if_pos h4]
            rw [hf]
            rw [show fpN n K (SK j) r = n from if_pos h4, show fpK n K (SK j) r = K from if_pos h4, show fpV n K V (SK j) (SV j) r = vp_updL V r (SV j) by unfold fpV; rw [if_pos h4]] at hP hD
            have hp := hp.2
            rw [if_pos h4] at hp
            exact fx_l hx hb hr hlocks (by decide) (by decide) ⟨rfl, hp⟩ hP hK hD hS dX0_finish_38
          · skip
            have h5 : ¬ 100 ≤ n := by rcases hp.1 with q | q; exact absurd q h4; omega
            have hf : fin n K V kd SK SV (nI j) = (0, 0, n + 1, vp_updL (opF r (n - r) K) r (SK j), vp_updL (opF r (n - r) V) r (SV j), upd kd j (-1)) := by
              unfold fin
              rw [ix_n hj, ← hr0, if_pos (okS_n hj), if_neg h0, if_pos h1, if_neg h4, if_neg h5]
            rw [hf]
            rw [show fpN n K (SK j) r = n + 1 from if_neg h4, show fpK n K (SK j) r = vp_updL (opF r (n - r) K) r (SK j) from if_neg h4, show fpV n K V (SK j) (SV j) r = vp_updL (opF r (n - r) V) r (SV j) by unfold fpV; rw [if_neg h4]] at hP hD
            have hp := hp.2
            rw [if_neg h4] at hp
            exact fx_l hx hb hr hlocks (by decide) (by decide) ⟨rfl, hp⟩ hP hK hD hS dX0_finish_38
  · skip
    refine kx_v (wc := []) (wr := (wX a k n K V kd SK SV)) (w1 := []) (w2 := []) (vx_runS (As := [.int slot]) (rest := []) ⟨hx, hb, hml, hown, hts⟩ (t_requireSlot l hl9 D slot s.heap.size hs) (va_cwS 1 hts (gd_up (gd_S mb_10 mb_11 mb_12 mb_13)) rfl rfl rfl (by decide +kernel) ⟨by decide, by decide⟩) ⟨cP_blind, cPre hP hD hK hS hA hZ [] rfl (by decide) [] rfl⟩ rfl rfl hl.1 rfl (lv_room (Nat.le_of_ble_eq_true rfl)) dX0_finish_1 ⟨by decide, by decide⟩) hP hD hS hA [] [0, 1, 2, 3, 4, 5] rfl rfl (by decide) (by decide) (fun E ce q9 H locs hE hP hD hS hce hcv hcl => ?_) (fun H locs hp hP hD hS => ?_)
    · skip
      have hP : va_P D vwCl (wX a k n K V kd SK SV) H := hP
      have hD : va_D A (wX a k n K V kd SK SV) := hD
      subst hE
      have hf : fin n K V kd SK SV slot = (1, 0, n, K, V, kd) := by unfold fin; rw [if_neg hs]
      rw [hf]
      exact fx_out ht9 hlocks hce hcv hcl hS (by decide) (by decide) (tcE_1 rfl) hP hK hD
    · skip
      have hP : va_P D vwCl (wX a k n K V kd SK SV) H := hP
      have hD : va_D A (wX a k n K V kd SK SV) := hD
      exact hp.elim
end
section
theorem dX1_init_0 : decode cX1_init 0 = .ok (.aload_n 0, 1) := by decide +kernel
theorem dX1_init_1 : decode cX1_init 1 = .ok (.invokespecial 1, 3) := by decide +kernel
theorem dX1_init_4 : decode cX1_init 4 = .ok (.aload_n 0, 1) := by decide +kernel
theorem dX1_init_5 : decode cX1_init 5 = .ok (.bipush 100, 2) := by decide +kernel
theorem dX1_init_7 : decode cX1_init 7 = .ok (.newarray .long, 2) := by decide +kernel
theorem dX1_init_9 : decode cX1_init 9 = .ok (.putfield 7, 3) := by decide +kernel
theorem dX1_init_12 : decode cX1_init 12 = .ok (.aload_n 0, 1) := by decide +kernel
theorem dX1_init_13 : decode cX1_init 13 = .ok (.bipush 100, 2) := by decide +kernel
theorem dX1_init_15 : decode cX1_init 15 = .ok (.newarray .long, 2) := by decide +kernel
theorem dX1_init_17 : decode cX1_init 17 = .ok (.putfield 13, 3) := by decide +kernel
theorem dX1_init_20 : decode cX1_init 20 = .ok (.aload_n 0, 1) := by decide +kernel
theorem dX1_init_21 : decode cX1_init 21 = .ok (.bipush 8, 2) := by decide +kernel
theorem dX1_init_23 : decode cX1_init 23 = .ok (.newarray .int, 2) := by decide +kernel
theorem dX1_init_25 : decode cX1_init 25 = .ok (.putfield 16, 3) := by decide +kernel
theorem dX1_init_28 : decode cX1_init 28 = .ok (.aload_n 0, 1) := by decide +kernel
theorem dX1_init_29 : decode cX1_init 29 = .ok (.bipush 8, 2) := by decide +kernel
theorem dX1_init_31 : decode cX1_init 31 = .ok (.newarray .long, 2) := by decide +kernel
theorem dX1_init_33 : decode cX1_init 33 = .ok (.putfield 20, 3) := by decide +kernel
theorem dX1_init_36 : decode cX1_init 36 = .ok (.aload_n 0, 1) := by decide +kernel
theorem dX1_init_37 : decode cX1_init 37 = .ok (.bipush 8, 2) := by decide +kernel
theorem dX1_init_39 : decode cX1_init 39 = .ok (.newarray .long, 2) := by decide +kernel
theorem dX1_init_41 : decode cX1_init 41 = .ok (.putfield 23, 3) := by decide +kernel
theorem dX1_init_44 : decode cX1_init 44 = .ok (.return_, 1) := by decide +kernel
theorem dX1_thrown_0 : decode cX1_thrown 0 = .ok (.aload_n 0, 1) := by decide +kernel
theorem dX1_thrown_1 : decode cX1_thrown 1 = .ok (.getfield 26, 3) := by decide +kernel
theorem dX1_thrown_4 : decode cX1_thrown 4 = .ok (.ireturn, 1) := by decide +kernel
theorem dX1_begin_0 : decode cX1_begin 0 = .ok (.aload_n 0, 1) := by decide +kernel
theorem dX1_begin_1 : decode cX1_begin 1 = .ok (.iload_n 1, 1) := by decide +kernel
theorem dX1_begin_2 : decode cX1_begin 2 = .ok (.invokestatic 30, 3) := by decide +kernel
theorem dX1_begin_5 : decode cX1_begin 5 = .ok (.ifCond .eq 12, 3) := by decide +kernel
theorem dX1_begin_8 : decode cX1_begin 8 = .ok (.iload_n 2, 1) := by decide +kernel
theorem dX1_begin_9 : decode cX1_begin 9 = .ok (.ifCond .lt 8, 3) := by decide +kernel
theorem dX1_begin_12 : decode cX1_begin 12 = .ok (.iload_n 2, 1) := by decide +kernel
theorem dX1_begin_13 : decode cX1_begin 13 = .ok (.iconst 3, 1) := by decide +kernel
theorem dX1_begin_14 : decode cX1_begin 14 = .ok (.if_icmp .le 7, 3) := by decide +kernel
theorem dX1_begin_17 : decode cX1_begin 17 = .ok (.iconst 1, 1) := by decide +kernel
theorem dX1_begin_18 : decode cX1_begin 18 = .ok (.goto 17, 3) := by decide +kernel
theorem dX1_begin_21 : decode cX1_begin 21 = .ok (.aload_n 0, 1) := by decide +kernel
theorem dX1_begin_22 : decode cX1_begin 22 = .ok (.getfield 16, 3) := by decide +kernel
theorem dX1_begin_25 : decode cX1_begin 25 = .ok (.iload_n 1, 1) := by decide +kernel
theorem dX1_begin_26 : decode cX1_begin 26 = .ok (.iaload, 1) := by decide +kernel
theorem dX1_begin_27 : decode cX1_begin 27 = .ok (.ifCond .le 7, 3) := by decide +kernel
theorem dX1_begin_30 : decode cX1_begin 30 = .ok (.iconst 2, 1) := by decide +kernel
theorem dX1_begin_31 : decode cX1_begin 31 = .ok (.goto 4, 3) := by decide +kernel
theorem dX1_begin_34 : decode cX1_begin 34 = .ok (.iconst 0, 1) := by decide +kernel
theorem dX1_begin_35 : decode cX1_begin 35 = .ok (.putfield 26, 3) := by decide +kernel
theorem dX1_begin_38 : decode cX1_begin 38 = .ok (.aload_n 0, 1) := by decide +kernel
theorem dX1_begin_39 : decode cX1_begin 39 = .ok (.getfield 26, 3) := by decide +kernel
theorem dX1_begin_42 : decode cX1_begin 42 = .ok (.ifCond .ne 27, 3) := by decide +kernel
theorem dX1_begin_45 : decode cX1_begin 45 = .ok (.aload_n 0, 1) := by decide +kernel
theorem dX1_begin_46 : decode cX1_begin 46 = .ok (.getfield 16, 3) := by decide +kernel
theorem dX1_begin_49 : decode cX1_begin 49 = .ok (.iload_n 1, 1) := by decide +kernel
theorem dX1_begin_50 : decode cX1_begin 50 = .ok (.iload_n 2, 1) := by decide +kernel
theorem dX1_begin_51 : decode cX1_begin 51 = .ok (.iconst 1, 1) := by decide +kernel
theorem dX1_begin_52 : decode cX1_begin 52 = .ok (.iadd, 1) := by decide +kernel
theorem dX1_begin_53 : decode cX1_begin 53 = .ok (.iastore, 1) := by decide +kernel
theorem dX1_begin_54 : decode cX1_begin 54 = .ok (.aload_n 0, 1) := by decide +kernel
theorem dX1_begin_55 : decode cX1_begin 55 = .ok (.getfield 20, 3) := by decide +kernel
theorem dX1_begin_58 : decode cX1_begin 58 = .ok (.iload_n 1, 1) := by decide +kernel
theorem dX1_begin_59 : decode cX1_begin 59 = .ok (.lload_n 3, 1) := by decide +kernel
theorem dX1_begin_60 : decode cX1_begin 60 = .ok (.lastore, 1) := by decide +kernel
theorem dX1_begin_61 : decode cX1_begin 61 = .ok (.aload_n 0, 1) := by decide +kernel
theorem dX1_begin_62 : decode cX1_begin 62 = .ok (.getfield 23, 3) := by decide +kernel
theorem dX1_begin_65 : decode cX1_begin 65 = .ok (.iload_n 1, 1) := by decide +kernel
theorem dX1_begin_66 : decode cX1_begin 66 = .ok (.lload 5, 2) := by decide +kernel
theorem dX1_begin_68 : decode cX1_begin 68 = .ok (.lastore, 1) := by decide +kernel
theorem dX1_begin_69 : decode cX1_begin 69 = .ok (.return_, 1) := by decide +kernel
theorem dX1_isSlot_0 : decode cX1_isSlot 0 = .ok (.iload_n 0, 1) := by decide +kernel
theorem dX1_isSlot_1 : decode cX1_isSlot 1 = .ok (.ifCond .lt 13, 3) := by decide +kernel
theorem dX1_isSlot_4 : decode cX1_isSlot 4 = .ok (.iload_n 0, 1) := by decide +kernel
theorem dX1_isSlot_5 : decode cX1_isSlot 5 = .ok (.bipush 7, 2) := by decide +kernel
theorem dX1_isSlot_7 : decode cX1_isSlot 7 = .ok (.if_icmp .gt 7, 3) := by decide +kernel
theorem dX1_isSlot_10 : decode cX1_isSlot 10 = .ok (.iconst 1, 1) := by decide +kernel
theorem dX1_isSlot_11 : decode cX1_isSlot 11 = .ok (.goto 4, 3) := by decide +kernel
theorem dX1_isSlot_14 : decode cX1_isSlot 14 = .ok (.iconst 0, 1) := by decide +kernel
theorem dX1_isSlot_15 : decode cX1_isSlot 15 = .ok (.ireturn, 1) := by decide +kernel
theorem dX1_step_0 : decode cX1_step 0 = .ok (.aload_n 0, 1) := by decide +kernel
theorem dX1_step_1 : decode cX1_step 1 = .ok (.iload_n 1, 1) := by decide +kernel
theorem dX1_step_2 : decode cX1_step 2 = .ok (.invokestatic 30, 3) := by decide +kernel
theorem dX1_step_5 : decode cX1_step 5 = .ok (.ifCond .eq 13, 3) := by decide +kernel
theorem dX1_step_8 : decode cX1_step 8 = .ok (.iload_n 2, 1) := by decide +kernel
theorem dX1_step_9 : decode cX1_step 9 = .ok (.ifCond .lt 9, 3) := by decide +kernel
theorem dX1_step_12 : decode cX1_step 12 = .ok (.iload_n 2, 1) := by decide +kernel
theorem dX1_step_13 : decode cX1_step 13 = .ok (.bipush 20, 2) := by decide +kernel
theorem dX1_step_15 : decode cX1_step 15 = .ok (.if_icmp .le 7, 3) := by decide +kernel
theorem dX1_step_18 : decode cX1_step 18 = .ok (.iconst 1, 1) := by decide +kernel
theorem dX1_step_19 : decode cX1_step 19 = .ok (.goto 17, 3) := by decide +kernel
theorem dX1_step_22 : decode cX1_step 22 = .ok (.aload_n 0, 1) := by decide +kernel
theorem dX1_step_23 : decode cX1_step 23 = .ok (.getfield 16, 3) := by decide +kernel
theorem dX1_step_26 : decode cX1_step 26 = .ok (.iload_n 1, 1) := by decide +kernel
theorem dX1_step_27 : decode cX1_step 27 = .ok (.iaload, 1) := by decide +kernel
theorem dX1_step_28 : decode cX1_step 28 = .ok (.ifCond .ne 7, 3) := by decide +kernel
theorem dX1_step_31 : decode cX1_step 31 = .ok (.iconst 2, 1) := by decide +kernel
theorem dX1_step_32 : decode cX1_step 32 = .ok (.goto 4, 3) := by decide +kernel
theorem dX1_step_35 : decode cX1_step 35 = .ok (.iconst 0, 1) := by decide +kernel
theorem dX1_step_36 : decode cX1_step 36 = .ok (.putfield 26, 3) := by decide +kernel
theorem dX1_step_39 : decode cX1_step 39 = .ok (.return_, 1) := by decide +kernel
theorem dX1_finish_0 : decode cX1_finish 0 = .ok (.aload_n 0, 1) := by decide +kernel
theorem dX1_finish_1 : decode cX1_finish 1 = .ok (.iload_n 1, 1) := by decide +kernel
theorem dX1_finish_2 : decode cX1_finish 2 = .ok (.invokestatic 30, 3) := by decide +kernel
theorem dX1_finish_5 : decode cX1_finish 5 = .ok (.ifCond .ne 7, 3) := by decide +kernel
theorem dX1_finish_8 : decode cX1_finish 8 = .ok (.iconst 1, 1) := by decide +kernel
theorem dX1_finish_9 : decode cX1_finish 9 = .ok (.goto 17, 3) := by decide +kernel
theorem dX1_finish_12 : decode cX1_finish 12 = .ok (.aload_n 0, 1) := by decide +kernel
theorem dX1_finish_13 : decode cX1_finish 13 = .ok (.getfield 16, 3) := by decide +kernel
theorem dX1_finish_16 : decode cX1_finish 16 = .ok (.iload_n 1, 1) := by decide +kernel
theorem dX1_finish_17 : decode cX1_finish 17 = .ok (.iaload, 1) := by decide +kernel
theorem dX1_finish_18 : decode cX1_finish 18 = .ok (.ifCond .ne 7, 3) := by decide +kernel
theorem dX1_finish_21 : decode cX1_finish 21 = .ok (.iconst 2, 1) := by decide +kernel
theorem dX1_finish_22 : decode cX1_finish 22 = .ok (.goto 4, 3) := by decide +kernel
theorem dX1_finish_25 : decode cX1_finish 25 = .ok (.iconst 0, 1) := by decide +kernel
theorem dX1_finish_26 : decode cX1_finish 26 = .ok (.putfield 26, 3) := by decide +kernel
theorem dX1_finish_29 : decode cX1_finish 29 = .ok (.aload_n 0, 1) := by decide +kernel
theorem dX1_finish_30 : decode cX1_finish 30 = .ok (.getfield 26, 3) := by decide +kernel
theorem dX1_finish_33 : decode cX1_finish 33 = .ok (.ifCond .le 5, 3) := by decide +kernel
theorem dX1_finish_36 : decode cX1_finish 36 = .ok (.lconst 0, 1) := by decide +kernel
theorem dX1_finish_37 : decode cX1_finish 37 = .ok (.lreturn, 1) := by decide +kernel
theorem dX1_finish_38 : decode cX1_finish 38 = .ok (.aload_n 0, 1) := by decide +kernel
theorem dX1_finish_39 : decode cX1_finish 39 = .ok (.getfield 16, 3) := by decide +kernel
theorem dX1_finish_42 : decode cX1_finish 42 = .ok (.iload_n 1, 1) := by decide +kernel
theorem dX1_finish_43 : decode cX1_finish 43 = .ok (.iaload, 1) := by decide +kernel
theorem dX1_finish_44 : decode cX1_finish 44 = .ok (.iconst 1, 1) := by decide +kernel
theorem dX1_finish_45 : decode cX1_finish 45 = .ok (.isub, 1) := by decide +kernel
theorem dX1_finish_46 : decode cX1_finish 46 = .ok (.istore_n 2, 1) := by decide +kernel
theorem dX1_finish_47 : decode cX1_finish 47 = .ok (.aload_n 0, 1) := by decide +kernel
theorem dX1_finish_48 : decode cX1_finish 48 = .ok (.getfield 20, 3) := by decide +kernel
theorem dX1_finish_51 : decode cX1_finish 51 = .ok (.iload_n 1, 1) := by decide +kernel
theorem dX1_finish_52 : decode cX1_finish 52 = .ok (.laload, 1) := by decide +kernel
theorem dX1_finish_53 : decode cX1_finish 53 = .ok (.lstore_n 3, 1) := by decide +kernel
theorem dX1_finish_54 : decode cX1_finish 54 = .ok (.aload_n 0, 1) := by decide +kernel
theorem dX1_finish_55 : decode cX1_finish 55 = .ok (.lload_n 3, 1) := by decide +kernel
theorem dX1_finish_56 : decode cX1_finish 56 = .ok (.invokevirtual 37, 3) := by decide +kernel
theorem dX1_finish_59 : decode cX1_finish 59 = .ok (.istore 5, 2) := by decide +kernel
theorem dX1_finish_61 : decode cX1_finish 61 = .ok (.iload 5, 2) := by decide +kernel
theorem dX1_finish_63 : decode cX1_finish 63 = .ok (.aload_n 0, 1) := by decide +kernel
theorem dX1_finish_64 : decode cX1_finish 64 = .ok (.getfield 34, 3) := by decide +kernel
theorem dX1_finish_67 : decode cX1_finish 67 = .ok (.if_icmp .ge 19, 3) := by decide +kernel
theorem dX1_finish_70 : decode cX1_finish 70 = .ok (.aload_n 0, 1) := by decide +kernel
theorem dX1_finish_71 : decode cX1_finish 71 = .ok (.getfield 7, 3) := by decide +kernel
theorem dX1_finish_74 : decode cX1_finish 74 = .ok (.iload 5, 2) := by decide +kernel
theorem dX1_finish_76 : decode cX1_finish 76 = .ok (.laload, 1) := by decide +kernel
theorem dX1_finish_77 : decode cX1_finish 77 = .ok (.lload_n 3, 1) := by decide +kernel
theorem dX1_finish_78 : decode cX1_finish 78 = .ok (.lcmp, 1) := by decide +kernel
theorem dX1_finish_79 : decode cX1_finish 79 = .ok (.ifCond .ne 7, 3) := by decide +kernel
theorem dX1_finish_82 : decode cX1_finish 82 = .ok (.iconst 1, 1) := by decide +kernel
theorem dX1_finish_83 : decode cX1_finish 83 = .ok (.goto 4, 3) := by decide +kernel
theorem dX1_finish_86 : decode cX1_finish 86 = .ok (.iconst 0, 1) := by decide +kernel
theorem dX1_finish_87 : decode cX1_finish 87 = .ok (.istore 6, 2) := by decide +kernel
theorem dX1_finish_89 : decode cX1_finish 89 = .ok (.iload_n 2, 1) := by decide +kernel
theorem dX1_finish_90 : decode cX1_finish 90 = .ok (.iconst 1, 1) := by decide +kernel
theorem dX1_finish_91 : decode cX1_finish 91 = .ok (.if_icmp .ne 24, 3) := by decide +kernel
theorem dX1_finish_94 : decode cX1_finish 94 = .ok (.iload 6, 2) := by decide +kernel
theorem dX1_finish_96 : decode cX1_finish 96 = .ok (.ifCond .ne 19, 3) := by decide +kernel
theorem dX1_finish_99 : decode cX1_finish 99 = .ok (.aload_n 0, 1) := by decide +kernel
theorem dX1_finish_100 : decode cX1_finish 100 = .ok (.getfield 34, 3) := by decide +kernel
theorem dX1_finish_103 : decode cX1_finish 103 = .ok (.bipush 100, 2) := by decide +kernel
theorem dX1_finish_105 : decode cX1_finish 105 = .ok (.if_icmp .ne 10, 3) := by decide +kernel
theorem dX1_finish_108 : decode cX1_finish 108 = .ok (.aload_n 0, 1) := by decide +kernel
theorem dX1_finish_109 : decode cX1_finish 109 = .ok (.iconst 2, 1) := by decide +kernel
theorem dX1_finish_110 : decode cX1_finish 110 = .ok (.putfield 26, 3) := by decide +kernel
theorem dX1_finish_113 : decode cX1_finish 113 = .ok (.lconst 0, 1) := by decide +kernel
theorem dX1_finish_114 : decode cX1_finish 114 = .ok (.lreturn, 1) := by decide +kernel
theorem dX1_finish_115 : decode cX1_finish 115 = .ok (.aload_n 0, 1) := by decide +kernel
theorem dX1_finish_116 : decode cX1_finish 116 = .ok (.getfield 16, 3) := by decide +kernel
theorem dX1_finish_119 : decode cX1_finish 119 = .ok (.iload_n 1, 1) := by decide +kernel
theorem dX1_finish_120 : decode cX1_finish 120 = .ok (.iconst 0, 1) := by decide +kernel
theorem dX1_finish_121 : decode cX1_finish 121 = .ok (.iastore, 1) := by decide +kernel
theorem dX1_finish_122 : decode cX1_finish 122 = .ok (.iload_n 2, 1) := by decide +kernel
theorem dX1_finish_123 : decode cX1_finish 123 = .ok (.iconst 3, 1) := by decide +kernel
theorem dX1_finish_124 : decode cX1_finish 124 = .ok (.if_icmp .ne 20, 3) := by decide +kernel
theorem dX1_finish_127 : decode cX1_finish 127 = .ok (.iload 5, 2) := by decide +kernel
theorem dX1_finish_129 : decode cX1_finish 129 = .ok (.aload_n 0, 1) := by decide +kernel
theorem dX1_finish_130 : decode cX1_finish 130 = .ok (.getfield 34, 3) := by decide +kernel
theorem dX1_finish_133 : decode cX1_finish 133 = .ok (.if_icmp .ne 7, 3) := by decide +kernel
theorem dX1_finish_136 : decode cX1_finish 136 = .ok (.iconst 1, 1) := by decide +kernel
theorem dX1_finish_137 : decode cX1_finish 137 = .ok (.goto 22, 3) := by decide +kernel
theorem dX1_finish_140 : decode cX1_finish 140 = .ok (.iconst 0, 1) := by decide +kernel
theorem dX1_finish_141 : decode cX1_finish 141 = .ok (.goto 18, 3) := by decide +kernel
theorem dX1_finish_144 : decode cX1_finish 144 = .ok (.iload_n 2, 1) := by decide +kernel
theorem dX1_finish_145 : decode cX1_finish 145 = .ok (.iconst 1, 1) := by decide +kernel
theorem dX1_finish_146 : decode cX1_finish 146 = .ok (.if_icmp .eq 12, 3) := by decide +kernel
theorem dX1_finish_149 : decode cX1_finish 149 = .ok (.iload 6, 2) := by decide +kernel
theorem dX1_finish_151 : decode cX1_finish 151 = .ok (.ifCond .ne 7, 3) := by decide +kernel
theorem dX1_finish_154 : decode cX1_finish 154 = .ok (.iconst 1, 1) := by decide +kernel
theorem dX1_finish_155 : decode cX1_finish 155 = .ok (.goto 4, 3) := by decide +kernel
theorem dX1_finish_158 : decode cX1_finish 158 = .ok (.iconst 0, 1) := by decide +kernel
theorem dX1_finish_159 : decode cX1_finish 159 = .ok (.istore 7, 2) := by decide +kernel
theorem dX1_finish_161 : decode cX1_finish 161 = .ok (.iload 7, 2) := by decide +kernel
theorem dX1_finish_163 : decode cX1_finish 163 = .ok (.ifCond .eq 10, 3) := by decide +kernel
theorem dX1_finish_166 : decode cX1_finish 166 = .ok (.aload_n 0, 1) := by decide +kernel
theorem dX1_finish_167 : decode cX1_finish 167 = .ok (.iconst 3, 1) := by decide +kernel
theorem dX1_finish_168 : decode cX1_finish 168 = .ok (.putfield 26, 3) := by decide +kernel
theorem dX1_finish_171 : decode cX1_finish 171 = .ok (.lconst 0, 1) := by decide +kernel
theorem dX1_finish_172 : decode cX1_finish 172 = .ok (.lreturn, 1) := by decide +kernel
theorem dX1_finish_173 : decode cX1_finish 173 = .ok (.iload_n 2, 1) := by decide +kernel
theorem dX1_finish_174 : decode cX1_finish 174 = .ok (.ifCond .ne 13, 3) := by decide +kernel
theorem dX1_finish_177 : decode cX1_finish 177 = .ok (.aload_n 0, 1) := by decide +kernel
theorem dX1_finish_178 : decode cX1_finish 178 = .ok (.getfield 13, 3) := by decide +kernel
theorem dX1_finish_181 : decode cX1_finish 181 = .ok (.iload 5, 2) := by decide +kernel
theorem dX1_finish_183 : decode cX1_finish 183 = .ok (.laload, 1) := by decide +kernel
theorem dX1_finish_184 : decode cX1_finish 184 = .ok (.goto 47, 3) := by decide +kernel
theorem dX1_finish_187 : decode cX1_finish 187 = .ok (.iload_n 2, 1) := by decide +kernel
theorem dX1_finish_188 : decode cX1_finish 188 = .ok (.iconst 1, 1) := by decide +kernel
theorem dX1_finish_189 : decode cX1_finish 189 = .ok (.if_icmp .ne 21, 3) := by decide +kernel
theorem dX1_finish_192 : decode cX1_finish 192 = .ok (.aload_n 0, 1) := by decide +kernel
theorem dX1_finish_193 : decode cX1_finish 193 = .ok (.iload 5, 2) := by decide +kernel
theorem dX1_finish_195 : decode cX1_finish 195 = .ok (.iload 6, 2) := by decide +kernel
theorem dX1_finish_197 : decode cX1_finish 197 = .ok (.lload_n 3, 1) := by decide +kernel
theorem dX1_finish_198 : decode cX1_finish 198 = .ok (.aload_n 0, 1) := by decide +kernel
theorem dX1_finish_199 : decode cX1_finish 199 = .ok (.getfield 23, 3) := by decide +kernel
theorem dX1_finish_202 : decode cX1_finish 202 = .ok (.iload_n 1, 1) := by decide +kernel
theorem dX1_finish_203 : decode cX1_finish 203 = .ok (.laload, 1) := by decide +kernel
theorem dX1_finish_204 : decode cX1_finish 204 = .ok (.invokevirtual 41, 3) := by decide +kernel
theorem dX1_finish_207 : decode cX1_finish 207 = .ok (.goto 24, 3) := by decide +kernel
theorem dX1_finish_210 : decode cX1_finish 210 = .ok (.iload_n 2, 1) := by decide +kernel
theorem dX1_finish_211 : decode cX1_finish 211 = .ok (.iconst 2, 1) := by decide +kernel
theorem dX1_finish_212 : decode cX1_finish 212 = .ok (.if_icmp .ne 12, 3) := by decide +kernel
theorem dX1_finish_215 : decode cX1_finish 215 = .ok (.aload_n 0, 1) := by decide +kernel
theorem dX1_finish_216 : decode cX1_finish 216 = .ok (.iload 5, 2) := by decide +kernel
theorem dX1_finish_218 : decode cX1_finish 218 = .ok (.invokevirtual 45, 3) := by decide +kernel
theorem dX1_finish_221 : decode cX1_finish 221 = .ok (.goto 10, 3) := by decide +kernel
theorem dX1_finish_224 : decode cX1_finish 224 = .ok (.aload_n 0, 1) := by decide +kernel
theorem dX1_finish_225 : decode cX1_finish 225 = .ok (.getfield 7, 3) := by decide +kernel
theorem dX1_finish_228 : decode cX1_finish 228 = .ok (.iload 5, 2) := by decide +kernel
theorem dX1_finish_230 : decode cX1_finish 230 = .ok (.laload, 1) := by decide +kernel
theorem dX1_finish_231 : decode cX1_finish 231 = .ok (.lreturn, 1) := by decide +kernel
theorem dX1_rank_0 : decode cX1_rank 0 = .ok (.iconst 0, 1) := by decide +kernel
theorem dX1_rank_1 : decode cX1_rank 1 = .ok (.istore_n 3, 1) := by decide +kernel
theorem dX1_rank_2 : decode cX1_rank 2 = .ok (.iload_n 3, 1) := by decide +kernel
theorem dX1_rank_3 : decode cX1_rank 3 = .ok (.aload_n 0, 1) := by decide +kernel
theorem dX1_rank_4 : decode cX1_rank 4 = .ok (.getfield 34, 3) := by decide +kernel
theorem dX1_rank_7 : decode cX1_rank 7 = .ok (.if_icmp .ge 20, 3) := by decide +kernel
theorem dX1_rank_10 : decode cX1_rank 10 = .ok (.aload_n 0, 1) := by decide +kernel
theorem dX1_rank_11 : decode cX1_rank 11 = .ok (.getfield 7, 3) := by decide +kernel
theorem dX1_rank_14 : decode cX1_rank 14 = .ok (.iload_n 3, 1) := by decide +kernel
theorem dX1_rank_15 : decode cX1_rank 15 = .ok (.laload, 1) := by decide +kernel
theorem dX1_rank_16 : decode cX1_rank 16 = .ok (.lload_n 1, 1) := by decide +kernel
theorem dX1_rank_17 : decode cX1_rank 17 = .ok (.lcmp, 1) := by decide +kernel
theorem dX1_rank_18 : decode cX1_rank 18 = .ok (.ifCond .ge 9, 3) := by decide +kernel
theorem dX1_rank_21 : decode cX1_rank 21 = .ok (.iinc 3 1, 3) := by decide +kernel
theorem dX1_rank_24 : decode cX1_rank 24 = .ok (.goto (-22), 3) := by decide +kernel
theorem dX1_rank_27 : decode cX1_rank 27 = .ok (.iload_n 3, 1) := by decide +kernel
theorem dX1_rank_28 : decode cX1_rank 28 = .ok (.ireturn, 1) := by decide +kernel
theorem dX1_put_0 : decode cX1_put 0 = .ok (.iload_n 2, 1) := by decide +kernel
theorem dX1_put_1 : decode cX1_put 1 = .ok (.ifCond .eq 13, 3) := by decide +kernel
theorem dX1_put_4 : decode cX1_put 4 = .ok (.aload_n 0, 1) := by decide +kernel
theorem dX1_put_5 : decode cX1_put 5 = .ok (.getfield 13, 3) := by decide +kernel
theorem dX1_put_8 : decode cX1_put 8 = .ok (.iload_n 1, 1) := by decide +kernel
theorem dX1_put_9 : decode cX1_put 9 = .ok (.lload 5, 2) := by decide +kernel
theorem dX1_put_11 : decode cX1_put 11 = .ok (.lastore, 1) := by decide +kernel
theorem dX1_put_12 : decode cX1_put 12 = .ok (.lconst 1, 1) := by decide +kernel
theorem dX1_put_13 : decode cX1_put 13 = .ok (.lreturn, 1) := by decide +kernel
theorem dX1_put_14 : decode cX1_put 14 = .ok (.aload_n 0, 1) := by decide +kernel
theorem dX1_put_15 : decode cX1_put 15 = .ok (.getfield 34, 3) := by decide +kernel
theorem dX1_put_18 : decode cX1_put 18 = .ok (.istore 7, 2) := by decide +kernel
theorem dX1_put_20 : decode cX1_put 20 = .ok (.iload 7, 2) := by decide +kernel
theorem dX1_put_22 : decode cX1_put 22 = .ok (.iload_n 1, 1) := by decide +kernel
theorem dX1_put_23 : decode cX1_put 23 = .ok (.if_icmp .le 41, 3) := by decide +kernel
theorem dX1_put_26 : decode cX1_put 26 = .ok (.aload_n 0, 1) := by decide +kernel
theorem dX1_put_27 : decode cX1_put 27 = .ok (.getfield 7, 3) := by decide +kernel
theorem dX1_put_30 : decode cX1_put 30 = .ok (.iload 7, 2) := by decide +kernel
theorem dX1_put_32 : decode cX1_put 32 = .ok (.aload_n 0, 1) := by decide +kernel
theorem dX1_put_33 : decode cX1_put 33 = .ok (.getfield 7, 3) := by decide +kernel
theorem dX1_put_36 : decode cX1_put 36 = .ok (.iload 7, 2) := by decide +kernel
theorem dX1_put_38 : decode cX1_put 38 = .ok (.iconst 1, 1) := by decide +kernel
theorem dX1_put_39 : decode cX1_put 39 = .ok (.isub, 1) := by decide +kernel
theorem dX1_put_40 : decode cX1_put 40 = .ok (.laload, 1) := by decide +kernel
theorem dX1_put_41 : decode cX1_put 41 = .ok (.lastore, 1) := by decide +kernel
theorem dX1_put_42 : decode cX1_put 42 = .ok (.aload_n 0, 1) := by decide +kernel
theorem dX1_put_43 : decode cX1_put 43 = .ok (.getfield 13, 3) := by decide +kernel
theorem dX1_put_46 : decode cX1_put 46 = .ok (.iload 7, 2) := by decide +kernel
theorem dX1_put_48 : decode cX1_put 48 = .ok (.aload_n 0, 1) := by decide +kernel
theorem dX1_put_49 : decode cX1_put 49 = .ok (.getfield 13, 3) := by decide +kernel
theorem dX1_put_52 : decode cX1_put 52 = .ok (.iload 7, 2) := by decide +kernel
theorem dX1_put_54 : decode cX1_put 54 = .ok (.iconst 1, 1) := by decide +kernel
theorem dX1_put_55 : decode cX1_put 55 = .ok (.isub, 1) := by decide +kernel
theorem dX1_put_56 : decode cX1_put 56 = .ok (.laload, 1) := by decide +kernel
theorem dX1_put_57 : decode cX1_put 57 = .ok (.lastore, 1) := by decide +kernel
theorem dX1_put_58 : decode cX1_put 58 = .ok (.iinc 7 (-1), 3) := by decide +kernel
theorem dX1_put_61 : decode cX1_put 61 = .ok (.goto (-41), 3) := by decide +kernel
theorem dX1_put_64 : decode cX1_put 64 = .ok (.aload_n 0, 1) := by decide +kernel
theorem dX1_put_65 : decode cX1_put 65 = .ok (.getfield 7, 3) := by decide +kernel
theorem dX1_put_68 : decode cX1_put 68 = .ok (.iload_n 1, 1) := by decide +kernel
theorem dX1_put_69 : decode cX1_put 69 = .ok (.lload_n 3, 1) := by decide +kernel
theorem dX1_put_70 : decode cX1_put 70 = .ok (.lastore, 1) := by decide +kernel
theorem dX1_put_71 : decode cX1_put 71 = .ok (.aload_n 0, 1) := by decide +kernel
theorem dX1_put_72 : decode cX1_put 72 = .ok (.getfield 13, 3) := by decide +kernel
theorem dX1_put_75 : decode cX1_put 75 = .ok (.iload_n 1, 1) := by decide +kernel
theorem dX1_put_76 : decode cX1_put 76 = .ok (.lload 5, 2) := by decide +kernel
theorem dX1_put_78 : decode cX1_put 78 = .ok (.lastore, 1) := by decide +kernel
theorem dX1_put_79 : decode cX1_put 79 = .ok (.aload_n 0, 1) := by decide +kernel
theorem dX1_put_80 : decode cX1_put 80 = .ok (.dup, 1) := by decide +kernel
theorem dX1_put_81 : decode cX1_put 81 = .ok (.getfield 34, 3) := by decide +kernel
theorem dX1_put_84 : decode cX1_put 84 = .ok (.iconst 1, 1) := by decide +kernel
theorem dX1_put_85 : decode cX1_put 85 = .ok (.iadd, 1) := by decide +kernel
theorem dX1_put_86 : decode cX1_put 86 = .ok (.putfield 34, 3) := by decide +kernel
theorem dX1_put_89 : decode cX1_put 89 = .ok (.lconst 0, 1) := by decide +kernel
theorem dX1_put_90 : decode cX1_put 90 = .ok (.lreturn, 1) := by decide +kernel
theorem dX1_take_0 : decode cX1_take 0 = .ok (.aload_n 0, 1) := by decide +kernel
theorem dX1_take_1 : decode cX1_take 1 = .ok (.getfield 13, 3) := by decide +kernel
theorem dX1_take_4 : decode cX1_take 4 = .ok (.iload_n 1, 1) := by decide +kernel
theorem dX1_take_5 : decode cX1_take 5 = .ok (.laload, 1) := by decide +kernel
theorem dX1_take_6 : decode cX1_take 6 = .ok (.lstore_n 2, 1) := by decide +kernel
theorem dX1_take_7 : decode cX1_take 7 = .ok (.aload_n 0, 1) := by decide +kernel
theorem dX1_take_8 : decode cX1_take 8 = .ok (.dup, 1) := by decide +kernel
theorem dX1_take_9 : decode cX1_take 9 = .ok (.getfield 34, 3) := by decide +kernel
theorem dX1_take_12 : decode cX1_take 12 = .ok (.iconst 1, 1) := by decide +kernel
theorem dX1_take_13 : decode cX1_take 13 = .ok (.isub, 1) := by decide +kernel
theorem dX1_take_14 : decode cX1_take 14 = .ok (.putfield 34, 3) := by decide +kernel
theorem dX1_take_17 : decode cX1_take 17 = .ok (.iload_n 1, 1) := by decide +kernel
theorem dX1_take_18 : decode cX1_take 18 = .ok (.istore 4, 2) := by decide +kernel
theorem dX1_take_20 : decode cX1_take 20 = .ok (.iload 4, 2) := by decide +kernel
theorem dX1_take_22 : decode cX1_take 22 = .ok (.aload_n 0, 1) := by decide +kernel
theorem dX1_take_23 : decode cX1_take 23 = .ok (.getfield 34, 3) := by decide +kernel
theorem dX1_take_26 : decode cX1_take 26 = .ok (.if_icmp .ge 41, 3) := by decide +kernel
theorem dX1_take_29 : decode cX1_take 29 = .ok (.aload_n 0, 1) := by decide +kernel
theorem dX1_take_30 : decode cX1_take 30 = .ok (.getfield 7, 3) := by decide +kernel
theorem dX1_take_33 : decode cX1_take 33 = .ok (.iload 4, 2) := by decide +kernel
theorem dX1_take_35 : decode cX1_take 35 = .ok (.aload_n 0, 1) := by decide +kernel
theorem dX1_take_36 : decode cX1_take 36 = .ok (.getfield 7, 3) := by decide +kernel
theorem dX1_take_39 : decode cX1_take 39 = .ok (.iload 4, 2) := by decide +kernel
theorem dX1_take_41 : decode cX1_take 41 = .ok (.iconst 1, 1) := by decide +kernel
theorem dX1_take_42 : decode cX1_take 42 = .ok (.iadd, 1) := by decide +kernel
theorem dX1_take_43 : decode cX1_take 43 = .ok (.laload, 1) := by decide +kernel
theorem dX1_take_44 : decode cX1_take 44 = .ok (.lastore, 1) := by decide +kernel
theorem dX1_take_45 : decode cX1_take 45 = .ok (.aload_n 0, 1) := by decide +kernel
theorem dX1_take_46 : decode cX1_take 46 = .ok (.getfield 13, 3) := by decide +kernel
theorem dX1_take_49 : decode cX1_take 49 = .ok (.iload 4, 2) := by decide +kernel
theorem dX1_take_51 : decode cX1_take 51 = .ok (.aload_n 0, 1) := by decide +kernel
theorem dX1_take_52 : decode cX1_take 52 = .ok (.getfield 13, 3) := by decide +kernel
theorem dX1_take_55 : decode cX1_take 55 = .ok (.iload 4, 2) := by decide +kernel
theorem dX1_take_57 : decode cX1_take 57 = .ok (.iconst 1, 1) := by decide +kernel
theorem dX1_take_58 : decode cX1_take 58 = .ok (.iadd, 1) := by decide +kernel
theorem dX1_take_59 : decode cX1_take 59 = .ok (.laload, 1) := by decide +kernel
theorem dX1_take_60 : decode cX1_take 60 = .ok (.lastore, 1) := by decide +kernel
theorem dX1_take_61 : decode cX1_take 61 = .ok (.iinc 4 1, 3) := by decide +kernel
theorem dX1_take_64 : decode cX1_take 64 = .ok (.goto (-44), 3) := by decide +kernel
theorem dX1_take_67 : decode cX1_take 67 = .ok (.lload_n 2, 1) := by decide +kernel
theorem dX1_take_68 : decode cX1_take 68 = .ok (.lreturn, 1) := by decide +kernel
theorem dX1_drop_0 : decode cX1_drop 0 = .ok (.aload_n 0, 1) := by decide +kernel
theorem dX1_drop_1 : decode cX1_drop 1 = .ok (.iload_n 1, 1) := by decide +kernel
theorem dX1_drop_2 : decode cX1_drop 2 = .ok (.invokestatic 30, 3) := by decide +kernel
theorem dX1_drop_5 : decode cX1_drop 5 = .ok (.ifCond .eq 7, 3) := by decide +kernel
theorem dX1_drop_8 : decode cX1_drop 8 = .ok (.iconst 0, 1) := by decide +kernel
theorem dX1_drop_9 : decode cX1_drop 9 = .ok (.goto 4, 3) := by decide +kernel
theorem dX1_drop_12 : decode cX1_drop 12 = .ok (.iconst 1, 1) := by decide +kernel
theorem dX1_drop_13 : decode cX1_drop 13 = .ok (.putfield 26, 3) := by decide +kernel
theorem dX1_drop_16 : decode cX1_drop 16 = .ok (.aload_n 0, 1) := by decide +kernel
theorem dX1_drop_17 : decode cX1_drop 17 = .ok (.getfield 26, 3) := by decide +kernel
theorem dX1_drop_20 : decode cX1_drop 20 = .ok (.ifCond .le 5, 3) := by decide +kernel
theorem dX1_drop_23 : decode cX1_drop 23 = .ok (.iconst 0, 1) := by decide +kernel
theorem dX1_drop_24 : decode cX1_drop 24 = .ok (.ireturn, 1) := by decide +kernel
theorem dX1_drop_25 : decode cX1_drop 25 = .ok (.aload_n 0, 1) := by decide +kernel
theorem dX1_drop_26 : decode cX1_drop 26 = .ok (.getfield 16, 3) := by decide +kernel
theorem dX1_drop_29 : decode cX1_drop 29 = .ok (.iload_n 1, 1) := by decide +kernel
theorem dX1_drop_30 : decode cX1_drop 30 = .ok (.iaload, 1) := by decide +kernel
theorem dX1_drop_31 : decode cX1_drop 31 = .ok (.ifCond .le 7, 3) := by decide +kernel
theorem dX1_drop_34 : decode cX1_drop 34 = .ok (.iconst 1, 1) := by decide +kernel
theorem dX1_drop_35 : decode cX1_drop 35 = .ok (.goto 4, 3) := by decide +kernel
theorem dX1_drop_38 : decode cX1_drop 38 = .ok (.iconst 0, 1) := by decide +kernel
theorem dX1_drop_39 : decode cX1_drop 39 = .ok (.istore_n 2, 1) := by decide +kernel
theorem dX1_drop_40 : decode cX1_drop 40 = .ok (.aload_n 0, 1) := by decide +kernel
theorem dX1_drop_41 : decode cX1_drop 41 = .ok (.getfield 16, 3) := by decide +kernel
theorem dX1_drop_44 : decode cX1_drop 44 = .ok (.iload_n 1, 1) := by decide +kernel
theorem dX1_drop_45 : decode cX1_drop 45 = .ok (.iconst 0, 1) := by decide +kernel
theorem dX1_drop_46 : decode cX1_drop 46 = .ok (.iastore, 1) := by decide +kernel
theorem dX1_drop_47 : decode cX1_drop 47 = .ok (.iload_n 2, 1) := by decide +kernel
theorem dX1_drop_48 : decode cX1_drop 48 = .ok (.ireturn, 1) := by decide +kernel
theorem dX1_tidy_0 : decode cX1_tidy 0 = .ok (.aload_n 0, 1) := by decide +kernel
theorem dX1_tidy_1 : decode cX1_tidy 1 = .ok (.iload_n 1, 1) := by decide +kernel
theorem dX1_tidy_2 : decode cX1_tidy 2 = .ok (.ifCond .lt 9, 3) := by decide +kernel
theorem dX1_tidy_5 : decode cX1_tidy 5 = .ok (.iload_n 1, 1) := by decide +kernel
theorem dX1_tidy_6 : decode cX1_tidy 6 = .ok (.bipush 20, 2) := by decide +kernel
theorem dX1_tidy_8 : decode cX1_tidy 8 = .ok (.if_icmp .le 7, 3) := by decide +kernel
theorem dX1_tidy_11 : decode cX1_tidy 11 = .ok (.iconst 1, 1) := by decide +kernel
theorem dX1_tidy_12 : decode cX1_tidy 12 = .ok (.goto 4, 3) := by decide +kernel
theorem dX1_tidy_15 : decode cX1_tidy 15 = .ok (.iconst 0, 1) := by decide +kernel
theorem dX1_tidy_16 : decode cX1_tidy 16 = .ok (.putfield 26, 3) := by decide +kernel
theorem dX1_tidy_19 : decode cX1_tidy 19 = .ok (.return_, 1) := by decide +kernel
theorem dX1_crash_0 : decode cX1_crash 0 = .ok (.aload_n 0, 1) := by decide +kernel
theorem dX1_crash_1 : decode cX1_crash 1 = .ok (.iconst 0, 1) := by decide +kernel
theorem dX1_crash_2 : decode cX1_crash 2 = .ok (.putfield 26, 3) := by decide +kernel
theorem dX1_crash_5 : decode cX1_crash 5 = .ok (.iconst 0, 1) := by decide +kernel
theorem dX1_crash_6 : decode cX1_crash 6 = .ok (.istore_n 1, 1) := by decide +kernel
theorem dX1_crash_7 : decode cX1_crash 7 = .ok (.iconst 0, 1) := by decide +kernel
theorem dX1_crash_8 : decode cX1_crash 8 = .ok (.istore_n 2, 1) := by decide +kernel
theorem dX1_crash_9 : decode cX1_crash 9 = .ok (.iload_n 2, 1) := by decide +kernel
theorem dX1_crash_10 : decode cX1_crash 10 = .ok (.bipush 8, 2) := by decide +kernel
theorem dX1_crash_12 : decode cX1_crash 12 = .ok (.if_icmp .ge 33, 3) := by decide +kernel
theorem dX1_crash_15 : decode cX1_crash 15 = .ok (.iload_n 1, 1) := by decide +kernel
theorem dX1_crash_16 : decode cX1_crash 16 = .ok (.aload_n 0, 1) := by decide +kernel
theorem dX1_crash_17 : decode cX1_crash 17 = .ok (.getfield 16, 3) := by decide +kernel
theorem dX1_crash_20 : decode cX1_crash 20 = .ok (.iload_n 2, 1) := by decide +kernel
theorem dX1_crash_21 : decode cX1_crash 21 = .ok (.iaload, 1) := by decide +kernel
theorem dX1_crash_22 : decode cX1_crash 22 = .ok (.ifCond .le 7, 3) := by decide +kernel
theorem dX1_crash_25 : decode cX1_crash 25 = .ok (.iconst 1, 1) := by decide +kernel
theorem dX1_crash_26 : decode cX1_crash 26 = .ok (.goto 4, 3) := by decide +kernel
theorem dX1_crash_29 : decode cX1_crash 29 = .ok (.iconst 0, 1) := by decide +kernel
theorem dX1_crash_30 : decode cX1_crash 30 = .ok (.iadd, 1) := by decide +kernel
theorem dX1_crash_31 : decode cX1_crash 31 = .ok (.istore_n 1, 1) := by decide +kernel
theorem dX1_crash_32 : decode cX1_crash 32 = .ok (.aload_n 0, 1) := by decide +kernel
theorem dX1_crash_33 : decode cX1_crash 33 = .ok (.getfield 16, 3) := by decide +kernel
theorem dX1_crash_36 : decode cX1_crash 36 = .ok (.iload_n 2, 1) := by decide +kernel
theorem dX1_crash_37 : decode cX1_crash 37 = .ok (.iconst 0, 1) := by decide +kernel
theorem dX1_crash_38 : decode cX1_crash 38 = .ok (.iastore, 1) := by decide +kernel
theorem dX1_crash_39 : decode cX1_crash 39 = .ok (.iinc 2 1, 3) := by decide +kernel
theorem dX1_crash_42 : decode cX1_crash 42 = .ok (.goto (-33), 3) := by decide +kernel
theorem dX1_crash_45 : decode cX1_crash 45 = .ok (.iload_n 1, 1) := by decide +kernel
theorem dX1_crash_46 : decode cX1_crash 46 = .ok (.ireturn, 1) := by decide +kernel
theorem dX1_kind_0 : decode cX1_kind 0 = .ok (.aload_n 0, 1) := by decide +kernel
theorem dX1_kind_1 : decode cX1_kind 1 = .ok (.iload_n 1, 1) := by decide +kernel
theorem dX1_kind_2 : decode cX1_kind 2 = .ok (.invokestatic 30, 3) := by decide +kernel
theorem dX1_kind_5 : decode cX1_kind 5 = .ok (.ifCond .eq 7, 3) := by decide +kernel
theorem dX1_kind_8 : decode cX1_kind 8 = .ok (.iconst 0, 1) := by decide +kernel
theorem dX1_kind_9 : decode cX1_kind 9 = .ok (.goto 4, 3) := by decide +kernel
theorem dX1_kind_12 : decode cX1_kind 12 = .ok (.iconst 1, 1) := by decide +kernel
theorem dX1_kind_13 : decode cX1_kind 13 = .ok (.putfield 26, 3) := by decide +kernel
theorem dX1_kind_16 : decode cX1_kind 16 = .ok (.aload_n 0, 1) := by decide +kernel
theorem dX1_kind_17 : decode cX1_kind 17 = .ok (.getfield 26, 3) := by decide +kernel
theorem dX1_kind_20 : decode cX1_kind 20 = .ok (.ifCond .ne 14, 3) := by decide +kernel
theorem dX1_kind_23 : decode cX1_kind 23 = .ok (.aload_n 0, 1) := by decide +kernel
theorem dX1_kind_24 : decode cX1_kind 24 = .ok (.getfield 16, 3) := by decide +kernel
theorem dX1_kind_27 : decode cX1_kind 27 = .ok (.iload_n 1, 1) := by decide +kernel
theorem dX1_kind_28 : decode cX1_kind 28 = .ok (.iaload, 1) := by decide +kernel
theorem dX1_kind_29 : decode cX1_kind 29 = .ok (.iconst 1, 1) := by decide +kernel
theorem dX1_kind_30 : decode cX1_kind 30 = .ok (.isub, 1) := by decide +kernel
theorem dX1_kind_31 : decode cX1_kind 31 = .ok (.goto 4, 3) := by decide +kernel
theorem dX1_kind_34 : decode cX1_kind 34 = .ok (.iconst 0, 1) := by decide +kernel
theorem dX1_kind_35 : decode cX1_kind 35 = .ok (.ireturn, 1) := by decide +kernel
theorem dX1_size_0 : decode cX1_size 0 = .ok (.aload_n 0, 1) := by decide +kernel
theorem dX1_size_1 : decode cX1_size 1 = .ok (.iconst 0, 1) := by decide +kernel
theorem dX1_size_2 : decode cX1_size 2 = .ok (.putfield 26, 3) := by decide +kernel
theorem dX1_size_5 : decode cX1_size 5 = .ok (.aload_n 0, 1) := by decide +kernel
theorem dX1_size_6 : decode cX1_size 6 = .ok (.getfield 34, 3) := by decide +kernel
theorem dX1_size_9 : decode cX1_size 9 = .ok (.ireturn, 1) := by decide +kernel
theorem dX1_key_0 : decode cX1_key 0 = .ok (.aload_n 0, 1) := by decide +kernel
theorem dX1_key_1 : decode cX1_key 1 = .ok (.iload_n 1, 1) := by decide +kernel
theorem dX1_key_2 : decode cX1_key 2 = .ok (.ifCond .lt 11, 3) := by decide +kernel
theorem dX1_key_5 : decode cX1_key 5 = .ok (.iload_n 1, 1) := by decide +kernel
theorem dX1_key_6 : decode cX1_key 6 = .ok (.aload_n 0, 1) := by decide +kernel
theorem dX1_key_7 : decode cX1_key 7 = .ok (.getfield 34, 3) := by decide +kernel
theorem dX1_key_10 : decode cX1_key 10 = .ok (.if_icmp .lt 7, 3) := by decide +kernel
theorem dX1_key_13 : decode cX1_key 13 = .ok (.iconst 1, 1) := by decide +kernel
theorem dX1_key_14 : decode cX1_key 14 = .ok (.goto 4, 3) := by decide +kernel
theorem dX1_key_17 : decode cX1_key 17 = .ok (.iconst 0, 1) := by decide +kernel
theorem dX1_key_18 : decode cX1_key 18 = .ok (.putfield 26, 3) := by decide +kernel
theorem dX1_key_21 : decode cX1_key 21 = .ok (.aload_n 0, 1) := by decide +kernel
theorem dX1_key_22 : decode cX1_key 22 = .ok (.getfield 26, 3) := by decide +kernel
theorem dX1_key_25 : decode cX1_key 25 = .ok (.ifCond .ne 12, 3) := by decide +kernel
theorem dX1_key_28 : decode cX1_key 28 = .ok (.aload_n 0, 1) := by decide +kernel
theorem dX1_key_29 : decode cX1_key 29 = .ok (.getfield 7, 3) := by decide +kernel
theorem dX1_key_32 : decode cX1_key 32 = .ok (.iload_n 1, 1) := by decide +kernel
theorem dX1_key_33 : decode cX1_key 33 = .ok (.laload, 1) := by decide +kernel
theorem dX1_key_34 : decode cX1_key 34 = .ok (.goto 4, 3) := by decide +kernel
theorem dX1_key_37 : decode cX1_key 37 = .ok (.lconst 0, 1) := by decide +kernel
theorem dX1_key_38 : decode cX1_key 38 = .ok (.lreturn, 1) := by decide +kernel
theorem dX1_value_0 : decode cX1_value 0 = .ok (.aload_n 0, 1) := by decide +kernel
theorem dX1_value_1 : decode cX1_value 1 = .ok (.iload_n 1, 1) := by decide +kernel
theorem dX1_value_2 : decode cX1_value 2 = .ok (.ifCond .lt 11, 3) := by decide +kernel
theorem dX1_value_5 : decode cX1_value 5 = .ok (.iload_n 1, 1) := by decide +kernel
theorem dX1_value_6 : decode cX1_value 6 = .ok (.aload_n 0, 1) := by decide +kernel
theorem dX1_value_7 : decode cX1_value 7 = .ok (.getfield 34, 3) := by decide +kernel
theorem dX1_value_10 : decode cX1_value 10 = .ok (.if_icmp .lt 7, 3) := by decide +kernel
theorem dX1_value_13 : decode cX1_value 13 = .ok (.iconst 1, 1) := by decide +kernel
theorem dX1_value_14 : decode cX1_value 14 = .ok (.goto 4, 3) := by decide +kernel
theorem dX1_value_17 : decode cX1_value 17 = .ok (.iconst 0, 1) := by decide +kernel
theorem dX1_value_18 : decode cX1_value 18 = .ok (.putfield 26, 3) := by decide +kernel
theorem dX1_value_21 : decode cX1_value 21 = .ok (.aload_n 0, 1) := by decide +kernel
theorem dX1_value_22 : decode cX1_value 22 = .ok (.getfield 26, 3) := by decide +kernel
theorem dX1_value_25 : decode cX1_value 25 = .ok (.ifCond .ne 12, 3) := by decide +kernel
theorem dX1_value_28 : decode cX1_value 28 = .ok (.aload_n 0, 1) := by decide +kernel
theorem dX1_value_29 : decode cX1_value 29 = .ok (.getfield 13, 3) := by decide +kernel
theorem dX1_value_32 : decode cX1_value 32 = .ok (.iload_n 1, 1) := by decide +kernel
theorem dX1_value_33 : decode cX1_value 33 = .ok (.laload, 1) := by decide +kernel
theorem dX1_value_34 : decode cX1_value 34 = .ok (.goto 4, 3) := by decide +kernel
theorem dX1_value_37 : decode cX1_value 37 = .ok (.lconst 0, 1) := by decide +kernel
theorem dX1_value_38 : decode cX1_value 38 = .ok (.lreturn, 1) := by decide +kernel
theorem dX1_count_0 : decode cX1_count 0 = .ok (.aload_n 0, 1) := by decide +kernel
theorem dX1_count_1 : decode cX1_count 1 = .ok (.iconst 0, 1) := by decide +kernel
theorem dX1_count_2 : decode cX1_count 2 = .ok (.putfield 26, 3) := by decide +kernel
theorem dX1_count_5 : decode cX1_count 5 = .ok (.iconst 0, 1) := by decide +kernel
theorem dX1_count_6 : decode cX1_count 6 = .ok (.istore 5, 2) := by decide +kernel
theorem dX1_count_8 : decode cX1_count 8 = .ok (.iconst 0, 1) := by decide +kernel
theorem dX1_count_9 : decode cX1_count 9 = .ok (.istore 6, 2) := by decide +kernel
theorem dX1_count_11 : decode cX1_count 11 = .ok (.iload 6, 2) := by decide +kernel
theorem dX1_count_13 : decode cX1_count 13 = .ok (.aload_n 0, 1) := by decide +kernel
theorem dX1_count_14 : decode cX1_count 14 = .ok (.getfield 34, 3) := by decide +kernel
theorem dX1_count_17 : decode cX1_count 17 = .ok (.if_icmp .ge 43, 3) := by decide +kernel
theorem dX1_count_20 : decode cX1_count 20 = .ok (.iload 5, 2) := by decide +kernel
theorem dX1_count_22 : decode cX1_count 22 = .ok (.aload_n 0, 1) := by decide +kernel
theorem dX1_count_23 : decode cX1_count 23 = .ok (.getfield 7, 3) := by decide +kernel
theorem dX1_count_26 : decode cX1_count 26 = .ok (.iload 6, 2) := by decide +kernel
theorem dX1_count_28 : decode cX1_count 28 = .ok (.laload, 1) := by decide +kernel
theorem dX1_count_29 : decode cX1_count 29 = .ok (.lload_n 1, 1) := by decide +kernel
theorem dX1_count_30 : decode cX1_count 30 = .ok (.lcmp, 1) := by decide +kernel
theorem dX1_count_31 : decode cX1_count 31 = .ok (.ifCond .lt 19, 3) := by decide +kernel
theorem dX1_count_34 : decode cX1_count 34 = .ok (.aload_n 0, 1) := by decide +kernel
theorem dX1_count_35 : decode cX1_count 35 = .ok (.getfield 7, 3) := by decide +kernel
theorem dX1_count_38 : decode cX1_count 38 = .ok (.iload 6, 2) := by decide +kernel
theorem dX1_count_40 : decode cX1_count 40 = .ok (.laload, 1) := by decide +kernel
theorem dX1_count_41 : decode cX1_count 41 = .ok (.lload_n 3, 1) := by decide +kernel
theorem dX1_count_42 : decode cX1_count 42 = .ok (.lcmp, 1) := by decide +kernel
theorem dX1_count_43 : decode cX1_count 43 = .ok (.ifCond .gt 7, 3) := by decide +kernel
theorem dX1_count_46 : decode cX1_count 46 = .ok (.iconst 1, 1) := by decide +kernel
theorem dX1_count_47 : decode cX1_count 47 = .ok (.goto 4, 3) := by decide +kernel
theorem dX1_count_50 : decode cX1_count 50 = .ok (.iconst 0, 1) := by decide +kernel
theorem dX1_count_51 : decode cX1_count 51 = .ok (.iadd, 1) := by decide +kernel
theorem dX1_count_52 : decode cX1_count 52 = .ok (.istore 5, 2) := by decide +kernel
theorem dX1_count_54 : decode cX1_count 54 = .ok (.iinc 6 1, 3) := by decide +kernel
theorem dX1_count_57 : decode cX1_count 57 = .ok (.goto (-46), 3) := by decide +kernel
theorem dX1_count_60 : decode cX1_count 60 = .ok (.iload 5, 2) := by decide +kernel
theorem dX1_count_62 : decode cX1_count 62 = .ok (.ireturn, 1) := by decide +kernel
theorem dX1_sum_0 : decode cX1_sum 0 = .ok (.aload_n 0, 1) := by decide +kernel
theorem dX1_sum_1 : decode cX1_sum 1 = .ok (.iconst 0, 1) := by decide +kernel
theorem dX1_sum_2 : decode cX1_sum 2 = .ok (.putfield 26, 3) := by decide +kernel
theorem dX1_sum_5 : decode cX1_sum 5 = .ok (.lconst 0, 1) := by decide +kernel
theorem dX1_sum_6 : decode cX1_sum 6 = .ok (.lstore 5, 2) := by decide +kernel
theorem dX1_sum_8 : decode cX1_sum 8 = .ok (.iconst 0, 1) := by decide +kernel
theorem dX1_sum_9 : decode cX1_sum 9 = .ok (.istore 7, 2) := by decide +kernel
theorem dX1_sum_11 : decode cX1_sum 11 = .ok (.iload 7, 2) := by decide +kernel
theorem dX1_sum_13 : decode cX1_sum 13 = .ok (.aload_n 0, 1) := by decide +kernel
theorem dX1_sum_14 : decode cX1_sum 14 = .ok (.getfield 34, 3) := by decide +kernel
theorem dX1_sum_17 : decode cX1_sum 17 = .ok (.if_icmp .ge 49, 3) := by decide +kernel
theorem dX1_sum_20 : decode cX1_sum 20 = .ok (.lload 5, 2) := by decide +kernel
theorem dX1_sum_22 : decode cX1_sum 22 = .ok (.aload_n 0, 1) := by decide +kernel
theorem dX1_sum_23 : decode cX1_sum 23 = .ok (.getfield 7, 3) := by decide +kernel
theorem dX1_sum_26 : decode cX1_sum 26 = .ok (.iload 7, 2) := by decide +kernel
theorem dX1_sum_28 : decode cX1_sum 28 = .ok (.laload, 1) := by decide +kernel
theorem dX1_sum_29 : decode cX1_sum 29 = .ok (.lload_n 1, 1) := by decide +kernel
theorem dX1_sum_30 : decode cX1_sum 30 = .ok (.lcmp, 1) := by decide +kernel
theorem dX1_sum_31 : decode cX1_sum 31 = .ok (.ifCond .lt 25, 3) := by decide +kernel
theorem dX1_sum_34 : decode cX1_sum 34 = .ok (.aload_n 0, 1) := by decide +kernel
theorem dX1_sum_35 : decode cX1_sum 35 = .ok (.getfield 7, 3) := by decide +kernel
theorem dX1_sum_38 : decode cX1_sum 38 = .ok (.iload 7, 2) := by decide +kernel
theorem dX1_sum_40 : decode cX1_sum 40 = .ok (.laload, 1) := by decide +kernel
theorem dX1_sum_41 : decode cX1_sum 41 = .ok (.lload_n 3, 1) := by decide +kernel
theorem dX1_sum_42 : decode cX1_sum 42 = .ok (.lcmp, 1) := by decide +kernel
theorem dX1_sum_43 : decode cX1_sum 43 = .ok (.ifCond .gt 13, 3) := by decide +kernel
theorem dX1_sum_46 : decode cX1_sum 46 = .ok (.aload_n 0, 1) := by decide +kernel
theorem dX1_sum_47 : decode cX1_sum 47 = .ok (.getfield 13, 3) := by decide +kernel
theorem dX1_sum_50 : decode cX1_sum 50 = .ok (.iload 7, 2) := by decide +kernel
theorem dX1_sum_52 : decode cX1_sum 52 = .ok (.laload, 1) := by decide +kernel
theorem dX1_sum_53 : decode cX1_sum 53 = .ok (.goto 4, 3) := by decide +kernel
theorem dX1_sum_56 : decode cX1_sum 56 = .ok (.lconst 0, 1) := by decide +kernel
theorem dX1_sum_57 : decode cX1_sum 57 = .ok (.ladd, 1) := by decide +kernel
theorem dX1_sum_58 : decode cX1_sum 58 = .ok (.lstore 5, 2) := by decide +kernel
theorem dX1_sum_60 : decode cX1_sum 60 = .ok (.iinc 7 1, 3) := by decide +kernel
theorem dX1_sum_63 : decode cX1_sum 63 = .ok (.goto (-52), 3) := by decide +kernel
theorem dX1_sum_66 : decode cX1_sum 66 = .ok (.lload 5, 2) := by decide +kernel
theorem dX1_sum_68 : decode cX1_sum 68 = .ok (.lreturn, 1) := by decide +kernel
end
section
set_option maxHeartbeats 1000000 in
set_option maxRecDepth 100000 in
theorem m_thrown (l : Launch) (hl9 : l.stackTraces = false) (D : va_G) (b : Nat → Nat) (g : Nat → ClassId) (cd : Int32) (n : Nat) (K V : Nat → Int64) (kd : Nat → Int32) (SK SV : Nat → Int64) (sz : Nat)  : Met l yX1_thrown wsX1_thrown ({ frames := 0, cells := 0, slots := 0, locals := 0 }) (cP D (tM g) (wM b g cd n K V (fun i9 => kd i9 + 1) SK SV) [.ref (b 0)] sz) (cQi D (tM g) (fun v => v = cd) (wM b g cd n K V (fun i9 => kd i9 + 1) SK SV) (va_A (wM b g cd n K V (fun i9 => kd i9 + 1) SK SV) sz)) 0 0 (va_A (wM b g cd n K V (fun i9 => kd i9 + 1) SK SV) sz) := by
  refine mk_n (cc := cX1_thrown) (maxL := 1) (ret := (some .int)) (fun A => cQi D (tM g) (fun v => v = cd) (wM b g cd n K V (fun i9 => kd i9 + 1) SK SV) A) (by decide) rfl (Nat.le_of_ble_eq_true rfl) ?_
  intro p e s m below meth c ls A hx hb hr hml hlocks hnm hown hts hP hK hD hZ hA hS hl
  have hown : s.vm.findClass RX1 = some m.cls := hown
  have hl : lv_has ls 1 [(0, .ref (b 0))] := hl
  refine lv_aload_n hx hb dX1_thrown_0 rfl (lv_at hl 0 rfl) ?_
  refine va_get (D := D) (ci := 1) (v := .int cd) (C := RX1) (T := TX1) (N := 7) hx hb hts (fun w h => wm (ui_X1 w h)) hown hK hP 0 rfl rfl 0 (by decide) (hts (.fieldLink RX1 26 "LinkedIndexModel" "code" "I") (wm mb_47)) (fun _ h9 => h9) rfl dX1_thrown_1 ?_
  exact fn_i hx hb hr hlocks (by decide) (by decide) rfl hP hK hD hS dX1_thrown_4
set_option maxHeartbeats 1000000 in
set_option maxRecDepth 100000 in
theorem m_isSlot (l : Launch) (hl9 : l.stackTraces = false) (D : va_G) (slot : Int32) (sz : Nat)  : Met l yX1_isSlot wsX1_isSlot ({ frames := 0, cells := 0, slots := 0, locals := 0 }) (cP D ([]) [] [.int slot] sz) (cQi D ([]) (fun v => v = (if okS slot then 1 else 0)) ([]) (va_A [] sz)) 0 0 (va_A [] sz) := by
  refine mk_n (cc := cX1_isSlot) (maxL := 1) (ret := (some .boolean)) (fun A => cQi D ([]) (fun v => v = (if okS slot then 1 else 0)) ([]) A) (by decide) rfl (Nat.le_of_ble_eq_true rfl) ?_
  intro p e s m below meth c ls A hx hb hr hml hlocks hnm hown hts hP hK hD hZ hA hS hl
  have hown : s.vm.findClass RX1 = some m.cls := hown
  have hl : lv_has ls 1 [(0, .int slot)] := hl
  refine lv_iload_n hx hb dX1_isSlot_0 rfl (lv_at hl 0 rfl) ?_
  refine lv_if_lt (tgt := 14) hx hb dX1_isSlot_1 (by decide) (fun h1 => ?_) (fun h1 => ?_)
  · skip
    refine lv_iconst (v := 0) hx hb dX1_isSlot_14 (by decide) ?_
    exact fn_z hx hb hr (by decide) hlocks (by decide) (by decide) (by rw [if_neg (fun q => q.1 h1)]) hP hK hD hS dX1_isSlot_15
  · skip
    refine lv_iload_n hx hb dX1_isSlot_4 rfl (lv_at hl 0 rfl) ?_
    refine lv_bipush (v := 7) hx hb dX1_isSlot_5 (by decide) ?_
    refine lv_icmp_gt (tgt := 14) hx hb dX1_isSlot_7 (by decide) (fun h2 => ?_) (fun h2 => ?_)
    · skip
      refine lv_iconst (v := 0) hx hb dX1_isSlot_14 (by decide) ?_
      exact fn_z hx hb hr (by decide) hlocks (by decide) (by decide) (by rw [if_neg (okS_7n h2)]) hP hK hD hS dX1_isSlot_15
    · skip
      refine lv_iconst (v := 1) hx hb dX1_isSlot_10 (by decide) ?_
      refine lv_goto (tgt := 15) hx hb dX1_isSlot_11 (by decide) ?_
      exact fn_z hx hb hr (by decide) hlocks (by decide) (by decide) (by rw [if_pos (okS_7 h1 h2)]) hP hK hD hS dX1_isSlot_15
set_option maxHeartbeats 1000000 in
set_option maxRecDepth 100000 in
theorem m_begin (l : Launch) (hl9 : l.stackTraces = false) (D : va_G) (b : Nat → Nat) (g : Nat → ClassId) (cd : Int32) (n : Nat) (K V : Nat → Int64) (kd : Nat → Int32) (SK SV : Nat → Int64) (slot kind : Int32) (key value : Int64) (sz : Nat) (hk : ∀ j, j < 8 → kOk (kd j)) : Met l yX1_begin wsX1_begin ({ frames := 1, cells := 0, slots := 0, locals := 20 }) (cP D (tM g) (wM b g cd n K V (fun i9 => kd i9 + 1) SK SV) [.ref (b 0), .int slot, .int kind, .long key, .long value] sz) (cQv D (tM g) True (wM b g (cdB slot kind kd) n K V (fun i9 => kdB slot kind kd i9 + 1) (svB slot kind kd key SK) (svB slot kind kd value SV)) (va_A (wM b g cd n K V (fun i9 => kd i9 + 1) SK SV) sz)) 0 0 (va_A (wM b g cd n K V (fun i9 => kd i9 + 1) SK SV) sz) := by
  refine mk_n (cc := cX1_begin) (maxL := 7) (ret := none) (fun A => cQv D (tM g) True (wM b g (cdB slot kind kd) n K V (fun i9 => kdB slot kind kd i9 + 1) (svB slot kind kd key SK) (svB slot kind kd value SV)) A) (by decide) rfl (Nat.le_of_ble_eq_true rfl) ?_
  intro p e s m below meth c ls A hx hb hr hml hlocks hnm hown hts hP hK hD hZ hA hS hl
  have hown : s.vm.findClass RX1 = some m.cls := hown
  have hl : lv_has ls 7 [(0, .ref (b 0)), (1, .int slot), (2, .int kind), (3, .long key), (5, .long value)] := hl
  refine lv_aload_n hx hb dX1_begin_0 rfl (lv_at hl 0 rfl) ?_
  refine lv_iload_n hx hb dX1_begin_1 rfl (lv_at hl 1 rfl) ?_
  refine kn_i (wc := []) (wr := (wM b g cd n K V (fun i9 => kd i9 + 1) SK SV)) (w1 := []) (va_runS (As := [.int slot]) (rest := [.ref (b 0)]) ⟨hx, hb, hml, hown, hts⟩ (m_isSlot l hl9 D slot s.heap.size) (va_cwS 1 hts (gd_up (gd_S mb_48 mb_49 mb_50 mb_51)) rfl rfl rfl (by decide +kernel) ⟨by decide, by decide⟩) ⟨cP_blind, cPre hP hD hK hS hA hZ [] rfl (by decide) [] rfl⟩ rfl rfl hl.1 rfl (lv_room (Nat.le_of_ble_eq_true rfl)) dX1_begin_2 ⟨by decide, by decide⟩) hP hD hS hA [] [0, 1, 2, 3, 4, 5] rfl rfl (by decide) (by decide) (fun r9 H locs hp hP hD hS => ?_)
  have hP : va_P D vwCl (wM b g cd n K V (fun i9 => kd i9 + 1) SK SV) H := hP
  have hD : va_D A (wM b g cd n K V (fun i9 => kd i9 + 1) SK SV) := hD
  by_cases hs : okS slot
  · skip
    rw [if_pos hs] at hp
    subst hp
    refine lv_if_eq (tgt := 17) hx hb dX1_begin_5 (by decide) (fun h0 => ?_) (fun h0 => ?_)
    · skip
      first | exact absurd h0 (by decide) | exact (h0 rfl).elim
    · skip
      refine lv_iload_n hx hb dX1_begin_8 rfl (lv_at hl 2 rfl) ?_
      refine lv_if_lt (tgt := 17) hx hb dX1_begin_9 (by decide) (fun h1 => ?_) (fun h1 => ?_)
      · skip
        refine lv_iconst (v := 1) hx hb dX1_begin_17 (by decide) ?_
        refine lv_goto (tgt := 35) hx hb dX1_begin_18 (by decide) ?_
        refine va_put (D := D) (ci := 1) (v := .int 1) (ty := .int) (C := RX1) (T := TX1) (N := 7) hx hb hts (fun w h => wm (ui_X1 w h)) tyX1 tyX1_ok nmX1 hown hK hP hD hS 0 rfl rfl 0 (by decide) (hts (.fieldLink RX1 26 "LinkedIndexModel" "code" "I") (wm mb_47)) (fun _ h9 => h9) rfl (by decide +kernel) rfl rfl (Nat.le_of_ble_eq_true rfl) dX1_begin_35 (fun H locs hP hD hS => ?_)
        have hP : va_P D vwCl (wM b g 1 n K V (fun i9 => kd i9 + 1) SK SV) H := hP
        have hD : va_D A (wM b g 1 n K V (fun i9 => kd i9 + 1) SK SV) := hD
        have e0 : cdB slot kind kd = 1 := cdB_1 (fun q => q.2.1 h1)
        refine lv_aload_n hx hb dX1_begin_38 rfl (lv_at hl 0 rfl) ?_
        refine va_get (D := D) (ci := 1) (v := .int 1) (C := RX1) (T := TX1) (N := 7) hx hb hts (fun w h => wm (ui_X1 w h)) hown hK hP 0 rfl rfl 0 (by decide) (hts (.fieldLink RX1 26 "LinkedIndexModel" "code" "I") (wm mb_47)) (fun _ h9 => h9) rfl dX1_begin_39 ?_
        refine lv_if_ne (tgt := 69) hx hb dX1_begin_42 (by decide) (fun h9 => ?_) (fun h9 => ?_)
        · skip
          have e1 : kdB slot kind kd = kd := by unfold kdB; rw [e0]; rfl
          have e2 : svB slot kind kd key SK = SK := by unfold svB; rw [e0]; rfl
          have e3 : svB slot kind kd value SV = SV := by unfold svB; rw [e0]; rfl
          rw [e0, e1, e2, e3]
          exact fn_v hx hb hr hlocks (by decide) (by decide) trivial hP hK hD hS dX1_begin_69
        · skip
          first | exact absurd h9 (by decide) | exact (h9 rfl).elim
      · skip
        refine lv_iload_n hx hb dX1_begin_12 rfl (lv_at hl 2 rfl) ?_
        refine lv_iconst (v := 3) hx hb dX1_begin_13 (by decide) ?_
        refine lv_icmp_le (tgt := 21) hx hb dX1_begin_14 (by decide) (fun h2 => ?_) (fun h2 => ?_)
        · skip
          obtain ⟨j, hj, rfl⟩ := okS_of hs
          refine lv_aload_n hx hb dX1_begin_21 rfl (lv_at hl 0 rfl) ?_
          refine va_get (D := D) (ci := 1) (v := .ref (b 3)) (C := RX1) (T := TX1) (N := 7) hx hb hts (fun w h => wm (ui_X1 w h)) hown hK hP 0 rfl rfl 4 (by decide) (hts (.fieldLink RX1 16 "LinkedIndexModel" "kinds" "[I") (wm mb_52)) (fun _ h9 => h9) rfl dX1_begin_22 ?_
          refine lv_iload_n hx hb dX1_begin_25 rfl (lv_at hl 1 rfl) ?_
          refine x_iald (j := j) hx hb hK hP 3 2 rfl rfl hj (by decide) dX1_begin_26 ?_
          refine lv_if_le (tgt := 34) hx hb dX1_begin_27 (by decide) (fun h3 => ?_) (fun h3 => ?_)
          · skip
            have h3 : kd j = -1 := Classical.byContradiction (fun q => absurd ((kOk_pos (hk j hj)).mpr q) (fun q2 => absurd q2 (by rw [Int32.lt_iff_toInt_lt]; rw [Int32.le_iff_toInt_le] at h3; omega)))
            have e0 : cdB (nI j) kind kd = 0 := cdB_0 ⟨okS_n hj, h1, h2⟩ (by rw [ix_n hj]; exact h3)
            refine lv_iconst (v := 0) hx hb dX1_begin_34 (by decide) ?_
            refine va_put (D := D) (ci := 1) (v := .int 0) (ty := .int) (C := RX1) (T := TX1) (N := 7) hx hb hts (fun w h => wm (ui_X1 w h)) tyX1 tyX1_ok nmX1 hown hK hP hD hS 0 rfl rfl 0 (by decide) (hts (.fieldLink RX1 26 "LinkedIndexModel" "code" "I") (wm mb_47)) (fun _ h9 => h9) rfl (by decide +kernel) rfl rfl (Nat.le_of_ble_eq_true rfl) dX1_begin_35 (fun H locs hP hD hS => ?_)
            have hP : va_P D vwCl (wM b g 0 n K V (fun i9 => kd i9 + 1) SK SV) H := hP
            have hD : va_D A (wM b g 0 n K V (fun i9 => kd i9 + 1) SK SV) := hD
            refine lv_aload_n hx hb dX1_begin_38 rfl (lv_at hl 0 rfl) ?_
            refine va_get (D := D) (ci := 1) (v := .int 0) (C := RX1) (T := TX1) (N := 7) hx hb hts (fun w h => wm (ui_X1 w h)) hown hK hP 0 rfl rfl 0 (by decide) (hts (.fieldLink RX1 26 "LinkedIndexModel" "code" "I") (wm mb_47)) (fun _ h9 => h9) rfl dX1_begin_39 ?_
            refine lv_if_ne (tgt := 69) hx hb dX1_begin_42 (by decide) (fun h9 => ?_) (fun h9 => ?_)
            · skip
              first | exact absurd h9 (by decide) | exact (h9 rfl).elim
            · skip
              refine lv_aload_n hx hb dX1_begin_45 rfl (lv_at hl 0 rfl) ?_
              refine va_get (D := D) (ci := 1) (v := .ref (b 3)) (C := RX1) (T := TX1) (N := 7) hx hb hts (fun w h => wm (ui_X1 w h)) hown hK hP 0 rfl rfl 4 (by decide) (hts (.fieldLink RX1 16 "LinkedIndexModel" "kinds" "[I") (wm mb_52)) (fun _ h9 => h9) rfl dX1_begin_46 ?_
              refine lv_iload_n hx hb dX1_begin_49 rfl (lv_at hl 1 rfl) ?_
              refine lv_iload_n hx hb dX1_begin_50 rfl (lv_at hl 2 rfl) ?_
              refine lv_iconst (v := 1) hx hb dX1_begin_51 (by decide) ?_
              refine lv_iadd hx hb dX1_begin_52 ?_
              refine x_iast (j := j) hx hb hK hP hD hS 3 2 rfl rfl hj (by decide) dX1_begin_53 (fun H locs hP hD hS => ?_)
              have hP : va_P D vwCl (wM b g 0 n K V (upd (fun i9 => kd i9 + 1) j (kind + 1)) SK SV) H := hP
              have hD : va_D A (wM b g 0 n K V (upd (fun i9 => kd i9 + 1) j (kind + 1)) SK SV) := hD
              refine lv_aload_n hx hb dX1_begin_54 rfl (lv_at hl 0 rfl) ?_
              refine va_get (D := D) (ci := 1) (v := .ref (b 4)) (C := RX1) (T := TX1) (N := 7) hx hb hts (fun w h => wm (ui_X1 w h)) hown hK hP 0 rfl rfl 5 (by decide) (hts (.fieldLink RX1 20 "LinkedIndexModel" "asked" "[J") (wm mb_53)) (fun _ h9 => h9) rfl dX1_begin_55 ?_
              refine lv_iload_n hx hb dX1_begin_58 rfl (lv_at hl 1 rfl) ?_
              refine lv_lload_n hx hb dX1_begin_59 rfl (lv_at hl 3 rfl) ?_
              refine x_last (j := j) hx hb hK hP hD hS 4 3 rfl rfl hj (by decide) dX1_begin_60 (fun H locs hP hD hS => ?_)
              have hP : va_P D vwCl (wM b g 0 n K V (upd (fun i9 => kd i9 + 1) j (kind + 1)) (vp_updL SK j key) SV) H := hP
              have hD : va_D A (wM b g 0 n K V (upd (fun i9 => kd i9 + 1) j (kind + 1)) (vp_updL SK j key) SV) := hD
              refine lv_aload_n hx hb dX1_begin_61 rfl (lv_at hl 0 rfl) ?_
              refine va_get (D := D) (ci := 1) (v := .ref (b 5)) (C := RX1) (T := TX1) (N := 7) hx hb hts (fun w h => wm (ui_X1 w h)) hown hK hP 0 rfl rfl 6 (by decide) (hts (.fieldLink RX1 23 "LinkedIndexModel" "given" "[J") (wm mb_54)) (fun _ h9 => h9) rfl dX1_begin_62 ?_
              refine lv_iload_n hx hb dX1_begin_65 rfl (lv_at hl 1 rfl) ?_
              refine lv_lload hx hb dX1_begin_66 (lv_at hl 4 rfl) ?_
              refine x_last (j := j) hx hb hK hP hD hS 5 4 rfl rfl hj (by decide) dX1_begin_68 (fun H locs hP hD hS => ?_)
              have hP : va_P D vwCl (wM b g 0 n K V (upd (fun i9 => kd i9 + 1) j (kind + 1)) (vp_updL SK j key) (vp_updL SV j value)) H := hP
              have hD : va_D A (wM b g 0 n K V (upd (fun i9 => kd i9 + 1) j (kind + 1)) (vp_updL SK j key) (vp_updL SV j value)) := hD
              have e1 : kdB (nI j) kind kd = upd kd j kind := by unfold kdB; rw [e0, ix_n hj]; rfl
              have e2 : svB (nI j) kind kd key SK = vp_updL SK j key := by unfold svB; rw [e0, ix_n hj]; rfl
              have e3 : svB (nI j) kind kd value SV = vp_updL SV j value := by unfold svB; rw [e0, ix_n hj]; rfl
              rw [e0, e1, e2, e3, ← upd_1]
              exact fn_v hx hb hr hlocks (by decide) (by decide) trivial hP hK hD hS dX1_begin_69
          · skip
            have h3 : ¬ kd j = -1 := fun q => h3 (by rw [q]; decide)
            refine lv_iconst (v := 2) hx hb dX1_begin_30 (by decide) ?_
            refine lv_goto (tgt := 35) hx hb dX1_begin_31 (by decide) ?_
            refine va_put (D := D) (ci := 1) (v := .int 2) (ty := .int) (C := RX1) (T := TX1) (N := 7) hx hb hts (fun w h => wm (ui_X1 w h)) tyX1 tyX1_ok nmX1 hown hK hP hD hS 0 rfl rfl 0 (by decide) (hts (.fieldLink RX1 26 "LinkedIndexModel" "code" "I") (wm mb_47)) (fun _ h9 => h9) rfl (by decide +kernel) rfl rfl (Nat.le_of_ble_eq_true rfl) dX1_begin_35 (fun H locs hP hD hS => ?_)
            have hP : va_P D vwCl (wM b g 2 n K V (fun i9 => kd i9 + 1) SK SV) H := hP
            have hD : va_D A (wM b g 2 n K V (fun i9 => kd i9 + 1) SK SV) := hD
            have e0 : cdB (nI j) kind kd = 2 := cdB_2 ⟨okS_n hj, h1, h2⟩ (by rw [ix_n hj]; exact h3)
            refine lv_aload_n hx hb dX1_begin_38 rfl (lv_at hl 0 rfl) ?_
            refine va_get (D := D) (ci := 1) (v := .int 2) (C := RX1) (T := TX1) (N := 7) hx hb hts (fun w h => wm (ui_X1 w h)) hown hK hP 0 rfl rfl 0 (by decide) (hts (.fieldLink RX1 26 "LinkedIndexModel" "code" "I") (wm mb_47)) (fun _ h9 => h9) rfl dX1_begin_39 ?_
            refine lv_if_ne (tgt := 69) hx hb dX1_begin_42 (by decide) (fun h9 => ?_) (fun h9 => ?_)
            · skip
              have e1 : kdB (nI j) kind kd = kd := by unfold kdB; rw [e0]; rfl
              have e2 : svB (nI j) kind kd key SK = SK := by unfold svB; rw [e0]; rfl
              have e3 : svB (nI j) kind kd value SV = SV := by unfold svB; rw [e0]; rfl
              rw [e0, e1, e2, e3]
              exact fn_v hx hb hr hlocks (by decide) (by decide) trivial hP hK hD hS dX1_begin_69
            · skip
              first | exact absurd h9 (by decide) | exact (h9 rfl).elim
        · skip
          refine lv_iconst (v := 1) hx hb dX1_begin_17 (by decide) ?_
          refine lv_goto (tgt := 35) hx hb dX1_begin_18 (by decide) ?_
          refine va_put (D := D) (ci := 1) (v := .int 1) (ty := .int) (C := RX1) (T := TX1) (N := 7) hx hb hts (fun w h => wm (ui_X1 w h)) tyX1 tyX1_ok nmX1 hown hK hP hD hS 0 rfl rfl 0 (by decide) (hts (.fieldLink RX1 26 "LinkedIndexModel" "code" "I") (wm mb_47)) (fun _ h9 => h9) rfl (by decide +kernel) rfl rfl (Nat.le_of_ble_eq_true rfl) dX1_begin_35 (fun H locs hP hD hS => ?_)
          have hP : va_P D vwCl (wM b g 1 n K V (fun i9 => kd i9 + 1) SK SV) H := hP
          have hD : va_D A (wM b g 1 n K V (fun i9 => kd i9 + 1) SK SV) := hD
          have e0 : cdB slot kind kd = 1 := cdB_1 (fun q => h2 q.2.2)
          refine lv_aload_n hx hb dX1_begin_38 rfl (lv_at hl 0 rfl) ?_
          refine va_get (D := D) (ci := 1) (v := .int 1) (C := RX1) (T := TX1) (N := 7) hx hb hts (fun w h => wm (ui_X1 w h)) hown hK hP 0 rfl rfl 0 (by decide) (hts (.fieldLink RX1 26 "LinkedIndexModel" "code" "I") (wm mb_47)) (fun _ h9 => h9) rfl dX1_begin_39 ?_
          refine lv_if_ne (tgt := 69) hx hb dX1_begin_42 (by decide) (fun h9 => ?_) (fun h9 => ?_)
          · skip
            have e1 : kdB slot kind kd = kd := by unfold kdB; rw [e0]; rfl
            have e2 : svB slot kind kd key SK = SK := by unfold svB; rw [e0]; rfl
            have e3 : svB slot kind kd value SV = SV := by unfold svB; rw [e0]; rfl
            rw [e0, e1, e2, e3]
            exact fn_v hx hb hr hlocks (by decide) (by decide) trivial hP hK hD hS dX1_begin_69
          · skip
            first | exact absurd h9 (by decide) | exact (h9 rfl).elim
  · skip
    rw [if_neg hs] at hp
    subst hp
    refine lv_if_eq (tgt := 17) hx hb dX1_begin_5 (by decide) (fun h0 => ?_) (fun h0 => ?_)
    · skip
      refine lv_iconst (v := 1) hx hb dX1_begin_17 (by decide) ?_
      refine lv_goto (tgt := 35) hx hb dX1_begin_18 (by decide) ?_
      refine va_put (D := D) (ci := 1) (v := .int 1) (ty := .int) (C := RX1) (T := TX1) (N := 7) hx hb hts (fun w h => wm (ui_X1 w h)) tyX1 tyX1_ok nmX1 hown hK hP hD hS 0 rfl rfl 0 (by decide) (hts (.fieldLink RX1 26 "LinkedIndexModel" "code" "I") (wm mb_47)) (fun _ h9 => h9) rfl (by decide +kernel) rfl rfl (Nat.le_of_ble_eq_true rfl) dX1_begin_35 (fun H locs hP hD hS => ?_)
      have hP : va_P D vwCl (wM b g 1 n K V (fun i9 => kd i9 + 1) SK SV) H := hP
      have hD : va_D A (wM b g 1 n K V (fun i9 => kd i9 + 1) SK SV) := hD
      have e0 : cdB slot kind kd = 1 := cdB_1 (fun q => hs q.1)
      refine lv_aload_n hx hb dX1_begin_38 rfl (lv_at hl 0 rfl) ?_
      refine va_get (D := D) (ci := 1) (v := .int 1) (C := RX1) (T := TX1) (N := 7) hx hb hts (fun w h => wm (ui_X1 w h)) hown hK hP 0 rfl rfl 0 (by decide) (hts (.fieldLink RX1 26 "LinkedIndexModel" "code" "I") (wm mb_47)) (fun _ h9 => h9) rfl dX1_begin_39 ?_
      refine lv_if_ne (tgt := 69) hx hb dX1_begin_42 (by decide) (fun h9 => ?_) (fun h9 => ?_)
      · skip
        have e1 : kdB slot kind kd = kd := by unfold kdB; rw [e0]; rfl
        have e2 : svB slot kind kd key SK = SK := by unfold svB; rw [e0]; rfl
        have e3 : svB slot kind kd value SV = SV := by unfold svB; rw [e0]; rfl
        rw [e0, e1, e2, e3]
        exact fn_v hx hb hr hlocks (by decide) (by decide) trivial hP hK hD hS dX1_begin_69
      · skip
        first | exact absurd h9 (by decide) | exact (h9 rfl).elim
    · skip
      first | exact absurd h0 (by decide) | exact (h0 rfl).elim
set_option maxHeartbeats 1000000 in
set_option maxRecDepth 100000 in
theorem m_step (l : Launch) (hl9 : l.stackTraces = false) (D : va_G) (b : Nat → Nat) (g : Nat → ClassId) (cd : Int32) (n : Nat) (K V : Nat → Int64) (kd : Nat → Int32) (SK SV : Nat → Int64) (slot x : Int32) (sz : Nat) (hk : ∀ j, j < 8 → kOk (kd j)) : Met l yX1_step wsX1_step ({ frames := 1, cells := 0, slots := 0, locals := 20 }) (cP D (tM g) (wM b g cd n K V (fun i9 => kd i9 + 1) SK SV) [.ref (b 0), .int slot, .int x] sz) (cQv D (tM g) True (wM b g (cdT slot x kd) n K V (fun i9 => kd i9 + 1) SK SV) (va_A (wM b g cd n K V (fun i9 => kd i9 + 1) SK SV) sz)) 0 0 (va_A (wM b g cd n K V (fun i9 => kd i9 + 1) SK SV) sz) := by
  refine mk_n (cc := cX1_step) (maxL := 3) (ret := none) (fun A => cQv D (tM g) True (wM b g (cdT slot x kd) n K V (fun i9 => kd i9 + 1) SK SV) A) (by decide) rfl (Nat.le_of_ble_eq_true rfl) ?_
  intro p e s m below meth c ls A hx hb hr hml hlocks hnm hown hts hP hK hD hZ hA hS hl
  have hown : s.vm.findClass RX1 = some m.cls := hown
  have hl : lv_has ls 3 [(0, .ref (b 0)), (1, .int slot), (2, .int x)] := hl
  refine lv_aload_n hx hb dX1_step_0 rfl (lv_at hl 0 rfl) ?_
  refine lv_iload_n hx hb dX1_step_1 rfl (lv_at hl 1 rfl) ?_
  refine kn_i (wc := []) (wr := (wM b g cd n K V (fun i9 => kd i9 + 1) SK SV)) (w1 := []) (va_runS (As := [.int slot]) (rest := [.ref (b 0)]) ⟨hx, hb, hml, hown, hts⟩ (m_isSlot l hl9 D slot s.heap.size) (va_cwS 1 hts (gd_up (gd_S mb_48 mb_49 mb_50 mb_51)) rfl rfl rfl (by decide +kernel) ⟨by decide, by decide⟩) ⟨cP_blind, cPre hP hD hK hS hA hZ [] rfl (by decide) [] rfl⟩ rfl rfl hl.1 rfl (lv_room (Nat.le_of_ble_eq_true rfl)) dX1_step_2 ⟨by decide, by decide⟩) hP hD hS hA [] [0, 1, 2, 3, 4, 5] rfl rfl (by decide) (by decide) (fun r9 H locs hp hP hD hS => ?_)
  have hP : va_P D vwCl (wM b g cd n K V (fun i9 => kd i9 + 1) SK SV) H := hP
  have hD : va_D A (wM b g cd n K V (fun i9 => kd i9 + 1) SK SV) := hD
  by_cases hs : okS slot
  · skip
    rw [if_pos hs] at hp
    subst hp
    refine lv_if_eq (tgt := 18) hx hb dX1_step_5 (by decide) (fun h0 => ?_) (fun h0 => ?_)
    · skip
      first | exact absurd h0 (by decide) | exact (h0 rfl).elim
    · skip
      refine lv_iload_n hx hb dX1_step_8 rfl (lv_at hl 2 rfl) ?_
      refine lv_if_lt (tgt := 18) hx hb dX1_step_9 (by decide) (fun h1 => ?_) (fun h1 => ?_)
      · skip
        refine lv_iconst (v := 1) hx hb dX1_step_18 (by decide) ?_
        refine lv_goto (tgt := 36) hx hb dX1_step_19 (by decide) ?_
        refine va_put (D := D) (ci := 1) (v := .int 1) (ty := .int) (C := RX1) (T := TX1) (N := 7) hx hb hts (fun w h => wm (ui_X1 w h)) tyX1 tyX1_ok nmX1 hown hK hP hD hS 0 rfl rfl 0 (by decide) (hts (.fieldLink RX1 26 "LinkedIndexModel" "code" "I") (wm mb_47)) (fun _ h9 => h9) rfl (by decide +kernel) rfl rfl (Nat.le_of_ble_eq_true rfl) dX1_step_36 (fun H locs hP hD hS => ?_)
        have hP : va_P D vwCl (wM b g 1 n K V (fun i9 => kd i9 + 1) SK SV) H := hP
        have hD : va_D A (wM b g 1 n K V (fun i9 => kd i9 + 1) SK SV) := hD
        rw [show cdT slot x kd = 1 from cdT_1 (fun q => q.2.1 h1)]
        exact fn_v hx hb hr hlocks (by decide) (by decide) trivial hP hK hD hS dX1_step_39
      · skip
        refine lv_iload_n hx hb dX1_step_12 rfl (lv_at hl 2 rfl) ?_
        refine lv_bipush (v := 20) hx hb dX1_step_13 (by decide) ?_
        refine lv_icmp_le (tgt := 22) hx hb dX1_step_15 (by decide) (fun h2 => ?_) (fun h2 => ?_)
        · skip
          obtain ⟨j, hj, rfl⟩ := okS_of hs
          refine lv_aload_n hx hb dX1_step_22 rfl (lv_at hl 0 rfl) ?_
          refine va_get (D := D) (ci := 1) (v := .ref (b 3)) (C := RX1) (T := TX1) (N := 7) hx hb hts (fun w h => wm (ui_X1 w h)) hown hK hP 0 rfl rfl 4 (by decide) (hts (.fieldLink RX1 16 "LinkedIndexModel" "kinds" "[I") (wm mb_52)) (fun _ h9 => h9) rfl dX1_step_23 ?_
          refine lv_iload_n hx hb dX1_step_26 rfl (lv_at hl 1 rfl) ?_
          refine x_iald (j := j) hx hb hK hP 3 2 rfl rfl hj (by decide) dX1_step_27 ?_
          refine lv_if_ne (tgt := 35) hx hb dX1_step_28 (by decide) (fun h3 => ?_) (fun h3 => ?_)
          · skip
            refine lv_iconst (v := 0) hx hb dX1_step_35 (by decide) ?_
            refine va_put (D := D) (ci := 1) (v := .int 0) (ty := .int) (C := RX1) (T := TX1) (N := 7) hx hb hts (fun w h => wm (ui_X1 w h)) tyX1 tyX1_ok nmX1 hown hK hP hD hS 0 rfl rfl 0 (by decide) (hts (.fieldLink RX1 26 "LinkedIndexModel" "code" "I") (wm mb_47)) (fun _ h9 => h9) rfl (by decide +kernel) rfl rfl (Nat.le_of_ble_eq_true rfl) dX1_step_36 (fun H locs hP hD hS => ?_)
            have hP : va_P D vwCl (wM b g 0 n K V (fun i9 => kd i9 + 1) SK SV) H := hP
            have hD : va_D A (wM b g 0 n K V (fun i9 => kd i9 + 1) SK SV) := hD
            rw [show cdT (nI j) x kd = 0 from cdT_0 ⟨okS_n hj, h1, h2⟩ (by rw [ix_n hj]; exact fun q => h3 ((kOk_nz (hk j hj)).mpr q))]
            exact fn_v hx hb hr hlocks (by decide) (by decide) trivial hP hK hD hS dX1_step_39
          · skip
            refine lv_iconst (v := 2) hx hb dX1_step_31 (by decide) ?_
            refine lv_goto (tgt := 36) hx hb dX1_step_32 (by decide) ?_
            refine va_put (D := D) (ci := 1) (v := .int 2) (ty := .int) (C := RX1) (T := TX1) (N := 7) hx hb hts (fun w h => wm (ui_X1 w h)) tyX1 tyX1_ok nmX1 hown hK hP hD hS 0 rfl rfl 0 (by decide) (hts (.fieldLink RX1 26 "LinkedIndexModel" "code" "I") (wm mb_47)) (fun _ h9 => h9) rfl (by decide +kernel) rfl rfl (Nat.le_of_ble_eq_true rfl) dX1_step_36 (fun H locs hP hD hS => ?_)
            have hP : va_P D vwCl (wM b g 2 n K V (fun i9 => kd i9 + 1) SK SV) H := hP
            have hD : va_D A (wM b g 2 n K V (fun i9 => kd i9 + 1) SK SV) := hD
            rw [show cdT (nI j) x kd = 2 from cdT_2 ⟨okS_n hj, h1, h2⟩ (by rw [ix_n hj]; exact (kOk_nz (hk j hj)).mp h3)]
            exact fn_v hx hb hr hlocks (by decide) (by decide) trivial hP hK hD hS dX1_step_39
        · skip
          refine lv_iconst (v := 1) hx hb dX1_step_18 (by decide) ?_
          refine lv_goto (tgt := 36) hx hb dX1_step_19 (by decide) ?_
          refine va_put (D := D) (ci := 1) (v := .int 1) (ty := .int) (C := RX1) (T := TX1) (N := 7) hx hb hts (fun w h => wm (ui_X1 w h)) tyX1 tyX1_ok nmX1 hown hK hP hD hS 0 rfl rfl 0 (by decide) (hts (.fieldLink RX1 26 "LinkedIndexModel" "code" "I") (wm mb_47)) (fun _ h9 => h9) rfl (by decide +kernel) rfl rfl (Nat.le_of_ble_eq_true rfl) dX1_step_36 (fun H locs hP hD hS => ?_)
          have hP : va_P D vwCl (wM b g 1 n K V (fun i9 => kd i9 + 1) SK SV) H := hP
          have hD : va_D A (wM b g 1 n K V (fun i9 => kd i9 + 1) SK SV) := hD
          rw [show cdT slot x kd = 1 from cdT_1 (fun q => h2 q.2.2)]
          exact fn_v hx hb hr hlocks (by decide) (by decide) trivial hP hK hD hS dX1_step_39
  · skip
    rw [if_neg hs] at hp
    subst hp
    refine lv_if_eq (tgt := 18) hx hb dX1_step_5 (by decide) (fun h0 => ?_) (fun h0 => ?_)
    · skip
      refine lv_iconst (v := 1) hx hb dX1_step_18 (by decide) ?_
      refine lv_goto (tgt := 36) hx hb dX1_step_19 (by decide) ?_
      refine va_put (D := D) (ci := 1) (v := .int 1) (ty := .int) (C := RX1) (T := TX1) (N := 7) hx hb hts (fun w h => wm (ui_X1 w h)) tyX1 tyX1_ok nmX1 hown hK hP hD hS 0 rfl rfl 0 (by decide) (hts (.fieldLink RX1 26 "LinkedIndexModel" "code" "I") (wm mb_47)) (fun _ h9 => h9) rfl (by decide +kernel) rfl rfl (Nat.le_of_ble_eq_true rfl) dX1_step_36 (fun H locs hP hD hS => ?_)
      have hP : va_P D vwCl (wM b g 1 n K V (fun i9 => kd i9 + 1) SK SV) H := hP
      have hD : va_D A (wM b g 1 n K V (fun i9 => kd i9 + 1) SK SV) := hD
      rw [show cdT slot x kd = 1 from cdT_1 (fun q => hs q.1)]
      exact fn_v hx hb hr hlocks (by decide) (by decide) trivial hP hK hD hS dX1_step_39
    · skip
      first | exact absurd h0 (by decide) | exact (h0 rfl).elim
set_option maxHeartbeats 1000000 in
set_option maxRecDepth 100000 in
theorem m_rank (l : Launch) (hl9 : l.stackTraces = false) (D : va_G) (b : Nat → Nat) (g : Nat → ClassId) (cd : Int32) (n : Nat) (K V : Nat → Int64) (kd : Nat → Int32) (SK SV : Nat → Int64) (key : Int64) (sz : Nat) (hn : n ≤ 100) : Met l yX1_rank wsX1_rank ({ frames := 0, cells := 0, slots := 0, locals := 0 }) (cP D (tM g) (wM b g cd n K V (fun i9 => kd i9 + 1) SK SV) [.ref (b 0), .long key] sz) (cQi D (tM g) (fun r => r = nI (rk K key n)) (wM b g cd n K V (fun i9 => kd i9 + 1) SK SV) (va_A (wM b g cd n K V (fun i9 => kd i9 + 1) SK SV) sz)) 0 0 (va_A (wM b g cd n K V (fun i9 => kd i9 + 1) SK SV) sz) := by
  refine mk_n (cc := cX1_rank) (maxL := 4) (ret := (some .int)) (fun A => cQi D (tM g) (fun r => r = nI (rk K key n)) (wM b g cd n K V (fun i9 => kd i9 + 1) SK SV) A) (by decide) rfl (Nat.le_of_ble_eq_true rfl) ?_
  intro p e s m below meth c ls A hx hb hr hml hlocks hnm hown hts hP hK hD hZ hA hS hl
  have hown : s.vm.findClass RX1 = some m.cls := hown
  have hl : lv_has ls 4 [(0, .ref (b 0)), (1, .long key)] := hl
  refine lv_iconst (v := 0) hx hb dX1_rank_0 (by decide) ?_
  refine lv_istore_n (lv' := [(3, .int 0), (0, .ref (b 0)), (1, .long key)]) hx hb dX1_rank_1 rfl hl (by decide) rfl (fun ls hl => ?_)
  have loop : ∀ (f i : Nat), n - i < f → i ≤ n → rkF K key (n - i) i = rk K key n → ∀ ls : Array Slot, lv_has ls 4 [(3, .int (nI i)), (0, .ref (b 0)), (1, .long key)] → W p l e ({ frames := 0, cells := 0, slots := 0, locals := 0 }) s m ([.ref (b 0), .long key] : List Value).toArray below meth c s.heap [] 0 0 (MQ below (cQi D (tM g) (fun r => r = nI (rk K key n)) (wM b g cd n K V (fun i9 => kd i9 + 1) SK SV) A) ([.ref (b 0), .long key] : List Value).toArray s 0 0 A) (F0 m 2 ls []) := by
    intro f
    induction f with
    | zero => intro i hf; omega
    | succ f ih =>
      intro i hf hi hk ls hl
      refine lv_iload_n hx hb dX1_rank_2 rfl (lv_at hl 0 rfl) ?_
      refine lv_aload_n hx hb dX1_rank_3 rfl (lv_at hl 1 rfl) ?_
      refine va_get (D := D) (ci := 1) (v := .int (nI n)) (C := RX1) (T := TX1) (N := 7) hx hb hts (fun w h => wm (ui_X1 w h)) hown hK hP 0 rfl rfl 1 (by decide) (hts (.fieldLink RX1 34 "LinkedIndexModel" "size" "I") (wm mb_55)) (fun _ h9 => h9) rfl dX1_rank_4 ?_
      refine lv_icmp_ge (tgt := 27) hx hb dX1_rank_7 (by decide) (fun h1 => ?_) (fun h1 => ?_)
      · skip
        have h1 : n ≤ i := (nI_leI (by omega) (by omega)).mp h1
        refine lv_iload_n hx hb dX1_rank_27 rfl (lv_at hl 0 rfl) ?_
        exact fn_i hx hb hr hlocks (by decide) (by decide) (by rw [← hk, rkF_z h1]) hP hK hD hS dX1_rank_28
      · skip
        have h1 : i < n := Nat.lt_of_not_le (fun q => h1 ((nI_leI (by omega) (by omega)).mpr q))
        refine lv_aload_n hx hb dX1_rank_10 rfl (lv_at hl 1 rfl) ?_
        refine va_get (D := D) (ci := 1) (v := .ref (b 1)) (C := RX1) (T := TX1) (N := 7) hx hb hts (fun w h => wm (ui_X1 w h)) hown hK hP 0 rfl rfl 2 (by decide) (hts (.fieldLink RX1 7 "LinkedIndexModel" "keys" "[J") (wm mb_56)) (fun _ h9 => h9) rfl dX1_rank_11 ?_
        refine lv_iload_n hx hb dX1_rank_14 rfl (lv_at hl 0 rfl) ?_
        refine x_lald (j := i) hx hb hK hP 1 0 rfl rfl (by omega) (by decide) dX1_rank_15 ?_
        refine lv_lload_n hx hb dX1_rank_16 rfl (lv_at hl 2 rfl) ?_
        refine W.lcmp hx hb dX1_rank_17 ?_
        refine lv_if_ge (tgt := 27) hx hb dX1_rank_18 (by decide) (fun h2 => ?_) (fun h2 => ?_)
        · skip
          have h2 : ¬ K i < key := fun q => i64_nltle q ((lg_cmp_ge _ _).mp h2)
          refine lv_iload_n hx hb dX1_rank_27 rfl (lv_at hl 0 rfl) ?_
          exact fn_i hx hb hr hlocks (by decide) (by decide) (by rw [← hk, rkF_e h1 h2]) hP hK hD hS dX1_rank_28
        · skip
          have h2 : K i < key := i64_nle (fun q => h2 ((lg_cmp_ge _ _).mpr q))
          refine lv_iinc (k := 0) (v := nI (i + 1)) (lv' := [(3, .int (nI (i + 1))), (0, .ref (b 0)), (1, .long key)]) hx hb dX1_rank_21 hl rfl (by rw [show Int32.ofInt 1 = 1 from by decide]; exact nI_1 _) (by decide) rfl (fun ls hl => ?_)
          refine lv_goto (tgt := 2) hx hb dX1_rank_24 (by decide) ?_
          exact ih (i + 1) (by omega) (by omega) (by rw [← rkF_s h1 h2]; exact hk) ls hl
  exact loop (n + 1) 0 (by omega) (by omega) rfl ls hl
set_option maxHeartbeats 1000000 in
set_option maxRecDepth 100000 in
theorem m_put (l : Launch) (hl9 : l.stackTraces = false) (D : va_G) (b : Nat → Nat) (g : Nat → ClassId) (cd : Int32) (n : Nat) (K V : Nat → Int64) (kd : Nat → Int32) (SK SV : Nat → Int64) (r : Nat) (t : Int32) (key val : Int64) (sz : Nat) (hr9 : r ≤ n) (hn : n ≤ 100) (ht : t = (if atR K n key r then 1 else 0)) (hf9 : atR K n key r ∨ n < 100) : Met l yX1_put wsX1_put ({ frames := 0, cells := 0, slots := 0, locals := 0 }) (cP D (tM g) (wM b g cd n K V (fun i9 => kd i9 + 1) SK SV) [.ref (b 0), .int (nI r), .int t, .long key, .long val] sz) (cQl D (tM g) (fun v => v = (if atR K n key r then 1 else 0)) (wM b g cd (fpN n K key r) (fpK n K key r) (fpV n K V key val r) (fun i9 => kd i9 + 1) SK SV) (va_A (wM b g cd n K V (fun i9 => kd i9 + 1) SK SV) sz)) 0 0 (va_A (wM b g cd n K V (fun i9 => kd i9 + 1) SK SV) sz) := by
  refine mk_n (cc := cX1_put) (maxL := 8) (ret := (some .long)) (fun A => cQl D (tM g) (fun v => v = (if atR K n key r then 1 else 0)) (wM b g cd (fpN n K key r) (fpK n K key r) (fpV n K V key val r) (fun i9 => kd i9 + 1) SK SV) A) (by decide) rfl (Nat.le_of_ble_eq_true rfl) ?_
  intro p e s m below meth c ls A hx hb hr hml hlocks hnm hown hts hP hK hD hZ hA hS hl
  have hown : s.vm.findClass RX1 = some m.cls := hown
  have hl : lv_has ls 8 [(0, .ref (b 0)), (1, .int (nI r)), (2, .int t), (3, .long key), (5, .long val)] := hl
  by_cases h4 : atR K n key r
  · skip
    have hlt := h4.1
    rw [if_pos h4] at ht
    subst ht
    refine lv_iload_n hx hb dX1_put_0 rfl (lv_at hl 2 rfl) ?_
    refine lv_if_eq (tgt := 14) hx hb dX1_put_1 (by decide) (fun h0 => ?_) (fun h0 => ?_)
    · skip
      first | exact absurd h0 (by decide) | exact (h0 rfl).elim
    · skip
      refine lv_aload_n hx hb dX1_put_4 rfl (lv_at hl 0 rfl) ?_
      refine va_get (D := D) (ci := 1) (v := .ref (b 2)) (C := RX1) (T := TX1) (N := 7) hx hb hts (fun w h => wm (ui_X1 w h)) hown hK hP 0 rfl rfl 3 (by decide) (hts (.fieldLink RX1 13 "LinkedIndexModel" "values" "[J") (wm mb_57)) (fun _ h9 => h9) rfl dX1_put_5 ?_
      refine lv_iload_n hx hb dX1_put_8 rfl (lv_at hl 1 rfl) ?_
      refine lv_lload hx hb dX1_put_9 (lv_at hl 4 rfl) ?_
      refine x_last (j := r) hx hb hK hP hD hS 2 1 rfl rfl (by omega) (by decide) dX1_put_11 (fun H locs hP hD hS => ?_)
      have hP : va_P D vwCl (wM b g cd n K (vp_updL V r val) (fun i9 => kd i9 + 1) SK SV) H := hP
      have hD : va_D A (wM b g cd n K (vp_updL V r val) (fun i9 => kd i9 + 1) SK SV) := hD
      refine lv_lconst (v := 1) hx hb dX1_put_12 (by decide) ?_
      have e1 : fpN n K key r = n := if_pos h4
      have e2 : fpK n K key r = K := if_pos h4
      have e3 : fpV n K V key val r = vp_updL V r val := by unfold fpV; rw [if_pos h4]
      rw [e1, e2, e3, if_pos h4]
      exact fn_l hx hb hr hlocks (by decide) (by decide) rfl hP hK hD hS dX1_put_13
  · skip
    have h5 : n < 100 := hf9.resolve_left h4
    rw [if_neg h4] at ht
    subst ht
    refine lv_iload_n hx hb dX1_put_0 rfl (lv_at hl 2 rfl) ?_
    refine lv_if_eq (tgt := 14) hx hb dX1_put_1 (by decide) (fun h0 => ?_) (fun h0 => ?_)
    · skip
      refine lv_aload_n hx hb dX1_put_14 rfl (lv_at hl 0 rfl) ?_
      refine va_get (D := D) (ci := 1) (v := .int (nI n)) (C := RX1) (T := TX1) (N := 7) hx hb hts (fun w h => wm (ui_X1 w h)) hown hK hP 0 rfl rfl 1 (by decide) (hts (.fieldLink RX1 34 "LinkedIndexModel" "size" "I") (wm mb_55)) (fun _ h9 => h9) rfl dX1_put_15 ?_
      refine lv_istore (lv' := [(7, .int (nI n)), (0, .ref (b 0)), (1, .int (nI r)), (2, .int 0), (3, .long key), (5, .long val)]) hx hb dX1_put_18 hl (by decide) rfl (fun ls hl => ?_)
      have loop : ∀ (d : Nat) (Kc Vc : Nat → Int64) (H : Heap) (locs : List Loc), r + d ≤ n → opF r d Kc = opF r (n - r) K → opF r d Vc = opF r (n - r) V → va_P D vwCl (wM b g cd n Kc Vc (fun i9 => kd i9 + 1) SK SV) H → va_D A (wM b g cd n Kc Vc (fun i9 => kd i9 + 1) SK SV) → va_S A s.heap H locs → ∀ ls : Array Slot, lv_has ls 8 [(7, .int (nI (r + d))), (0, .ref (b 0)), (1, .int (nI r)), (2, .int 0), (3, .long key), (5, .long val)] → W p l e ({ frames := 0, cells := 0, slots := 0, locals := 0 }) s m ([.ref (b 0), .int (nI r), .int 0, .long key, .long val] : List Value).toArray below meth c H locs 0 0 (MQ below (cQl D (tM g) (fun v => v = (if atR K n key r then 1 else 0)) (wM b g cd (fpN n K key r) (fpK n K key r) (fpV n K V key val r) (fun i9 => kd i9 + 1) SK SV) A) ([.ref (b 0), .int (nI r), .int 0, .long key, .long val] : List Value).toArray s 0 0 A) (F0 m 20 ls []) := by
        intro d
        induction d with
        | zero =>
          intro Kc Vc H locs hd e1 e2 hP hD hS ls hl
          have e1 : Kc = opF r (n - r) K := e1
          have e2 : Vc = opF r (n - r) V := e2
          subst e1
          subst e2
          refine lv_iload hx hb dX1_put_20 (lv_at hl 0 rfl) ?_
          refine lv_iload_n hx hb dX1_put_22 rfl (lv_at hl 2 rfl) ?_
          refine lv_icmp_le (tgt := 64) hx hb dX1_put_23 (by decide) (fun h1 => ?_) (fun h1 => ?_)
          · skip
            refine lv_aload_n hx hb dX1_put_64 rfl (lv_at hl 1 rfl) ?_
            refine va_get (D := D) (ci := 1) (v := .ref (b 1)) (C := RX1) (T := TX1) (N := 7) hx hb hts (fun w h => wm (ui_X1 w h)) hown hK hP 0 rfl rfl 2 (by decide) (hts (.fieldLink RX1 7 "LinkedIndexModel" "keys" "[J") (wm mb_56)) (fun _ h9 => h9) rfl dX1_put_65 ?_
            refine lv_iload_n hx hb dX1_put_68 rfl (lv_at hl 2 rfl) ?_
            refine lv_lload_n hx hb dX1_put_69 rfl (lv_at hl 4 rfl) ?_
            refine x_last (j := r) hx hb hK hP hD hS 1 0 rfl rfl (by omega) (by decide) dX1_put_70 (fun H locs hP hD hS => ?_)
            have hP : va_P D vwCl (wM b g cd n (vp_updL (opF r (n - r) K) r key) (opF r (n - r) V) (fun i9 => kd i9 + 1) SK SV) H := hP
            have hD : va_D A (wM b g cd n (vp_updL (opF r (n - r) K) r key) (opF r (n - r) V) (fun i9 => kd i9 + 1) SK SV) := hD
            refine lv_aload_n hx hb dX1_put_71 rfl (lv_at hl 1 rfl) ?_
            refine va_get (D := D) (ci := 1) (v := .ref (b 2)) (C := RX1) (T := TX1) (N := 7) hx hb hts (fun w h => wm (ui_X1 w h)) hown hK hP 0 rfl rfl 3 (by decide) (hts (.fieldLink RX1 13 "LinkedIndexModel" "values" "[J") (wm mb_57)) (fun _ h9 => h9) rfl dX1_put_72 ?_
            refine lv_iload_n hx hb dX1_put_75 rfl (lv_at hl 2 rfl) ?_
            refine lv_lload hx hb dX1_put_76 (lv_at hl 5 rfl) ?_
            refine x_last (j := r) hx hb hK hP hD hS 2 1 rfl rfl (by omega) (by decide) dX1_put_78 (fun H locs hP hD hS => ?_)
            have hP : va_P D vwCl (wM b g cd n (vp_updL (opF r (n - r) K) r key) (vp_updL (opF r (n - r) V) r val) (fun i9 => kd i9 + 1) SK SV) H := hP
            have hD : va_D A (wM b g cd n (vp_updL (opF r (n - r) K) r key) (vp_updL (opF r (n - r) V) r val) (fun i9 => kd i9 + 1) SK SV) := hD
            refine lv_aload_n hx hb dX1_put_79 rfl (lv_at hl 1 rfl) ?_
            refine lv_dup hx hb dX1_put_80 rfl ?_
            refine va_get (D := D) (ci := 1) (v := .int (nI n)) (C := RX1) (T := TX1) (N := 7) hx hb hts (fun w h => wm (ui_X1 w h)) hown hK hP 0 rfl rfl 1 (by decide) (hts (.fieldLink RX1 34 "LinkedIndexModel" "size" "I") (wm mb_55)) (fun _ h9 => h9) rfl dX1_put_81 ?_
            refine lv_iconst (v := 1) hx hb dX1_put_84 (by decide) ?_
            refine lv_iadd hx hb dX1_put_85 ?_
            refine xi (y := nI (n + 1)) (nI_add n 1) ?_
            refine va_put (D := D) (ci := 1) (v := .int (nI (n + 1))) (ty := .int) (C := RX1) (T := TX1) (N := 7) hx hb hts (fun w h => wm (ui_X1 w h)) tyX1 tyX1_ok nmX1 hown hK hP hD hS 0 rfl rfl 1 (by decide) (hts (.fieldLink RX1 34 "LinkedIndexModel" "size" "I") (wm mb_55)) (fun _ h9 => h9) rfl (by decide +kernel) rfl rfl (Nat.le_of_ble_eq_true rfl) dX1_put_86 (fun H locs hP hD hS => ?_)
            have hP : va_P D vwCl (wM b g cd (n + 1) (vp_updL (opF r (n - r) K) r key) (vp_updL (opF r (n - r) V) r val) (fun i9 => kd i9 + 1) SK SV) H := hP
            have hD : va_D A (wM b g cd (n + 1) (vp_updL (opF r (n - r) K) r key) (vp_updL (opF r (n - r) V) r val) (fun i9 => kd i9 + 1) SK SV) := hD
            refine lv_lconst (v := 0) hx hb dX1_put_89 (by decide) ?_
            have e1 : fpN n K key r = n + 1 := if_neg h4
            have e2 : fpK n K key r = vp_updL (opF r (n - r) K) r key := if_neg h4
            have e3 : fpV n K V key val r = vp_updL (opF r (n - r) V) r val := by unfold fpV; rw [if_neg h4]
            rw [e1, e2, e3, if_neg h4]
            exact fn_l hx hb hr hlocks (by decide) (by decide) rfl hP hK hD hS dX1_put_90
          · skip
            exact absurd ((nI_leI (by omega) (by omega)).mpr (Nat.le_refl _)) h1
        | succ d ih =>
          intro Kc Vc H locs hd e1 e2 hP hD hS ls hl
          refine lv_iload hx hb dX1_put_20 (lv_at hl 0 rfl) ?_
          refine lv_iload_n hx hb dX1_put_22 rfl (lv_at hl 2 rfl) ?_
          refine lv_icmp_le (tgt := 64) hx hb dX1_put_23 (by decide) (fun h1 => ?_) (fun h1 => ?_)
          · skip
            exact absurd ((nI_leI (by omega) (by omega)).mp h1) (by omega)
          · skip
            refine lv_aload_n hx hb dX1_put_26 rfl (lv_at hl 1 rfl) ?_
            refine va_get (D := D) (ci := 1) (v := .ref (b 1)) (C := RX1) (T := TX1) (N := 7) hx hb hts (fun w h => wm (ui_X1 w h)) hown hK hP 0 rfl rfl 2 (by decide) (hts (.fieldLink RX1 7 "LinkedIndexModel" "keys" "[J") (wm mb_56)) (fun _ h9 => h9) rfl dX1_put_27 ?_
            refine lv_iload hx hb dX1_put_30 (lv_at hl 0 rfl) ?_
            refine lv_aload_n hx hb dX1_put_32 rfl (lv_at hl 1 rfl) ?_
            refine va_get (D := D) (ci := 1) (v := .ref (b 1)) (C := RX1) (T := TX1) (N := 7) hx hb hts (fun w h => wm (ui_X1 w h)) hown hK hP 0 rfl rfl 2 (by decide) (hts (.fieldLink RX1 7 "LinkedIndexModel" "keys" "[J") (wm mb_56)) (fun _ h9 => h9) rfl dX1_put_33 ?_
            refine lv_iload hx hb dX1_put_36 (lv_at hl 0 rfl) ?_
            refine lv_iconst (v := 1) hx hb dX1_put_38 (by decide) ?_
            refine lv_isub hx hb dX1_put_39 ?_
            refine xi (y := nI (r + d)) (nI_pred _) ?_
            refine x_lald (j := (r + d)) hx hb hK hP 1 0 rfl rfl (by omega) (by decide) dX1_put_40 ?_
            refine x_last (j := (r + d + 1)) hx hb hK hP hD hS 1 0 rfl rfl (by omega) (by decide) dX1_put_41 (fun H locs hP hD hS => ?_)
            have hP : va_P D vwCl (wM b g cd n (vp_updL Kc (r + d + 1) (Kc (r + d))) Vc (fun i9 => kd i9 + 1) SK SV) H := hP
            have hD : va_D A (wM b g cd n (vp_updL Kc (r + d + 1) (Kc (r + d))) Vc (fun i9 => kd i9 + 1) SK SV) := hD
            refine lv_aload_n hx hb dX1_put_42 rfl (lv_at hl 1 rfl) ?_
            refine va_get (D := D) (ci := 1) (v := .ref (b 2)) (C := RX1) (T := TX1) (N := 7) hx hb hts (fun w h => wm (ui_X1 w h)) hown hK hP 0 rfl rfl 3 (by decide) (hts (.fieldLink RX1 13 "LinkedIndexModel" "values" "[J") (wm mb_57)) (fun _ h9 => h9) rfl dX1_put_43 ?_
            refine lv_iload hx hb dX1_put_46 (lv_at hl 0 rfl) ?_
            refine lv_aload_n hx hb dX1_put_48 rfl (lv_at hl 1 rfl) ?_
            refine va_get (D := D) (ci := 1) (v := .ref (b 2)) (C := RX1) (T := TX1) (N := 7) hx hb hts (fun w h => wm (ui_X1 w h)) hown hK hP 0 rfl rfl 3 (by decide) (hts (.fieldLink RX1 13 "LinkedIndexModel" "values" "[J") (wm mb_57)) (fun _ h9 => h9) rfl dX1_put_49 ?_
            refine lv_iload hx hb dX1_put_52 (lv_at hl 0 rfl) ?_
            refine lv_iconst (v := 1) hx hb dX1_put_54 (by decide) ?_
            refine lv_isub hx hb dX1_put_55 ?_
            refine xi (y := nI (r + d)) (nI_pred _) ?_
            refine x_lald (j := (r + d)) hx hb hK hP 2 1 rfl rfl (by omega) (by decide) dX1_put_56 ?_
            refine x_last (j := (r + d + 1)) hx hb hK hP hD hS 2 1 rfl rfl (by omega) (by decide) dX1_put_57 (fun H locs hP hD hS => ?_)
            have hP : va_P D vwCl (wM b g cd n (vp_updL Kc (r + d + 1) (Kc (r + d))) (vp_updL Vc (r + d + 1) (Vc (r + d))) (fun i9 => kd i9 + 1) SK SV) H := hP
            have hD : va_D A (wM b g cd n (vp_updL Kc (r + d + 1) (Kc (r + d))) (vp_updL Vc (r + d + 1) (Vc (r + d))) (fun i9 => kd i9 + 1) SK SV) := hD
            refine lv_iinc (k := 0) (v := nI (r + d)) (lv' := [(7, .int (nI (r + d))), (0, .ref (b 0)), (1, .int (nI r)), (2, .int 0), (3, .long key), (5, .long val)]) hx hb dX1_put_58 hl rfl (by rw [show Int32.ofInt (-1) = -1 from by decide]; exact pk_m1 _) (by decide) rfl (fun ls hl => ?_)
            refine lv_goto (tgt := 20) hx hb dX1_put_61 (by decide) ?_
            exact ih _ _ H locs (by omega) e1 e2 hP hD hS ls hl
      have e9 : r + (n - r) = n := by omega
      have hl : lv_has ls 8 [(7, .int (nI (r + (n - r)))), (0, .ref (b 0)), (1, .int (nI r)), (2, .int 0), (3, .long key), (5, .long val)] := by rw [e9]; exact hl
      exact loop (n - r) K V s.heap [] (by omega) rfl rfl hP hD hS ls hl
    · skip
      first | exact absurd h0 (by decide) | exact (h0 rfl).elim
set_option maxHeartbeats 1000000 in
set_option maxRecDepth 100000 in
theorem m_take (l : Launch) (hl9 : l.stackTraces = false) (D : va_G) (b : Nat → Nat) (g : Nat → ClassId) (cd : Int32) (n : Nat) (K V : Nat → Int64) (kd : Nat → Int32) (SK SV : Nat → Int64) (r : Nat) (sz : Nat) (hr9 : r < n) (hn : n ≤ 100) : Met l yX1_take wsX1_take ({ frames := 0, cells := 0, slots := 0, locals := 0 }) (cP D (tM g) (wM b g cd n K V (fun i9 => kd i9 + 1) SK SV) [.ref (b 0), .int (nI r)] sz) (cQl D (tM g) (fun v => v = V r) (wM b g cd (n - 1) (clF (n - 1 - r) r K) (clF (n - 1 - r) r V) (fun i9 => kd i9 + 1) SK SV) (va_A (wM b g cd n K V (fun i9 => kd i9 + 1) SK SV) sz)) 0 0 (va_A (wM b g cd n K V (fun i9 => kd i9 + 1) SK SV) sz) := by
  refine mk_n (cc := cX1_take) (maxL := 5) (ret := (some .long)) (fun A => cQl D (tM g) (fun v => v = V r) (wM b g cd (n - 1) (clF (n - 1 - r) r K) (clF (n - 1 - r) r V) (fun i9 => kd i9 + 1) SK SV) A) (by decide) rfl (Nat.le_of_ble_eq_true rfl) ?_
  intro p e s m below meth c ls A hx hb hr hml hlocks hnm hown hts hP hK hD hZ hA hS hl
  have hown : s.vm.findClass RX1 = some m.cls := hown
  have hl : lv_has ls 5 [(0, .ref (b 0)), (1, .int (nI r))] := hl
  refine lv_aload_n hx hb dX1_take_0 rfl (lv_at hl 0 rfl) ?_
  refine va_get (D := D) (ci := 1) (v := .ref (b 2)) (C := RX1) (T := TX1) (N := 7) hx hb hts (fun w h => wm (ui_X1 w h)) hown hK hP 0 rfl rfl 3 (by decide) (hts (.fieldLink RX1 13 "LinkedIndexModel" "values" "[J") (wm mb_57)) (fun _ h9 => h9) rfl dX1_take_1 ?_
  refine lv_iload_n hx hb dX1_take_4 rfl (lv_at hl 1 rfl) ?_
  refine x_lald (j := r) hx hb hK hP 2 1 rfl rfl (by omega) (by decide) dX1_take_5 ?_
  refine lv_lstore_n (lv' := [(2, .long (V r)), (0, .ref (b 0)), (1, .int (nI r))]) hx hb dX1_take_6 rfl hl (by decide) rfl (fun ls hl => ?_)
  refine lv_aload_n hx hb dX1_take_7 rfl (lv_at hl 1 rfl) ?_
  refine lv_dup hx hb dX1_take_8 rfl ?_
  refine va_get (D := D) (ci := 1) (v := .int (nI n)) (C := RX1) (T := TX1) (N := 7) hx hb hts (fun w h => wm (ui_X1 w h)) hown hK hP 0 rfl rfl 1 (by decide) (hts (.fieldLink RX1 34 "LinkedIndexModel" "size" "I") (wm mb_55)) (fun _ h9 => h9) rfl dX1_take_9 ?_
  refine lv_iconst (v := 1) hx hb dX1_take_12 (by decide) ?_
  refine lv_isub hx hb dX1_take_13 ?_
  refine xi (y := nI (n - 1)) (pk_sub (a := n) (b := 1) (by omega)) ?_
  refine va_put (D := D) (ci := 1) (v := .int (nI (n - 1))) (ty := .int) (C := RX1) (T := TX1) (N := 7) hx hb hts (fun w h => wm (ui_X1 w h)) tyX1 tyX1_ok nmX1 hown hK hP hD hS 0 rfl rfl 1 (by decide) (hts (.fieldLink RX1 34 "LinkedIndexModel" "size" "I") (wm mb_55)) (fun _ h9 => h9) rfl (by decide +kernel) rfl rfl (Nat.le_of_ble_eq_true rfl) dX1_take_14 (fun H locs hP hD hS => ?_)
  have hP : va_P D vwCl (wM b g cd (n - 1) K V (fun i9 => kd i9 + 1) SK SV) H := hP
  have hD : va_D A (wM b g cd (n - 1) K V (fun i9 => kd i9 + 1) SK SV) := hD
  refine lv_iload_n hx hb dX1_take_17 rfl (lv_at hl 2 rfl) ?_
  refine lv_istore (lv' := [(4, .int (nI r)), (2, .long (V r)), (0, .ref (b 0)), (1, .int (nI r))]) hx hb dX1_take_18 hl (by decide) rfl (fun ls hl => ?_)
  have loop : ∀ (f i : Nat) (Kc Vc : Nat → Int64) (H : Heap) (locs : List Loc), n - 1 - i < f → i ≤ n - 1 → clF (n - 1 - i) i Kc = clF (n - 1 - r) r K → clF (n - 1 - i) i Vc = clF (n - 1 - r) r V → va_P D vwCl (wM b g cd (n - 1) Kc Vc (fun i9 => kd i9 + 1) SK SV) H → va_D A (wM b g cd (n - 1) Kc Vc (fun i9 => kd i9 + 1) SK SV) → va_S A s.heap H locs → ∀ ls : Array Slot, lv_has ls 5 [(4, .int (nI i)), (2, .long (V r)), (0, .ref (b 0)), (1, .int (nI r))] → W p l e ({ frames := 0, cells := 0, slots := 0, locals := 0 }) s m ([.ref (b 0), .int (nI r)] : List Value).toArray below meth c H locs 0 0 (MQ below (cQl D (tM g) (fun v => v = V r) (wM b g cd (n - 1) (clF (n - 1 - r) r K) (clF (n - 1 - r) r V) (fun i9 => kd i9 + 1) SK SV) A) ([.ref (b 0), .int (nI r)] : List Value).toArray s 0 0 A) (F0 m 20 ls []) := by
    intro f
    induction f with
    | zero => intro i Kc Vc H locs hf; omega
    | succ f ih =>
      intro i Kc Vc H locs hf hi e1 e2 hP hD hS ls hl
      refine lv_iload hx hb dX1_take_20 (lv_at hl 0 rfl) ?_
      refine lv_aload_n hx hb dX1_take_22 rfl (lv_at hl 2 rfl) ?_
      refine va_get (D := D) (ci := 1) (v := .int (nI (n - 1))) (C := RX1) (T := TX1) (N := 7) hx hb hts (fun w h => wm (ui_X1 w h)) hown hK hP 0 rfl rfl 1 (by decide) (hts (.fieldLink RX1 34 "LinkedIndexModel" "size" "I") (wm mb_55)) (fun _ h9 => h9) rfl dX1_take_23 ?_
      refine lv_icmp_ge (tgt := 67) hx hb dX1_take_26 (by decide) (fun h1 => ?_) (fun h1 => ?_)
      · skip
        have h1 : n - 1 ≤ i := (nI_leI (by omega) (by omega)).mp h1
        have e0 : n - 1 - i = 0 := by omega
        rw [e0] at e1 e2
        have e1 : Kc = clF (n - 1 - r) r K := e1
        have e2 : Vc = clF (n - 1 - r) r V := e2
        subst e1
        subst e2
        refine lv_lload_n hx hb dX1_take_67 rfl (lv_at hl 1 rfl) ?_
        exact fn_l hx hb hr hlocks (by decide) (by decide) rfl hP hK hD hS dX1_take_68
      · skip
        have h1 : i < n - 1 := Nat.lt_of_not_le (fun q => h1 ((nI_leI (by omega) (by omega)).mpr q))
        refine lv_aload_n hx hb dX1_take_29 rfl (lv_at hl 2 rfl) ?_
        refine va_get (D := D) (ci := 1) (v := .ref (b 1)) (C := RX1) (T := TX1) (N := 7) hx hb hts (fun w h => wm (ui_X1 w h)) hown hK hP 0 rfl rfl 2 (by decide) (hts (.fieldLink RX1 7 "LinkedIndexModel" "keys" "[J") (wm mb_56)) (fun _ h9 => h9) rfl dX1_take_30 ?_
        refine lv_iload hx hb dX1_take_33 (lv_at hl 0 rfl) ?_
        refine lv_aload_n hx hb dX1_take_35 rfl (lv_at hl 2 rfl) ?_
        refine va_get (D := D) (ci := 1) (v := .ref (b 1)) (C := RX1) (T := TX1) (N := 7) hx hb hts (fun w h => wm (ui_X1 w h)) hown hK hP 0 rfl rfl 2 (by decide) (hts (.fieldLink RX1 7 "LinkedIndexModel" "keys" "[J") (wm mb_56)) (fun _ h9 => h9) rfl dX1_take_36 ?_
        refine lv_iload hx hb dX1_take_39 (lv_at hl 0 rfl) ?_
        refine lv_iconst (v := 1) hx hb dX1_take_41 (by decide) ?_
        refine lv_iadd hx hb dX1_take_42 ?_
        refine xi (y := nI (i + 1)) (nI_add i 1) ?_
        refine x_lald (j := (i + 1)) hx hb hK hP 1 0 rfl rfl (by omega) (by decide) dX1_take_43 ?_
        refine x_last (j := i) hx hb hK hP hD hS 1 0 rfl rfl (by omega) (by decide) dX1_take_44 (fun H locs hP hD hS => ?_)
        have hP : va_P D vwCl (wM b g cd (n - 1) (vp_updL Kc i (Kc (i + 1))) Vc (fun i9 => kd i9 + 1) SK SV) H := hP
        have hD : va_D A (wM b g cd (n - 1) (vp_updL Kc i (Kc (i + 1))) Vc (fun i9 => kd i9 + 1) SK SV) := hD
        refine lv_aload_n hx hb dX1_take_45 rfl (lv_at hl 2 rfl) ?_
        refine va_get (D := D) (ci := 1) (v := .ref (b 2)) (C := RX1) (T := TX1) (N := 7) hx hb hts (fun w h => wm (ui_X1 w h)) hown hK hP 0 rfl rfl 3 (by decide) (hts (.fieldLink RX1 13 "LinkedIndexModel" "values" "[J") (wm mb_57)) (fun _ h9 => h9) rfl dX1_take_46 ?_
        refine lv_iload hx hb dX1_take_49 (lv_at hl 0 rfl) ?_
        refine lv_aload_n hx hb dX1_take_51 rfl (lv_at hl 2 rfl) ?_
        refine va_get (D := D) (ci := 1) (v := .ref (b 2)) (C := RX1) (T := TX1) (N := 7) hx hb hts (fun w h => wm (ui_X1 w h)) hown hK hP 0 rfl rfl 3 (by decide) (hts (.fieldLink RX1 13 "LinkedIndexModel" "values" "[J") (wm mb_57)) (fun _ h9 => h9) rfl dX1_take_52 ?_
        refine lv_iload hx hb dX1_take_55 (lv_at hl 0 rfl) ?_
        refine lv_iconst (v := 1) hx hb dX1_take_57 (by decide) ?_
        refine lv_iadd hx hb dX1_take_58 ?_
        refine xi (y := nI (i + 1)) (nI_add i 1) ?_
        refine x_lald (j := (i + 1)) hx hb hK hP 2 1 rfl rfl (by omega) (by decide) dX1_take_59 ?_
        refine x_last (j := i) hx hb hK hP hD hS 2 1 rfl rfl (by omega) (by decide) dX1_take_60 (fun H locs hP hD hS => ?_)
        have hP : va_P D vwCl (wM b g cd (n - 1) (vp_updL Kc i (Kc (i + 1))) (vp_updL Vc i (Vc (i + 1))) (fun i9 => kd i9 + 1) SK SV) H := hP
        have hD : va_D A (wM b g cd (n - 1) (vp_updL Kc i (Kc (i + 1))) (vp_updL Vc i (Vc (i + 1))) (fun i9 => kd i9 + 1) SK SV) := hD
        refine lv_iinc (k := 0) (v := nI (i + 1)) (lv' := [(4, .int (nI (i + 1))), (2, .long (V r)), (0, .ref (b 0)), (1, .int (nI r))]) hx hb dX1_take_61 hl rfl (by rw [show Int32.ofInt 1 = 1 from by decide]; exact nI_1 _) (by decide) rfl (fun ls hl => ?_)
        refine lv_goto (tgt := 20) hx hb dX1_take_64 (by decide) ?_
        have e0 : n - 1 - i = (n - 1 - (i + 1)) + 1 := by omega
        rw [e0] at e1 e2
        exact ih (i + 1) _ _ H locs (by omega) (by omega) e1 e2 hP hD hS ls hl
  exact loop n r K V H locs (by omega) (by omega) rfl rfl hP hD hS ls hl
set_option maxHeartbeats 1000000 in
set_option maxRecDepth 100000 in
theorem m_drop (l : Launch) (hl9 : l.stackTraces = false) (D : va_G) (b : Nat → Nat) (g : Nat → ClassId) (cd : Int32) (n : Nat) (K V : Nat → Int64) (kd : Nat → Int32) (SK SV : Nat → Int64) (slot : Int32) (sz : Nat) (hk : ∀ j, j < 8 → kOk (kd j)) : Met l yX1_drop wsX1_drop ({ frames := 1, cells := 0, slots := 0, locals := 20 }) (cP D (tM g) (wM b g cd n K V (fun i9 => kd i9 + 1) SK SV) [.ref (b 0), .int slot] sz) (cQi D (tM g) (fun v => okS slot → v = (if kd (ix slot) = -1 then 0 else 1)) (wM b g (cdD slot) n K V (fun i9 => kdD slot kd i9 + 1) SK SV) (va_A (wM b g cd n K V (fun i9 => kd i9 + 1) SK SV) sz)) 0 0 (va_A (wM b g cd n K V (fun i9 => kd i9 + 1) SK SV) sz) := by
  refine mk_n (cc := cX1_drop) (maxL := 3) (ret := (some .boolean)) (fun A => cQi D (tM g) (fun v => okS slot → v = (if kd (ix slot) = -1 then 0 else 1)) (wM b g (cdD slot) n K V (fun i9 => kdD slot kd i9 + 1) SK SV) A) (by decide) rfl (Nat.le_of_ble_eq_true rfl) ?_
  intro p e s m below meth c ls A hx hb hr hml hlocks hnm hown hts hP hK hD hZ hA hS hl
  have hown : s.vm.findClass RX1 = some m.cls := hown
  have hl : lv_has ls 3 [(0, .ref (b 0)), (1, .int slot)] := hl
  refine lv_aload_n hx hb dX1_drop_0 rfl (lv_at hl 0 rfl) ?_
  refine lv_iload_n hx hb dX1_drop_1 rfl (lv_at hl 1 rfl) ?_
  refine kn_i (wc := []) (wr := (wM b g cd n K V (fun i9 => kd i9 + 1) SK SV)) (w1 := []) (va_runS (As := [.int slot]) (rest := [.ref (b 0)]) ⟨hx, hb, hml, hown, hts⟩ (m_isSlot l hl9 D slot s.heap.size) (va_cwS 1 hts (gd_up (gd_S mb_48 mb_49 mb_50 mb_51)) rfl rfl rfl (by decide +kernel) ⟨by decide, by decide⟩) ⟨cP_blind, cPre hP hD hK hS hA hZ [] rfl (by decide) [] rfl⟩ rfl rfl hl.1 rfl (lv_room (Nat.le_of_ble_eq_true rfl)) dX1_drop_2 ⟨by decide, by decide⟩) hP hD hS hA [] [0, 1, 2, 3, 4, 5] rfl rfl (by decide) (by decide) (fun r9 H locs hp hP hD hS => ?_)
  have hP : va_P D vwCl (wM b g cd n K V (fun i9 => kd i9 + 1) SK SV) H := hP
  have hD : va_D A (wM b g cd n K V (fun i9 => kd i9 + 1) SK SV) := hD
  by_cases hs : okS slot
  · skip
    rw [if_pos hs] at hp
    subst hp
    refine lv_if_eq (tgt := 12) hx hb dX1_drop_5 (by decide) (fun h0 => ?_) (fun h0 => ?_)
    · skip
      first | exact absurd h0 (by decide) | exact (h0 rfl).elim
    · skip
      rw [show cdD slot = 0 from if_pos hs, show kdD slot kd = upd kd (ix slot) (-1) from if_pos hs]
      obtain ⟨j, hj, rfl⟩ := okS_of hs
      rw [ix_n hj, ← upd_0]
      refine lv_iconst (v := 0) hx hb dX1_drop_8 (by decide) ?_
      refine lv_goto (tgt := 13) hx hb dX1_drop_9 (by decide) ?_
      refine va_put (D := D) (ci := 1) (v := .int 0) (ty := .int) (C := RX1) (T := TX1) (N := 7) hx hb hts (fun w h => wm (ui_X1 w h)) tyX1 tyX1_ok nmX1 hown hK hP hD hS 0 rfl rfl 0 (by decide) (hts (.fieldLink RX1 26 "LinkedIndexModel" "code" "I") (wm mb_47)) (fun _ h9 => h9) rfl (by decide +kernel) rfl rfl (Nat.le_of_ble_eq_true rfl) dX1_drop_13 (fun H locs hP hD hS => ?_)
      have hP : va_P D vwCl (wM b g 0 n K V (fun i9 => kd i9 + 1) SK SV) H := hP
      have hD : va_D A (wM b g 0 n K V (fun i9 => kd i9 + 1) SK SV) := hD
      refine lv_aload_n hx hb dX1_drop_16 rfl (lv_at hl 0 rfl) ?_
      refine va_get (D := D) (ci := 1) (v := .int 0) (C := RX1) (T := TX1) (N := 7) hx hb hts (fun w h => wm (ui_X1 w h)) hown hK hP 0 rfl rfl 0 (by decide) (hts (.fieldLink RX1 26 "LinkedIndexModel" "code" "I") (wm mb_47)) (fun _ h9 => h9) rfl dX1_drop_17 ?_
      refine lv_if_le (tgt := 25) hx hb dX1_drop_20 (by decide) (fun h9 => ?_) (fun h9 => ?_)
      · skip
        refine lv_aload_n hx hb dX1_drop_25 rfl (lv_at hl 0 rfl) ?_
        refine va_get (D := D) (ci := 1) (v := .ref (b 3)) (C := RX1) (T := TX1) (N := 7) hx hb hts (fun w h => wm (ui_X1 w h)) hown hK hP 0 rfl rfl 4 (by decide) (hts (.fieldLink RX1 16 "LinkedIndexModel" "kinds" "[I") (wm mb_52)) (fun _ h9 => h9) rfl dX1_drop_26 ?_
        refine lv_iload_n hx hb dX1_drop_29 rfl (lv_at hl 1 rfl) ?_
        refine x_iald (j := j) hx hb hK hP 3 2 rfl rfl hj (by decide) dX1_drop_30 ?_
        refine lv_if_le (tgt := 38) hx hb dX1_drop_31 (by decide) (fun h3 => ?_) (fun h3 => ?_)
        · skip
          have h3 : kd j = -1 := Classical.byContradiction (fun q => absurd ((kOk_pos (hk j hj)).mpr q) (fun q2 => absurd q2 (by rw [Int32.lt_iff_toInt_lt]; rw [Int32.le_iff_toInt_le] at h3; omega)))
          refine lv_iconst (v := 0) hx hb dX1_drop_38 (by decide) ?_
          refine lv_istore_n (lv' := [(2, .int 0), (0, .ref (b 0)), (1, .int (nI j))]) hx hb dX1_drop_39 rfl hl (by decide) rfl (fun ls hl => ?_)
          refine lv_aload_n hx hb dX1_drop_40 rfl (lv_at hl 1 rfl) ?_
          refine va_get (D := D) (ci := 1) (v := .ref (b 3)) (C := RX1) (T := TX1) (N := 7) hx hb hts (fun w h => wm (ui_X1 w h)) hown hK hP 0 rfl rfl 4 (by decide) (hts (.fieldLink RX1 16 "LinkedIndexModel" "kinds" "[I") (wm mb_52)) (fun _ h9 => h9) rfl dX1_drop_41 ?_
          refine lv_iload_n hx hb dX1_drop_44 rfl (lv_at hl 2 rfl) ?_
          refine lv_iconst (v := 0) hx hb dX1_drop_45 (by decide) ?_
          refine x_iast (j := j) hx hb hK hP hD hS 3 2 rfl rfl hj (by decide) dX1_drop_46 (fun H locs hP hD hS => ?_)
          have hP : va_P D vwCl (wM b g 0 n K V (upd (fun i9 => kd i9 + 1) j 0) SK SV) H := hP
          have hD : va_D A (wM b g 0 n K V (upd (fun i9 => kd i9 + 1) j 0) SK SV) := hD
          refine lv_iload_n hx hb dX1_drop_47 rfl (lv_at hl 0 rfl) ?_
          exact fn_z hx hb hr (by decide) hlocks (by decide) (by decide) (fun _ => by rw [if_pos h3]) hP hK hD hS dX1_drop_48
        · skip
          have h3 : ¬ kd j = -1 := fun q => h3 (by rw [q]; decide)
          refine lv_iconst (v := 1) hx hb dX1_drop_34 (by decide) ?_
          refine lv_goto (tgt := 39) hx hb dX1_drop_35 (by decide) ?_
          refine lv_istore_n (lv' := [(2, .int 1), (0, .ref (b 0)), (1, .int (nI j))]) hx hb dX1_drop_39 rfl hl (by decide) rfl (fun ls hl => ?_)
          refine lv_aload_n hx hb dX1_drop_40 rfl (lv_at hl 1 rfl) ?_
          refine va_get (D := D) (ci := 1) (v := .ref (b 3)) (C := RX1) (T := TX1) (N := 7) hx hb hts (fun w h => wm (ui_X1 w h)) hown hK hP 0 rfl rfl 4 (by decide) (hts (.fieldLink RX1 16 "LinkedIndexModel" "kinds" "[I") (wm mb_52)) (fun _ h9 => h9) rfl dX1_drop_41 ?_
          refine lv_iload_n hx hb dX1_drop_44 rfl (lv_at hl 2 rfl) ?_
          refine lv_iconst (v := 0) hx hb dX1_drop_45 (by decide) ?_
          refine x_iast (j := j) hx hb hK hP hD hS 3 2 rfl rfl hj (by decide) dX1_drop_46 (fun H locs hP hD hS => ?_)
          have hP : va_P D vwCl (wM b g 0 n K V (upd (fun i9 => kd i9 + 1) j 0) SK SV) H := hP
          have hD : va_D A (wM b g 0 n K V (upd (fun i9 => kd i9 + 1) j 0) SK SV) := hD
          refine lv_iload_n hx hb dX1_drop_47 rfl (lv_at hl 0 rfl) ?_
          exact fn_z hx hb hr (by decide) hlocks (by decide) (by decide) (fun _ => by rw [if_neg h3]) hP hK hD hS dX1_drop_48
      · skip
        first | exact absurd h9 (by decide) | exact (h9 rfl).elim
  · skip
    rw [if_neg hs] at hp
    subst hp
    refine lv_if_eq (tgt := 12) hx hb dX1_drop_5 (by decide) (fun h0 => ?_) (fun h0 => ?_)
    · skip
      rw [show cdD slot = 1 from if_neg hs, show kdD slot kd = kd from if_neg hs]
      refine lv_iconst (v := 1) hx hb dX1_drop_12 (by decide) ?_
      refine va_put (D := D) (ci := 1) (v := .int 1) (ty := .int) (C := RX1) (T := TX1) (N := 7) hx hb hts (fun w h => wm (ui_X1 w h)) tyX1 tyX1_ok nmX1 hown hK hP hD hS 0 rfl rfl 0 (by decide) (hts (.fieldLink RX1 26 "LinkedIndexModel" "code" "I") (wm mb_47)) (fun _ h9 => h9) rfl (by decide +kernel) rfl rfl (Nat.le_of_ble_eq_true rfl) dX1_drop_13 (fun H locs hP hD hS => ?_)
      have hP : va_P D vwCl (wM b g 1 n K V (fun i9 => kd i9 + 1) SK SV) H := hP
      have hD : va_D A (wM b g 1 n K V (fun i9 => kd i9 + 1) SK SV) := hD
      refine lv_aload_n hx hb dX1_drop_16 rfl (lv_at hl 0 rfl) ?_
      refine va_get (D := D) (ci := 1) (v := .int 1) (C := RX1) (T := TX1) (N := 7) hx hb hts (fun w h => wm (ui_X1 w h)) hown hK hP 0 rfl rfl 0 (by decide) (hts (.fieldLink RX1 26 "LinkedIndexModel" "code" "I") (wm mb_47)) (fun _ h9 => h9) rfl dX1_drop_17 ?_
      refine lv_if_le (tgt := 25) hx hb dX1_drop_20 (by decide) (fun h9 => ?_) (fun h9 => ?_)
      · skip
        first | exact absurd h9 (by decide) | exact (h9 rfl).elim
      · skip
        refine lv_iconst (v := 0) hx hb dX1_drop_23 (by decide) ?_
        exact fn_z hx hb hr (by decide) hlocks (by decide) (by decide) (fun q => absurd q hs) hP hK hD hS dX1_drop_24
    · skip
      first | exact absurd h0 (by decide) | exact (h0 rfl).elim
set_option maxHeartbeats 1000000 in
set_option maxRecDepth 100000 in
theorem m_tidy (l : Launch) (hl9 : l.stackTraces = false) (D : va_G) (b : Nat → Nat) (g : Nat → ClassId) (cd : Int32) (n : Nat) (K V : Nat → Int64) (kd : Nat → Int32) (SK SV : Nat → Int64) (x : Int32) (sz : Nat)  : Met l yX1_tidy wsX1_tidy ({ frames := 0, cells := 0, slots := 0, locals := 0 }) (cP D (tM g) (wM b g cd n K V (fun i9 => kd i9 + 1) SK SV) [.ref (b 0), .int x] sz) (cQv D (tM g) True (wM b g (cdY x) n K V (fun i9 => kd i9 + 1) SK SV) (va_A (wM b g cd n K V (fun i9 => kd i9 + 1) SK SV) sz)) 0 0 (va_A (wM b g cd n K V (fun i9 => kd i9 + 1) SK SV) sz) := by
  refine mk_n (cc := cX1_tidy) (maxL := 2) (ret := none) (fun A => cQv D (tM g) True (wM b g (cdY x) n K V (fun i9 => kd i9 + 1) SK SV) A) (by decide) rfl (Nat.le_of_ble_eq_true rfl) ?_
  intro p e s m below meth c ls A hx hb hr hml hlocks hnm hown hts hP hK hD hZ hA hS hl
  have hown : s.vm.findClass RX1 = some m.cls := hown
  have hl : lv_has ls 2 [(0, .ref (b 0)), (1, .int x)] := hl
  refine lv_aload_n hx hb dX1_tidy_0 rfl (lv_at hl 0 rfl) ?_
  refine lv_iload_n hx hb dX1_tidy_1 rfl (lv_at hl 1 rfl) ?_
  refine lv_if_lt (tgt := 11) hx hb dX1_tidy_2 (by decide) (fun h1 => ?_) (fun h1 => ?_)
  · skip
    rw [show cdY x = 1 from if_neg (fun q => q.1 h1)]
    refine lv_iconst (v := 1) hx hb dX1_tidy_11 (by decide) ?_
    refine lv_goto (tgt := 16) hx hb dX1_tidy_12 (by decide) ?_
    refine va_put (D := D) (ci := 1) (v := .int 1) (ty := .int) (C := RX1) (T := TX1) (N := 7) hx hb hts (fun w h => wm (ui_X1 w h)) tyX1 tyX1_ok nmX1 hown hK hP hD hS 0 rfl rfl 0 (by decide) (hts (.fieldLink RX1 26 "LinkedIndexModel" "code" "I") (wm mb_47)) (fun _ h9 => h9) rfl (by decide +kernel) rfl rfl (Nat.le_of_ble_eq_true rfl) dX1_tidy_16 (fun H locs hP hD hS => ?_)
    have hP : va_P D vwCl (wM b g 1 n K V (fun i9 => kd i9 + 1) SK SV) H := hP
    have hD : va_D A (wM b g 1 n K V (fun i9 => kd i9 + 1) SK SV) := hD
    exact fn_v hx hb hr hlocks (by decide) (by decide) trivial hP hK hD hS dX1_tidy_19
  · skip
    refine lv_iload_n hx hb dX1_tidy_5 rfl (lv_at hl 1 rfl) ?_
    refine lv_bipush (v := 20) hx hb dX1_tidy_6 (by decide) ?_
    refine lv_icmp_le (tgt := 15) hx hb dX1_tidy_8 (by decide) (fun h2 => ?_) (fun h2 => ?_)
    · skip
      rw [show cdY x = 0 from if_pos ⟨h1, h2⟩]
      refine lv_iconst (v := 0) hx hb dX1_tidy_15 (by decide) ?_
      refine va_put (D := D) (ci := 1) (v := .int 0) (ty := .int) (C := RX1) (T := TX1) (N := 7) hx hb hts (fun w h => wm (ui_X1 w h)) tyX1 tyX1_ok nmX1 hown hK hP hD hS 0 rfl rfl 0 (by decide) (hts (.fieldLink RX1 26 "LinkedIndexModel" "code" "I") (wm mb_47)) (fun _ h9 => h9) rfl (by decide +kernel) rfl rfl (Nat.le_of_ble_eq_true rfl) dX1_tidy_16 (fun H locs hP hD hS => ?_)
      have hP : va_P D vwCl (wM b g 0 n K V (fun i9 => kd i9 + 1) SK SV) H := hP
      have hD : va_D A (wM b g 0 n K V (fun i9 => kd i9 + 1) SK SV) := hD
      exact fn_v hx hb hr hlocks (by decide) (by decide) trivial hP hK hD hS dX1_tidy_19
    · skip
      rw [show cdY x = 1 from if_neg (fun q => h2 q.2)]
      refine lv_iconst (v := 1) hx hb dX1_tidy_11 (by decide) ?_
      refine lv_goto (tgt := 16) hx hb dX1_tidy_12 (by decide) ?_
      refine va_put (D := D) (ci := 1) (v := .int 1) (ty := .int) (C := RX1) (T := TX1) (N := 7) hx hb hts (fun w h => wm (ui_X1 w h)) tyX1 tyX1_ok nmX1 hown hK hP hD hS 0 rfl rfl 0 (by decide) (hts (.fieldLink RX1 26 "LinkedIndexModel" "code" "I") (wm mb_47)) (fun _ h9 => h9) rfl (by decide +kernel) rfl rfl (Nat.le_of_ble_eq_true rfl) dX1_tidy_16 (fun H locs hP hD hS => ?_)
      have hP : va_P D vwCl (wM b g 1 n K V (fun i9 => kd i9 + 1) SK SV) H := hP
      have hD : va_D A (wM b g 1 n K V (fun i9 => kd i9 + 1) SK SV) := hD
      exact fn_v hx hb hr hlocks (by decide) (by decide) trivial hP hK hD hS dX1_tidy_19
set_option maxHeartbeats 1000000 in
set_option maxRecDepth 100000 in
theorem m_crash (l : Launch) (hl9 : l.stackTraces = false) (D : va_G) (b : Nat → Nat) (g : Nat → ClassId) (cd : Int32) (n : Nat) (K V : Nat → Int64) (kd : Nat → Int32) (SK SV : Nat → Int64) (sz : Nat) (hk : ∀ j, j < 8 → kOk (kd j)) : Met l yX1_crash wsX1_crash ({ frames := 0, cells := 0, slots := 0, locals := 0 }) (cP D (tM g) (wM b g cd n K V (fun i9 => kd i9 + 1) SK SV) [.ref (b 0)] sz) (cQi D (tM g) (fun v => v = (crF 8 0 kd 0).2) (wM b g 0 n K V (fun i9 => (crF 8 0 kd 0).1 i9 + 1) SK SV) (va_A (wM b g cd n K V (fun i9 => kd i9 + 1) SK SV) sz)) 0 0 (va_A (wM b g cd n K V (fun i9 => kd i9 + 1) SK SV) sz) := by
  refine mk_n (cc := cX1_crash) (maxL := 3) (ret := (some .int)) (fun A => cQi D (tM g) (fun v => v = (crF 8 0 kd 0).2) (wM b g 0 n K V (fun i9 => (crF 8 0 kd 0).1 i9 + 1) SK SV) A) (by decide) rfl (Nat.le_of_ble_eq_true rfl) ?_
  intro p e s m below meth c ls A hx hb hr hml hlocks hnm hown hts hP hK hD hZ hA hS hl
  have hown : s.vm.findClass RX1 = some m.cls := hown
  have hl : lv_has ls 3 [(0, .ref (b 0))] := hl
  refine lv_aload_n hx hb dX1_crash_0 rfl (lv_at hl 0 rfl) ?_
  refine lv_iconst (v := 0) hx hb dX1_crash_1 (by decide) ?_
  refine va_put (D := D) (ci := 1) (v := .int 0) (ty := .int) (C := RX1) (T := TX1) (N := 7) hx hb hts (fun w h => wm (ui_X1 w h)) tyX1 tyX1_ok nmX1 hown hK hP hD hS 0 rfl rfl 0 (by decide) (hts (.fieldLink RX1 26 "LinkedIndexModel" "code" "I") (wm mb_47)) (fun _ h9 => h9) rfl (by decide +kernel) rfl rfl (Nat.le_of_ble_eq_true rfl) dX1_crash_2 (fun H locs hP hD hS => ?_)
  have hP : va_P D vwCl (wM b g 0 n K V (fun i9 => kd i9 + 1) SK SV) H := hP
  have hD : va_D A (wM b g 0 n K V (fun i9 => kd i9 + 1) SK SV) := hD
  refine lv_iconst (v := 0) hx hb dX1_crash_5 (by decide) ?_
  refine lv_istore_n (lv' := [(1, .int 0), (0, .ref (b 0))]) hx hb dX1_crash_6 rfl hl (by decide) rfl (fun ls hl => ?_)
  refine lv_iconst (v := 0) hx hb dX1_crash_7 (by decide) ?_
  refine lv_istore_n (lv' := [(2, .int 0), (1, .int 0), (0, .ref (b 0))]) hx hb dX1_crash_8 rfl hl (by decide) rfl (fun ls hl => ?_)
  have loop : ∀ (f i : Nat) (kc : Nat → Int32) (acc : Int32) (H : Heap) (locs : List Loc), 8 - i = f → i ≤ 8 → (∀ j, j < 8 → kOk (kc j)) → crF f i kc acc = crF 8 0 kd 0 → va_P D vwCl (wM b g 0 n K V (fun i9 => kc i9 + 1) SK SV) H → va_D A (wM b g 0 n K V (fun i9 => kc i9 + 1) SK SV) → va_S A s.heap H locs → ∀ ls : Array Slot, lv_has ls 3 [(2, .int (nI i)), (1, .int acc), (0, .ref (b 0))] → W p l e ({ frames := 0, cells := 0, slots := 0, locals := 0 }) s m ([.ref (b 0)] : List Value).toArray below meth c H locs 0 0 (MQ below (cQi D (tM g) (fun v => v = (crF 8 0 kd 0).2) (wM b g 0 n K V (fun i9 => (crF 8 0 kd 0).1 i9 + 1) SK SV) A) ([.ref (b 0)] : List Value).toArray s 0 0 A) (F0 m 9 ls []) := by
    intro f
    induction f with
    | zero =>
      intro i kc acc H locs hf hi hq e1 hP hD hS ls hl
      have e2 : kc = (crF 8 0 kd 0).1 := congrArg Prod.fst e1
      have e3 : acc = (crF 8 0 kd 0).2 := congrArg Prod.snd e1
      refine lv_iload_n hx hb dX1_crash_9 rfl (lv_at hl 0 rfl) ?_
      refine lv_bipush (v := 8) hx hb dX1_crash_10 (by decide) ?_
      refine lv_icmp_ge (tgt := 45) hx hb dX1_crash_12 (by decide) (fun h1 => ?_) (fun h1 => ?_)
      · skip
        rw [e2] at hP hD
        refine lv_iload_n hx hb dX1_crash_45 rfl (lv_at hl 1 rfl) ?_
        exact fn_i hx hb hr hlocks (by decide) (by decide) e3 hP hK hD hS dX1_crash_46
      · skip
        exact absurd ((nI_leI (a := 8) (by omega) (by omega)).mpr (by omega)) h1
    | succ f ih =>
      intro i kc acc H locs hf hi hq e1 hP hD hS ls hl
      refine lv_iload_n hx hb dX1_crash_9 rfl (lv_at hl 0 rfl) ?_
      refine lv_bipush (v := 8) hx hb dX1_crash_10 (by decide) ?_
      refine lv_icmp_ge (tgt := 45) hx hb dX1_crash_12 (by decide) (fun h1 => ?_) (fun h1 => ?_)
      · skip
        exact absurd ((nI_leI (a := 8) (by omega) (by omega)).mp h1) (by omega)
      · skip
        refine lv_iload_n hx hb dX1_crash_15 rfl (lv_at hl 1 rfl) ?_
        refine lv_aload_n hx hb dX1_crash_16 rfl (lv_at hl 2 rfl) ?_
        refine va_get (D := D) (ci := 1) (v := .ref (b 3)) (C := RX1) (T := TX1) (N := 7) hx hb hts (fun w h => wm (ui_X1 w h)) hown hK hP 0 rfl rfl 4 (by decide) (hts (.fieldLink RX1 16 "LinkedIndexModel" "kinds" "[I") (wm mb_52)) (fun _ h9 => h9) rfl dX1_crash_17 ?_
        refine lv_iload_n hx hb dX1_crash_20 rfl (lv_at hl 0 rfl) ?_
        refine x_iald (j := i) hx hb hK hP 3 2 rfl rfl (by omega) (by decide) dX1_crash_21 ?_
        refine lv_if_le (tgt := 29) hx hb dX1_crash_22 (by decide) (fun h2 => ?_) (fun h2 => ?_)
        · skip
          have h2 : kc i = -1 := Classical.byContradiction (fun q => absurd ((kOk_pos (hq i (by omega))).mpr q) (fun q2 => absurd q2 (by rw [Int32.lt_iff_toInt_lt]; rw [Int32.le_iff_toInt_le] at h2; omega)))
          have e1 : crF f (i + 1) (upd kc i (-1)) (acc + 0) = crF 8 0 kd 0 := by
            rw [← e1]
            show _ = crF f (i + 1) (upd kc i (-1)) (if kc i = -1 then acc else acc + 1)
            rw [if_pos h2, Int32.add_zero]
          refine lv_iconst (v := 0) hx hb dX1_crash_29 (by decide) ?_
          refine lv_iadd hx hb dX1_crash_30 ?_
          refine lv_istore_n (lv' := [(1, .int (acc + 0)), (2, .int (nI i)), (0, .ref (b 0))]) hx hb dX1_crash_31 rfl hl (by decide) rfl (fun ls hl => ?_)
          refine lv_aload_n hx hb dX1_crash_32 rfl (lv_at hl 2 rfl) ?_
          refine va_get (D := D) (ci := 1) (v := .ref (b 3)) (C := RX1) (T := TX1) (N := 7) hx hb hts (fun w h => wm (ui_X1 w h)) hown hK hP 0 rfl rfl 4 (by decide) (hts (.fieldLink RX1 16 "LinkedIndexModel" "kinds" "[I") (wm mb_52)) (fun _ h9 => h9) rfl dX1_crash_33 ?_
          refine lv_iload_n hx hb dX1_crash_36 rfl (lv_at hl 1 rfl) ?_
          refine lv_iconst (v := 0) hx hb dX1_crash_37 (by decide) ?_
          refine x_iast (j := i) hx hb hK hP hD hS 3 2 rfl rfl (by omega) (by decide) dX1_crash_38 (fun H locs hP hD hS => ?_)
          have hP : va_P D vwCl (wM b g 0 n K V (upd (fun i9 => kc i9 + 1) i 0) SK SV) H := hP
          have hD : va_D A (wM b g 0 n K V (upd (fun i9 => kc i9 + 1) i 0) SK SV) := hD
          rw [upd_0] at hP hD
          refine lv_iinc (k := 1) (v := nI (i + 1)) (lv' := [(2, .int (nI (i + 1))), (1, .int (acc + 0)), (0, .ref (b 0))]) hx hb dX1_crash_39 hl rfl (by rw [show Int32.ofInt 1 = 1 from by decide]; exact nI_1 _) (by decide) rfl (fun ls hl => ?_)
          refine lv_goto (tgt := 9) hx hb dX1_crash_42 (by decide) ?_
          exact ih (i + 1) _ _ H locs (by omega) (by omega) (upd_ok hq (Or.inl rfl)) e1 hP hD hS ls (lv_sub hl [0, 1, 2] rfl)
        · skip
          have h2 : ¬ kc i = -1 := fun q => h2 (by rw [q]; decide)
          have e1 : crF f (i + 1) (upd kc i (-1)) (acc + 1) = crF 8 0 kd 0 := by
            rw [← e1]
            show _ = crF f (i + 1) (upd kc i (-1)) (if kc i = -1 then acc else acc + 1)
            rw [if_neg h2]
          refine lv_iconst (v := 1) hx hb dX1_crash_25 (by decide) ?_
          refine lv_goto (tgt := 30) hx hb dX1_crash_26 (by decide) ?_
          refine lv_iadd hx hb dX1_crash_30 ?_
          refine lv_istore_n (lv' := [(1, .int (acc + 1)), (2, .int (nI i)), (0, .ref (b 0))]) hx hb dX1_crash_31 rfl hl (by decide) rfl (fun ls hl => ?_)
          refine lv_aload_n hx hb dX1_crash_32 rfl (lv_at hl 2 rfl) ?_
          refine va_get (D := D) (ci := 1) (v := .ref (b 3)) (C := RX1) (T := TX1) (N := 7) hx hb hts (fun w h => wm (ui_X1 w h)) hown hK hP 0 rfl rfl 4 (by decide) (hts (.fieldLink RX1 16 "LinkedIndexModel" "kinds" "[I") (wm mb_52)) (fun _ h9 => h9) rfl dX1_crash_33 ?_
          refine lv_iload_n hx hb dX1_crash_36 rfl (lv_at hl 1 rfl) ?_
          refine lv_iconst (v := 0) hx hb dX1_crash_37 (by decide) ?_
          refine x_iast (j := i) hx hb hK hP hD hS 3 2 rfl rfl (by omega) (by decide) dX1_crash_38 (fun H locs hP hD hS => ?_)
          have hP : va_P D vwCl (wM b g 0 n K V (upd (fun i9 => kc i9 + 1) i 0) SK SV) H := hP
          have hD : va_D A (wM b g 0 n K V (upd (fun i9 => kc i9 + 1) i 0) SK SV) := hD
          rw [upd_0] at hP hD
          refine lv_iinc (k := 1) (v := nI (i + 1)) (lv' := [(2, .int (nI (i + 1))), (1, .int (acc + 1)), (0, .ref (b 0))]) hx hb dX1_crash_39 hl rfl (by rw [show Int32.ofInt 1 = 1 from by decide]; exact nI_1 _) (by decide) rfl (fun ls hl => ?_)
          refine lv_goto (tgt := 9) hx hb dX1_crash_42 (by decide) ?_
          exact ih (i + 1) _ _ H locs (by omega) (by omega) (upd_ok hq (Or.inl rfl)) e1 hP hD hS ls (lv_sub hl [0, 1, 2] rfl)
  exact loop 8 0 kd 0 H locs rfl (by omega) hk rfl hP hD hS ls (lv_sub hl [0, 1, 2] rfl)
set_option maxHeartbeats 1000000 in
set_option maxRecDepth 100000 in
theorem m_kind (l : Launch) (hl9 : l.stackTraces = false) (D : va_G) (b : Nat → Nat) (g : Nat → ClassId) (cd : Int32) (n : Nat) (K V : Nat → Int64) (kd : Nat → Int32) (SK SV : Nat → Int64) (slot : Int32) (sz : Nat)  : Met l yX1_kind wsX1_kind ({ frames := 1, cells := 0, slots := 0, locals := 20 }) (cP D (tM g) (wM b g cd n K V (fun i9 => kd i9 + 1) SK SV) [.ref (b 0), .int slot] sz) (cQi D (tM g) (fun v => okS slot → v = kd (ix slot)) (wM b g (cdD slot) n K V (fun i9 => kd i9 + 1) SK SV) (va_A (wM b g cd n K V (fun i9 => kd i9 + 1) SK SV) sz)) 0 0 (va_A (wM b g cd n K V (fun i9 => kd i9 + 1) SK SV) sz) := by
  refine mk_n (cc := cX1_kind) (maxL := 2) (ret := (some .int)) (fun A => cQi D (tM g) (fun v => okS slot → v = kd (ix slot)) (wM b g (cdD slot) n K V (fun i9 => kd i9 + 1) SK SV) A) (by decide) rfl (Nat.le_of_ble_eq_true rfl) ?_
  intro p e s m below meth c ls A hx hb hr hml hlocks hnm hown hts hP hK hD hZ hA hS hl
  have hown : s.vm.findClass RX1 = some m.cls := hown
  have hl : lv_has ls 2 [(0, .ref (b 0)), (1, .int slot)] := hl
  refine lv_aload_n hx hb dX1_kind_0 rfl (lv_at hl 0 rfl) ?_
  refine lv_iload_n hx hb dX1_kind_1 rfl (lv_at hl 1 rfl) ?_
  refine kn_i (wc := []) (wr := (wM b g cd n K V (fun i9 => kd i9 + 1) SK SV)) (w1 := []) (va_runS (As := [.int slot]) (rest := [.ref (b 0)]) ⟨hx, hb, hml, hown, hts⟩ (m_isSlot l hl9 D slot s.heap.size) (va_cwS 1 hts (gd_up (gd_S mb_48 mb_49 mb_50 mb_51)) rfl rfl rfl (by decide +kernel) ⟨by decide, by decide⟩) ⟨cP_blind, cPre hP hD hK hS hA hZ [] rfl (by decide) [] rfl⟩ rfl rfl hl.1 rfl (lv_room (Nat.le_of_ble_eq_true rfl)) dX1_kind_2 ⟨by decide, by decide⟩) hP hD hS hA [] [0, 1, 2, 3, 4, 5] rfl rfl (by decide) (by decide) (fun r9 H locs hp hP hD hS => ?_)
  have hP : va_P D vwCl (wM b g cd n K V (fun i9 => kd i9 + 1) SK SV) H := hP
  have hD : va_D A (wM b g cd n K V (fun i9 => kd i9 + 1) SK SV) := hD
  by_cases hs : okS slot
  · skip
    rw [if_pos hs] at hp
    subst hp
    refine lv_if_eq (tgt := 12) hx hb dX1_kind_5 (by decide) (fun h0 => ?_) (fun h0 => ?_)
    · skip
      first | exact absurd h0 (by decide) | exact (h0 rfl).elim
    · skip
      rw [show cdD slot = 0 from if_pos hs]
      obtain ⟨j, hj, rfl⟩ := okS_of hs
      rw [ix_n hj]
      refine lv_iconst (v := 0) hx hb dX1_kind_8 (by decide) ?_
      refine lv_goto (tgt := 13) hx hb dX1_kind_9 (by decide) ?_
      refine va_put (D := D) (ci := 1) (v := .int 0) (ty := .int) (C := RX1) (T := TX1) (N := 7) hx hb hts (fun w h => wm (ui_X1 w h)) tyX1 tyX1_ok nmX1 hown hK hP hD hS 0 rfl rfl 0 (by decide) (hts (.fieldLink RX1 26 "LinkedIndexModel" "code" "I") (wm mb_47)) (fun _ h9 => h9) rfl (by decide +kernel) rfl rfl (Nat.le_of_ble_eq_true rfl) dX1_kind_13 (fun H locs hP hD hS => ?_)
      have hP : va_P D vwCl (wM b g 0 n K V (fun i9 => kd i9 + 1) SK SV) H := hP
      have hD : va_D A (wM b g 0 n K V (fun i9 => kd i9 + 1) SK SV) := hD
      refine lv_aload_n hx hb dX1_kind_16 rfl (lv_at hl 0 rfl) ?_
      refine va_get (D := D) (ci := 1) (v := .int 0) (C := RX1) (T := TX1) (N := 7) hx hb hts (fun w h => wm (ui_X1 w h)) hown hK hP 0 rfl rfl 0 (by decide) (hts (.fieldLink RX1 26 "LinkedIndexModel" "code" "I") (wm mb_47)) (fun _ h9 => h9) rfl dX1_kind_17 ?_
      refine lv_if_ne (tgt := 34) hx hb dX1_kind_20 (by decide) (fun h9 => ?_) (fun h9 => ?_)
      · skip
        first | exact absurd h9 (by decide) | exact (h9 rfl).elim
      · skip
        refine lv_aload_n hx hb dX1_kind_23 rfl (lv_at hl 0 rfl) ?_
        refine va_get (D := D) (ci := 1) (v := .ref (b 3)) (C := RX1) (T := TX1) (N := 7) hx hb hts (fun w h => wm (ui_X1 w h)) hown hK hP 0 rfl rfl 4 (by decide) (hts (.fieldLink RX1 16 "LinkedIndexModel" "kinds" "[I") (wm mb_52)) (fun _ h9 => h9) rfl dX1_kind_24 ?_
        refine lv_iload_n hx hb dX1_kind_27 rfl (lv_at hl 1 rfl) ?_
        refine x_iald (j := j) hx hb hK hP 3 2 rfl rfl hj (by decide) dX1_kind_28 ?_
        refine lv_iconst (v := 1) hx hb dX1_kind_29 (by decide) ?_
        refine lv_isub hx hb dX1_kind_30 ?_
        refine lv_goto (tgt := 35) hx hb dX1_kind_31 (by decide) ?_
        exact fn_i hx hb hr hlocks (by decide) (by decide) (fun _ => kOk_m) hP hK hD hS dX1_kind_35
  · skip
    rw [if_neg hs] at hp
    subst hp
    refine lv_if_eq (tgt := 12) hx hb dX1_kind_5 (by decide) (fun h0 => ?_) (fun h0 => ?_)
    · skip
      rw [show cdD slot = 1 from if_neg hs]
      refine lv_iconst (v := 1) hx hb dX1_kind_12 (by decide) ?_
      refine va_put (D := D) (ci := 1) (v := .int 1) (ty := .int) (C := RX1) (T := TX1) (N := 7) hx hb hts (fun w h => wm (ui_X1 w h)) tyX1 tyX1_ok nmX1 hown hK hP hD hS 0 rfl rfl 0 (by decide) (hts (.fieldLink RX1 26 "LinkedIndexModel" "code" "I") (wm mb_47)) (fun _ h9 => h9) rfl (by decide +kernel) rfl rfl (Nat.le_of_ble_eq_true rfl) dX1_kind_13 (fun H locs hP hD hS => ?_)
      have hP : va_P D vwCl (wM b g 1 n K V (fun i9 => kd i9 + 1) SK SV) H := hP
      have hD : va_D A (wM b g 1 n K V (fun i9 => kd i9 + 1) SK SV) := hD
      refine lv_aload_n hx hb dX1_kind_16 rfl (lv_at hl 0 rfl) ?_
      refine va_get (D := D) (ci := 1) (v := .int 1) (C := RX1) (T := TX1) (N := 7) hx hb hts (fun w h => wm (ui_X1 w h)) hown hK hP 0 rfl rfl 0 (by decide) (hts (.fieldLink RX1 26 "LinkedIndexModel" "code" "I") (wm mb_47)) (fun _ h9 => h9) rfl dX1_kind_17 ?_
      refine lv_if_ne (tgt := 34) hx hb dX1_kind_20 (by decide) (fun h9 => ?_) (fun h9 => ?_)
      · skip
        refine lv_iconst (v := 0) hx hb dX1_kind_34 (by decide) ?_
        exact fn_i hx hb hr hlocks (by decide) (by decide) (fun q => absurd q hs) hP hK hD hS dX1_kind_35
      · skip
        first | exact absurd h9 (by decide) | exact (h9 rfl).elim
    · skip
      first | exact absurd h0 (by decide) | exact (h0 rfl).elim
set_option maxHeartbeats 1000000 in
set_option maxRecDepth 100000 in
theorem m_size (l : Launch) (hl9 : l.stackTraces = false) (D : va_G) (b : Nat → Nat) (g : Nat → ClassId) (cd : Int32) (n : Nat) (K V : Nat → Int64) (kd : Nat → Int32) (SK SV : Nat → Int64) (sz : Nat)  : Met l yX1_size wsX1_size ({ frames := 0, cells := 0, slots := 0, locals := 0 }) (cP D (tM g) (wM b g cd n K V (fun i9 => kd i9 + 1) SK SV) [.ref (b 0)] sz) (cQi D (tM g) (fun v => v = nI n) (wM b g 0 n K V (fun i9 => kd i9 + 1) SK SV) (va_A (wM b g cd n K V (fun i9 => kd i9 + 1) SK SV) sz)) 0 0 (va_A (wM b g cd n K V (fun i9 => kd i9 + 1) SK SV) sz) := by
  refine mk_n (cc := cX1_size) (maxL := 1) (ret := (some .int)) (fun A => cQi D (tM g) (fun v => v = nI n) (wM b g 0 n K V (fun i9 => kd i9 + 1) SK SV) A) (by decide) rfl (Nat.le_of_ble_eq_true rfl) ?_
  intro p e s m below meth c ls A hx hb hr hml hlocks hnm hown hts hP hK hD hZ hA hS hl
  have hown : s.vm.findClass RX1 = some m.cls := hown
  have hl : lv_has ls 1 [(0, .ref (b 0))] := hl
  refine lv_aload_n hx hb dX1_size_0 rfl (lv_at hl 0 rfl) ?_
  refine lv_iconst (v := 0) hx hb dX1_size_1 (by decide) ?_
  refine va_put (D := D) (ci := 1) (v := .int 0) (ty := .int) (C := RX1) (T := TX1) (N := 7) hx hb hts (fun w h => wm (ui_X1 w h)) tyX1 tyX1_ok nmX1 hown hK hP hD hS 0 rfl rfl 0 (by decide) (hts (.fieldLink RX1 26 "LinkedIndexModel" "code" "I") (wm mb_47)) (fun _ h9 => h9) rfl (by decide +kernel) rfl rfl (Nat.le_of_ble_eq_true rfl) dX1_size_2 (fun H locs hP hD hS => ?_)
  have hP : va_P D vwCl (wM b g 0 n K V (fun i9 => kd i9 + 1) SK SV) H := hP
  have hD : va_D A (wM b g 0 n K V (fun i9 => kd i9 + 1) SK SV) := hD
  refine lv_aload_n hx hb dX1_size_5 rfl (lv_at hl 0 rfl) ?_
  refine va_get (D := D) (ci := 1) (v := .int (nI n)) (C := RX1) (T := TX1) (N := 7) hx hb hts (fun w h => wm (ui_X1 w h)) hown hK hP 0 rfl rfl 1 (by decide) (hts (.fieldLink RX1 34 "LinkedIndexModel" "size" "I") (wm mb_55)) (fun _ h9 => h9) rfl dX1_size_6 ?_
  exact fn_i hx hb hr hlocks (by decide) (by decide) rfl hP hK hD hS dX1_size_9
set_option maxHeartbeats 1000000 in
set_option maxRecDepth 100000 in
theorem m_key (l : Launch) (hl9 : l.stackTraces = false) (D : va_G) (b : Nat → Nat) (g : Nat → ClassId) (cd : Int32) (n : Nat) (K V : Nat → Int64) (kd : Nat → Int32) (SK SV : Nat → Int64) (x : Int32) (sz : Nat) (hn : n ≤ 100) : Met l yX1_key wsX1_key ({ frames := 0, cells := 0, slots := 0, locals := 0 }) (cP D (tM g) (wM b g cd n K V (fun i9 => kd i9 + 1) SK SV) [.ref (b 0), .int x] sz) (cQl D (tM g) (fun v => okP x n → v = K (ix x)) (wM b g (cdP x n) n K V (fun i9 => kd i9 + 1) SK SV) (va_A (wM b g cd n K V (fun i9 => kd i9 + 1) SK SV) sz)) 0 0 (va_A (wM b g cd n K V (fun i9 => kd i9 + 1) SK SV) sz) := by
  refine mk_n (cc := cX1_key) (maxL := 2) (ret := (some .long)) (fun A => cQl D (tM g) (fun v => okP x n → v = K (ix x)) (wM b g (cdP x n) n K V (fun i9 => kd i9 + 1) SK SV) A) (by decide) rfl (Nat.le_of_ble_eq_true rfl) ?_
  intro p e s m below meth c ls A hx hb hr hml hlocks hnm hown hts hP hK hD hZ hA hS hl
  have hown : s.vm.findClass RX1 = some m.cls := hown
  have hl : lv_has ls 2 [(0, .ref (b 0)), (1, .int x)] := hl
  refine lv_aload_n hx hb dX1_key_0 rfl (lv_at hl 0 rfl) ?_
  refine lv_iload_n hx hb dX1_key_1 rfl (lv_at hl 1 rfl) ?_
  refine lv_if_lt (tgt := 13) hx hb dX1_key_2 (by decide) (fun h1 => ?_) (fun h1 => ?_)
  · skip
    have hs : ¬ okP x n := fun q => q.1 h1
    rw [show cdP x n = 1 from if_neg hs]
    refine lv_iconst (v := 1) hx hb dX1_key_13 (by decide) ?_
    refine lv_goto (tgt := 18) hx hb dX1_key_14 (by decide) ?_
    refine va_put (D := D) (ci := 1) (v := .int 1) (ty := .int) (C := RX1) (T := TX1) (N := 7) hx hb hts (fun w h => wm (ui_X1 w h)) tyX1 tyX1_ok nmX1 hown hK hP hD hS 0 rfl rfl 0 (by decide) (hts (.fieldLink RX1 26 "LinkedIndexModel" "code" "I") (wm mb_47)) (fun _ h9 => h9) rfl (by decide +kernel) rfl rfl (Nat.le_of_ble_eq_true rfl) dX1_key_18 (fun H locs hP hD hS => ?_)
    have hP : va_P D vwCl (wM b g 1 n K V (fun i9 => kd i9 + 1) SK SV) H := hP
    have hD : va_D A (wM b g 1 n K V (fun i9 => kd i9 + 1) SK SV) := hD
    refine lv_aload_n hx hb dX1_key_21 rfl (lv_at hl 0 rfl) ?_
    refine va_get (D := D) (ci := 1) (v := .int 1) (C := RX1) (T := TX1) (N := 7) hx hb hts (fun w h => wm (ui_X1 w h)) hown hK hP 0 rfl rfl 0 (by decide) (hts (.fieldLink RX1 26 "LinkedIndexModel" "code" "I") (wm mb_47)) (fun _ h9 => h9) rfl dX1_key_22 ?_
    refine lv_if_ne (tgt := 37) hx hb dX1_key_25 (by decide) (fun h9 => ?_) (fun h9 => ?_)
    · skip
      refine lv_lconst (v := 0) hx hb dX1_key_37 (by decide) ?_
      exact fn_l hx hb hr hlocks (by decide) (by decide) (fun q => absurd q hs) hP hK hD hS dX1_key_38
    · skip
      first | exact absurd h9 (by decide) | exact (h9 rfl).elim
  · skip
    refine lv_iload_n hx hb dX1_key_5 rfl (lv_at hl 1 rfl) ?_
    refine lv_aload_n hx hb dX1_key_6 rfl (lv_at hl 0 rfl) ?_
    refine va_get (D := D) (ci := 1) (v := .int (nI n)) (C := RX1) (T := TX1) (N := 7) hx hb hts (fun w h => wm (ui_X1 w h)) hown hK hP 0 rfl rfl 1 (by decide) (hts (.fieldLink RX1 34 "LinkedIndexModel" "size" "I") (wm mb_55)) (fun _ h9 => h9) rfl dX1_key_7 ?_
    refine lv_icmp_lt (tgt := 17) hx hb dX1_key_10 (by decide) (fun h2 => ?_) (fun h2 => ?_)
    · skip
      have hs : okP x n := ⟨h1, h2⟩
      rw [show cdP x n = 0 from if_pos hs]
      obtain ⟨j, hj, rfl⟩ := okP_of (by omega) hs
      rw [show ix (nI j) = j from nI_clamp (by omega)]
      refine lv_iconst (v := 0) hx hb dX1_key_17 (by decide) ?_
      refine va_put (D := D) (ci := 1) (v := .int 0) (ty := .int) (C := RX1) (T := TX1) (N := 7) hx hb hts (fun w h => wm (ui_X1 w h)) tyX1 tyX1_ok nmX1 hown hK hP hD hS 0 rfl rfl 0 (by decide) (hts (.fieldLink RX1 26 "LinkedIndexModel" "code" "I") (wm mb_47)) (fun _ h9 => h9) rfl (by decide +kernel) rfl rfl (Nat.le_of_ble_eq_true rfl) dX1_key_18 (fun H locs hP hD hS => ?_)
      have hP : va_P D vwCl (wM b g 0 n K V (fun i9 => kd i9 + 1) SK SV) H := hP
      have hD : va_D A (wM b g 0 n K V (fun i9 => kd i9 + 1) SK SV) := hD
      refine lv_aload_n hx hb dX1_key_21 rfl (lv_at hl 0 rfl) ?_
      refine va_get (D := D) (ci := 1) (v := .int 0) (C := RX1) (T := TX1) (N := 7) hx hb hts (fun w h => wm (ui_X1 w h)) hown hK hP 0 rfl rfl 0 (by decide) (hts (.fieldLink RX1 26 "LinkedIndexModel" "code" "I") (wm mb_47)) (fun _ h9 => h9) rfl dX1_key_22 ?_
      refine lv_if_ne (tgt := 37) hx hb dX1_key_25 (by decide) (fun h9 => ?_) (fun h9 => ?_)
      · skip
        first | exact absurd h9 (by decide) | exact (h9 rfl).elim
      · skip
        refine lv_aload_n hx hb dX1_key_28 rfl (lv_at hl 0 rfl) ?_
        refine va_get (D := D) (ci := 1) (v := .ref (b 1)) (C := RX1) (T := TX1) (N := 7) hx hb hts (fun w h => wm (ui_X1 w h)) hown hK hP 0 rfl rfl 2 (by decide) (hts (.fieldLink RX1 7 "LinkedIndexModel" "keys" "[J") (wm mb_56)) (fun _ h9 => h9) rfl dX1_key_29 ?_
        refine lv_iload_n hx hb dX1_key_32 rfl (lv_at hl 1 rfl) ?_
        refine x_lald (j := j) hx hb hK hP 1 0 rfl rfl (by omega) (by decide) dX1_key_33 ?_
        refine lv_goto (tgt := 38) hx hb dX1_key_34 (by decide) ?_
        exact fn_l hx hb hr hlocks (by decide) (by decide) (fun _ => rfl) hP hK hD hS dX1_key_38
    · skip
      have hs : ¬ okP x n := fun q => h2 q.2
      rw [show cdP x n = 1 from if_neg hs]
      refine lv_iconst (v := 1) hx hb dX1_key_13 (by decide) ?_
      refine lv_goto (tgt := 18) hx hb dX1_key_14 (by decide) ?_
      refine va_put (D := D) (ci := 1) (v := .int 1) (ty := .int) (C := RX1) (T := TX1) (N := 7) hx hb hts (fun w h => wm (ui_X1 w h)) tyX1 tyX1_ok nmX1 hown hK hP hD hS 0 rfl rfl 0 (by decide) (hts (.fieldLink RX1 26 "LinkedIndexModel" "code" "I") (wm mb_47)) (fun _ h9 => h9) rfl (by decide +kernel) rfl rfl (Nat.le_of_ble_eq_true rfl) dX1_key_18 (fun H locs hP hD hS => ?_)
      have hP : va_P D vwCl (wM b g 1 n K V (fun i9 => kd i9 + 1) SK SV) H := hP
      have hD : va_D A (wM b g 1 n K V (fun i9 => kd i9 + 1) SK SV) := hD
      refine lv_aload_n hx hb dX1_key_21 rfl (lv_at hl 0 rfl) ?_
      refine va_get (D := D) (ci := 1) (v := .int 1) (C := RX1) (T := TX1) (N := 7) hx hb hts (fun w h => wm (ui_X1 w h)) hown hK hP 0 rfl rfl 0 (by decide) (hts (.fieldLink RX1 26 "LinkedIndexModel" "code" "I") (wm mb_47)) (fun _ h9 => h9) rfl dX1_key_22 ?_
      refine lv_if_ne (tgt := 37) hx hb dX1_key_25 (by decide) (fun h9 => ?_) (fun h9 => ?_)
      · skip
        refine lv_lconst (v := 0) hx hb dX1_key_37 (by decide) ?_
        exact fn_l hx hb hr hlocks (by decide) (by decide) (fun q => absurd q hs) hP hK hD hS dX1_key_38
      · skip
        first | exact absurd h9 (by decide) | exact (h9 rfl).elim
set_option maxHeartbeats 1000000 in
set_option maxRecDepth 100000 in
theorem m_value (l : Launch) (hl9 : l.stackTraces = false) (D : va_G) (b : Nat → Nat) (g : Nat → ClassId) (cd : Int32) (n : Nat) (K V : Nat → Int64) (kd : Nat → Int32) (SK SV : Nat → Int64) (x : Int32) (sz : Nat) (hn : n ≤ 100) : Met l yX1_value wsX1_value ({ frames := 0, cells := 0, slots := 0, locals := 0 }) (cP D (tM g) (wM b g cd n K V (fun i9 => kd i9 + 1) SK SV) [.ref (b 0), .int x] sz) (cQl D (tM g) (fun v => okP x n → v = V (ix x)) (wM b g (cdP x n) n K V (fun i9 => kd i9 + 1) SK SV) (va_A (wM b g cd n K V (fun i9 => kd i9 + 1) SK SV) sz)) 0 0 (va_A (wM b g cd n K V (fun i9 => kd i9 + 1) SK SV) sz) := by
  refine mk_n (cc := cX1_value) (maxL := 2) (ret := (some .long)) (fun A => cQl D (tM g) (fun v => okP x n → v = V (ix x)) (wM b g (cdP x n) n K V (fun i9 => kd i9 + 1) SK SV) A) (by decide) rfl (Nat.le_of_ble_eq_true rfl) ?_
  intro p e s m below meth c ls A hx hb hr hml hlocks hnm hown hts hP hK hD hZ hA hS hl
  have hown : s.vm.findClass RX1 = some m.cls := hown
  have hl : lv_has ls 2 [(0, .ref (b 0)), (1, .int x)] := hl
  refine lv_aload_n hx hb dX1_value_0 rfl (lv_at hl 0 rfl) ?_
  refine lv_iload_n hx hb dX1_value_1 rfl (lv_at hl 1 rfl) ?_
  refine lv_if_lt (tgt := 13) hx hb dX1_value_2 (by decide) (fun h1 => ?_) (fun h1 => ?_)
  · skip
    have hs : ¬ okP x n := fun q => q.1 h1
    rw [show cdP x n = 1 from if_neg hs]
    refine lv_iconst (v := 1) hx hb dX1_value_13 (by decide) ?_
    refine lv_goto (tgt := 18) hx hb dX1_value_14 (by decide) ?_
    refine va_put (D := D) (ci := 1) (v := .int 1) (ty := .int) (C := RX1) (T := TX1) (N := 7) hx hb hts (fun w h => wm (ui_X1 w h)) tyX1 tyX1_ok nmX1 hown hK hP hD hS 0 rfl rfl 0 (by decide) (hts (.fieldLink RX1 26 "LinkedIndexModel" "code" "I") (wm mb_47)) (fun _ h9 => h9) rfl (by decide +kernel) rfl rfl (Nat.le_of_ble_eq_true rfl) dX1_value_18 (fun H locs hP hD hS => ?_)
    have hP : va_P D vwCl (wM b g 1 n K V (fun i9 => kd i9 + 1) SK SV) H := hP
    have hD : va_D A (wM b g 1 n K V (fun i9 => kd i9 + 1) SK SV) := hD
    refine lv_aload_n hx hb dX1_value_21 rfl (lv_at hl 0 rfl) ?_
    refine va_get (D := D) (ci := 1) (v := .int 1) (C := RX1) (T := TX1) (N := 7) hx hb hts (fun w h => wm (ui_X1 w h)) hown hK hP 0 rfl rfl 0 (by decide) (hts (.fieldLink RX1 26 "LinkedIndexModel" "code" "I") (wm mb_47)) (fun _ h9 => h9) rfl dX1_value_22 ?_
    refine lv_if_ne (tgt := 37) hx hb dX1_value_25 (by decide) (fun h9 => ?_) (fun h9 => ?_)
    · skip
      refine lv_lconst (v := 0) hx hb dX1_value_37 (by decide) ?_
      exact fn_l hx hb hr hlocks (by decide) (by decide) (fun q => absurd q hs) hP hK hD hS dX1_value_38
    · skip
      first | exact absurd h9 (by decide) | exact (h9 rfl).elim
  · skip
    refine lv_iload_n hx hb dX1_value_5 rfl (lv_at hl 1 rfl) ?_
    refine lv_aload_n hx hb dX1_value_6 rfl (lv_at hl 0 rfl) ?_
    refine va_get (D := D) (ci := 1) (v := .int (nI n)) (C := RX1) (T := TX1) (N := 7) hx hb hts (fun w h => wm (ui_X1 w h)) hown hK hP 0 rfl rfl 1 (by decide) (hts (.fieldLink RX1 34 "LinkedIndexModel" "size" "I") (wm mb_55)) (fun _ h9 => h9) rfl dX1_value_7 ?_
    refine lv_icmp_lt (tgt := 17) hx hb dX1_value_10 (by decide) (fun h2 => ?_) (fun h2 => ?_)
    · skip
      have hs : okP x n := ⟨h1, h2⟩
      rw [show cdP x n = 0 from if_pos hs]
      obtain ⟨j, hj, rfl⟩ := okP_of (by omega) hs
      rw [show ix (nI j) = j from nI_clamp (by omega)]
      refine lv_iconst (v := 0) hx hb dX1_value_17 (by decide) ?_
      refine va_put (D := D) (ci := 1) (v := .int 0) (ty := .int) (C := RX1) (T := TX1) (N := 7) hx hb hts (fun w h => wm (ui_X1 w h)) tyX1 tyX1_ok nmX1 hown hK hP hD hS 0 rfl rfl 0 (by decide) (hts (.fieldLink RX1 26 "LinkedIndexModel" "code" "I") (wm mb_47)) (fun _ h9 => h9) rfl (by decide +kernel) rfl rfl (Nat.le_of_ble_eq_true rfl) dX1_value_18 (fun H locs hP hD hS => ?_)
      have hP : va_P D vwCl (wM b g 0 n K V (fun i9 => kd i9 + 1) SK SV) H := hP
      have hD : va_D A (wM b g 0 n K V (fun i9 => kd i9 + 1) SK SV) := hD
      refine lv_aload_n hx hb dX1_value_21 rfl (lv_at hl 0 rfl) ?_
      refine va_get (D := D) (ci := 1) (v := .int 0) (C := RX1) (T := TX1) (N := 7) hx hb hts (fun w h => wm (ui_X1 w h)) hown hK hP 0 rfl rfl 0 (by decide) (hts (.fieldLink RX1 26 "LinkedIndexModel" "code" "I") (wm mb_47)) (fun _ h9 => h9) rfl dX1_value_22 ?_
      refine lv_if_ne (tgt := 37) hx hb dX1_value_25 (by decide) (fun h9 => ?_) (fun h9 => ?_)
      · skip
        first | exact absurd h9 (by decide) | exact (h9 rfl).elim
      · skip
        refine lv_aload_n hx hb dX1_value_28 rfl (lv_at hl 0 rfl) ?_
        refine va_get (D := D) (ci := 1) (v := .ref (b 2)) (C := RX1) (T := TX1) (N := 7) hx hb hts (fun w h => wm (ui_X1 w h)) hown hK hP 0 rfl rfl 3 (by decide) (hts (.fieldLink RX1 13 "LinkedIndexModel" "values" "[J") (wm mb_57)) (fun _ h9 => h9) rfl dX1_value_29 ?_
        refine lv_iload_n hx hb dX1_value_32 rfl (lv_at hl 1 rfl) ?_
        refine x_lald (j := j) hx hb hK hP 2 1 rfl rfl (by omega) (by decide) dX1_value_33 ?_
        refine lv_goto (tgt := 38) hx hb dX1_value_34 (by decide) ?_
        exact fn_l hx hb hr hlocks (by decide) (by decide) (fun _ => rfl) hP hK hD hS dX1_value_38
    · skip
      have hs : ¬ okP x n := fun q => h2 q.2
      rw [show cdP x n = 1 from if_neg hs]
      refine lv_iconst (v := 1) hx hb dX1_value_13 (by decide) ?_
      refine lv_goto (tgt := 18) hx hb dX1_value_14 (by decide) ?_
      refine va_put (D := D) (ci := 1) (v := .int 1) (ty := .int) (C := RX1) (T := TX1) (N := 7) hx hb hts (fun w h => wm (ui_X1 w h)) tyX1 tyX1_ok nmX1 hown hK hP hD hS 0 rfl rfl 0 (by decide) (hts (.fieldLink RX1 26 "LinkedIndexModel" "code" "I") (wm mb_47)) (fun _ h9 => h9) rfl (by decide +kernel) rfl rfl (Nat.le_of_ble_eq_true rfl) dX1_value_18 (fun H locs hP hD hS => ?_)
      have hP : va_P D vwCl (wM b g 1 n K V (fun i9 => kd i9 + 1) SK SV) H := hP
      have hD : va_D A (wM b g 1 n K V (fun i9 => kd i9 + 1) SK SV) := hD
      refine lv_aload_n hx hb dX1_value_21 rfl (lv_at hl 0 rfl) ?_
      refine va_get (D := D) (ci := 1) (v := .int 1) (C := RX1) (T := TX1) (N := 7) hx hb hts (fun w h => wm (ui_X1 w h)) hown hK hP 0 rfl rfl 0 (by decide) (hts (.fieldLink RX1 26 "LinkedIndexModel" "code" "I") (wm mb_47)) (fun _ h9 => h9) rfl dX1_value_22 ?_
      refine lv_if_ne (tgt := 37) hx hb dX1_value_25 (by decide) (fun h9 => ?_) (fun h9 => ?_)
      · skip
        refine lv_lconst (v := 0) hx hb dX1_value_37 (by decide) ?_
        exact fn_l hx hb hr hlocks (by decide) (by decide) (fun q => absurd q hs) hP hK hD hS dX1_value_38
      · skip
        first | exact absurd h9 (by decide) | exact (h9 rfl).elim
set_option maxHeartbeats 1000000 in
set_option maxRecDepth 100000 in
theorem m_count (l : Launch) (hl9 : l.stackTraces = false) (D : va_G) (b : Nat → Nat) (g : Nat → ClassId) (cd : Int32) (n : Nat) (K V : Nat → Int64) (kd : Nat → Int32) (SK SV : Nat → Int64) (fr to_ : Int64) (sz : Nat) (hn : n ≤ 100) (hm : mono K n) : Met l yX1_count wsX1_count ({ frames := 0, cells := 0, slots := 0, locals := 0 }) (cP D (tM g) (wM b g cd n K V (fun i9 => kd i9 + 1) SK SV) [.ref (b 0), .long fr, .long to_] sz) (cQi D (tM g) (fun v => v = cntS K n fr to_) (wM b g 0 n K V (fun i9 => kd i9 + 1) SK SV) (va_A (wM b g cd n K V (fun i9 => kd i9 + 1) SK SV) sz)) 0 0 (va_A (wM b g cd n K V (fun i9 => kd i9 + 1) SK SV) sz) := by
  refine mk_n (cc := cX1_count) (maxL := 7) (ret := (some .int)) (fun A => cQi D (tM g) (fun v => v = cntS K n fr to_) (wM b g 0 n K V (fun i9 => kd i9 + 1) SK SV) A) (by decide) rfl (Nat.le_of_ble_eq_true rfl) ?_
  intro p e s m below meth c ls A hx hb hr hml hlocks hnm hown hts hP hK hD hZ hA hS hl
  have hown : s.vm.findClass RX1 = some m.cls := hown
  have hl : lv_has ls 7 [(0, .ref (b 0)), (1, .long fr), (3, .long to_)] := hl
  refine lv_aload_n hx hb dX1_count_0 rfl (lv_at hl 0 rfl) ?_
  refine lv_iconst (v := 0) hx hb dX1_count_1 (by decide) ?_
  refine va_put (D := D) (ci := 1) (v := .int 0) (ty := .int) (C := RX1) (T := TX1) (N := 7) hx hb hts (fun w h => wm (ui_X1 w h)) tyX1 tyX1_ok nmX1 hown hK hP hD hS 0 rfl rfl 0 (by decide) (hts (.fieldLink RX1 26 "LinkedIndexModel" "code" "I") (wm mb_47)) (fun _ h9 => h9) rfl (by decide +kernel) rfl rfl (Nat.le_of_ble_eq_true rfl) dX1_count_2 (fun H locs hP hD hS => ?_)
  have hP : va_P D vwCl (wM b g 0 n K V (fun i9 => kd i9 + 1) SK SV) H := hP
  have hD : va_D A (wM b g 0 n K V (fun i9 => kd i9 + 1) SK SV) := hD
  refine lv_iconst (v := 0) hx hb dX1_count_5 (by decide) ?_
  refine lv_istore (lv' := [(5, .int 0), (0, .ref (b 0)), (1, .long fr), (3, .long to_)]) hx hb dX1_count_6 hl (by decide) rfl (fun ls hl => ?_)
  refine lv_iconst (v := 0) hx hb dX1_count_8 (by decide) ?_
  refine lv_istore (lv' := [(6, .int 0), (5, .int 0), (0, .ref (b 0)), (1, .long fr), (3, .long to_)]) hx hb dX1_count_9 hl (by decide) rfl (fun ls hl => ?_)
  have loop : ∀ (f i : Nat) (acc : Int32), n - i = f → i ≤ n → cM (fun x y : Int32 => x + y) 0 (fun _ => 1) K fr to_ f i acc = cntS K n fr to_ → ∀ ls : Array Slot, lv_has ls 7 [(6, .int (nI i)), (5, .int acc), (0, .ref (b 0)), (1, .long fr), (3, .long to_)] → W p l e ({ frames := 0, cells := 0, slots := 0, locals := 0 }) s m ([.ref (b 0), .long fr, .long to_] : List Value).toArray below meth c H locs 0 0 (MQ below (cQi D (tM g) (fun v => v = cntS K n fr to_) (wM b g 0 n K V (fun i9 => kd i9 + 1) SK SV) A) ([.ref (b 0), .long fr, .long to_] : List Value).toArray s 0 0 A) (F0 m 11 ls []) := by
    intro f
    induction f with
    | zero =>
      intro i acc hf hi hk ls hl
      refine lv_iload hx hb dX1_count_11 (lv_at hl 0 rfl) ?_
      refine lv_aload_n hx hb dX1_count_13 rfl (lv_at hl 2 rfl) ?_
      refine va_get (D := D) (ci := 1) (v := .int (nI n)) (C := RX1) (T := TX1) (N := 7) hx hb hts (fun w h => wm (ui_X1 w h)) hown hK hP 0 rfl rfl 1 (by decide) (hts (.fieldLink RX1 34 "LinkedIndexModel" "size" "I") (wm mb_55)) (fun _ h9 => h9) rfl dX1_count_14 ?_
      refine lv_icmp_ge (tgt := 60) hx hb dX1_count_17 (by decide) (fun h1 => ?_) (fun h1 => ?_)
      · skip
        refine lv_iload hx hb dX1_count_60 (lv_at hl 1 rfl) ?_
        exact fn_i hx hb hr hlocks (by decide) (by decide) hk hP hK hD hS dX1_count_62
      · skip
        exact absurd ((nI_leI (by omega) (by omega)).mpr (by omega)) h1
    | succ f ih =>
      intro i acc hf hi hk ls hl
      refine lv_iload hx hb dX1_count_11 (lv_at hl 0 rfl) ?_
      refine lv_aload_n hx hb dX1_count_13 rfl (lv_at hl 2 rfl) ?_
      refine va_get (D := D) (ci := 1) (v := .int (nI n)) (C := RX1) (T := TX1) (N := 7) hx hb hts (fun w h => wm (ui_X1 w h)) hown hK hP 0 rfl rfl 1 (by decide) (hts (.fieldLink RX1 34 "LinkedIndexModel" "size" "I") (wm mb_55)) (fun _ h9 => h9) rfl dX1_count_14 ?_
      refine lv_icmp_ge (tgt := 60) hx hb dX1_count_17 (by decide) (fun h1 => ?_) (fun h1 => ?_)
      · skip
        exact absurd ((nI_leI (by omega) (by omega)).mp h1) (by omega)
      · skip
        refine lv_iload hx hb dX1_count_20 (lv_at hl 1 rfl) ?_
        refine lv_aload_n hx hb dX1_count_22 rfl (lv_at hl 2 rfl) ?_
        refine va_get (D := D) (ci := 1) (v := .ref (b 1)) (C := RX1) (T := TX1) (N := 7) hx hb hts (fun w h => wm (ui_X1 w h)) hown hK hP 0 rfl rfl 2 (by decide) (hts (.fieldLink RX1 7 "LinkedIndexModel" "keys" "[J") (wm mb_56)) (fun _ h9 => h9) rfl dX1_count_23 ?_
        refine lv_iload hx hb dX1_count_26 (lv_at hl 0 rfl) ?_
        refine x_lald (j := i) hx hb hK hP 1 0 rfl rfl (by omega) (by decide) dX1_count_28 ?_
        refine lv_lload_n hx hb dX1_count_29 rfl (lv_at hl 3 rfl) ?_
        refine W.lcmp hx hb dX1_count_30 ?_
        refine lv_if_lt (tgt := 50) hx hb dX1_count_31 (by decide) (fun h2 => ?_) (fun h2 => ?_)
        · skip
          have h2 : ¬ fr ≤ K i := i64_nltle ((lg_cmp_lt _ _).mp h2)
          have hk : cM (fun x y : Int32 => x + y) 0 (fun _ => 1) K fr to_ f (i + 1) (acc + 0) = cntS K n fr to_ := by
            rw [← hk]
            show _ = cM (fun x y : Int32 => x + y) 0 (fun _ => 1) K fr to_ f (i + 1) (acc + (if fr ≤ K i ∧ K i ≤ to_ then 1 else 0))
            rw [if_neg (fun q => h2 q.1)]
          refine lv_iconst (v := 0) hx hb dX1_count_50 (by decide) ?_
          refine lv_iadd hx hb dX1_count_51 ?_
          refine lv_istore (lv' := [(5, .int (acc + 0)), (6, .int (nI i)), (0, .ref (b 0)), (1, .long fr), (3, .long to_)]) hx hb dX1_count_52 hl (by decide) rfl (fun ls hl => ?_)
          refine lv_iinc (k := 1) (v := nI (i + 1)) (lv' := [(6, .int (nI (i + 1))), (5, .int (acc + 0)), (0, .ref (b 0)), (1, .long fr), (3, .long to_)]) hx hb dX1_count_54 hl rfl (by rw [show Int32.ofInt 1 = 1 from by decide]; exact nI_1 _) (by decide) rfl (fun ls hl => ?_)
          refine lv_goto (tgt := 11) hx hb dX1_count_57 (by decide) ?_
          exact ih (i + 1) _ (by omega) (by omega) hk ls (lv_sub hl [0, 1, 2, 3, 4] rfl)
        · skip
          have h2 : fr ≤ K i := i64_nlt (fun q => h2 ((lg_cmp_lt _ _).mpr q))
          refine lv_aload_n hx hb dX1_count_34 rfl (lv_at hl 2 rfl) ?_
          refine va_get (D := D) (ci := 1) (v := .ref (b 1)) (C := RX1) (T := TX1) (N := 7) hx hb hts (fun w h => wm (ui_X1 w h)) hown hK hP 0 rfl rfl 2 (by decide) (hts (.fieldLink RX1 7 "LinkedIndexModel" "keys" "[J") (wm mb_56)) (fun _ h9 => h9) rfl dX1_count_35 ?_
          refine lv_iload hx hb dX1_count_38 (lv_at hl 0 rfl) ?_
          refine x_lald (j := i) hx hb hK hP 1 0 rfl rfl (by omega) (by decide) dX1_count_40 ?_
          refine lv_lload_n hx hb dX1_count_41 rfl (lv_at hl 4 rfl) ?_
          refine W.lcmp hx hb dX1_count_42 ?_
          refine lv_if_gt (tgt := 50) hx hb dX1_count_43 (by decide) (fun h3 => ?_) (fun h3 => ?_)
          · skip
            have h3 : ¬ K i ≤ to_ := i64_nltle ((lg_cmp_gt _ _).mp h3)
            have hk : cM (fun x y : Int32 => x + y) 0 (fun _ => 1) K fr to_ f (i + 1) (acc + 0) = cntS K n fr to_ := by
              rw [← hk]
              show _ = cM (fun x y : Int32 => x + y) 0 (fun _ => 1) K fr to_ f (i + 1) (acc + (if fr ≤ K i ∧ K i ≤ to_ then 1 else 0))
              rw [if_neg (fun q => h3 q.2)]
            refine lv_iconst (v := 0) hx hb dX1_count_50 (by decide) ?_
            refine lv_iadd hx hb dX1_count_51 ?_
            refine lv_istore (lv' := [(5, .int (acc + 0)), (6, .int (nI i)), (0, .ref (b 0)), (1, .long fr), (3, .long to_)]) hx hb dX1_count_52 hl (by decide) rfl (fun ls hl => ?_)
            refine lv_iinc (k := 1) (v := nI (i + 1)) (lv' := [(6, .int (nI (i + 1))), (5, .int (acc + 0)), (0, .ref (b 0)), (1, .long fr), (3, .long to_)]) hx hb dX1_count_54 hl rfl (by rw [show Int32.ofInt 1 = 1 from by decide]; exact nI_1 _) (by decide) rfl (fun ls hl => ?_)
            refine lv_goto (tgt := 11) hx hb dX1_count_57 (by decide) ?_
            exact ih (i + 1) _ (by omega) (by omega) hk ls (lv_sub hl [0, 1, 2, 3, 4] rfl)
          · skip
            have h3 : K i ≤ to_ := i64_nlt (fun q => h3 ((lg_cmp_gt _ _).mpr q))
            have hk : cM (fun x y : Int32 => x + y) 0 (fun _ => 1) K fr to_ f (i + 1) (acc + 1) = cntS K n fr to_ := by
              rw [← hk]
              show _ = cM (fun x y : Int32 => x + y) 0 (fun _ => 1) K fr to_ f (i + 1) (acc + (if fr ≤ K i ∧ K i ≤ to_ then 1 else 0))
              rw [if_pos ⟨h2, h3⟩]
            refine lv_iconst (v := 1) hx hb dX1_count_46 (by decide) ?_
            refine lv_goto (tgt := 51) hx hb dX1_count_47 (by decide) ?_
            refine lv_iadd hx hb dX1_count_51 ?_
            refine lv_istore (lv' := [(5, .int (acc + 1)), (6, .int (nI i)), (0, .ref (b 0)), (1, .long fr), (3, .long to_)]) hx hb dX1_count_52 hl (by decide) rfl (fun ls hl => ?_)
            refine lv_iinc (k := 1) (v := nI (i + 1)) (lv' := [(6, .int (nI (i + 1))), (5, .int (acc + 1)), (0, .ref (b 0)), (1, .long fr), (3, .long to_)]) hx hb dX1_count_54 hl rfl (by rw [show Int32.ofInt 1 = 1 from by decide]; exact nI_1 _) (by decide) rfl (fun ls hl => ?_)
            refine lv_goto (tgt := 11) hx hb dX1_count_57 (by decide) ?_
            exact ih (i + 1) _ (by omega) (by omega) hk ls (lv_sub hl [0, 1, 2, 3, 4] rfl)
  exact loop n 0 _ (by omega) (by omega) (cM_is (fun x => Int32.add_zero x) hm 0) ls (lv_sub hl [0, 1, 2, 3, 4] rfl)
set_option maxHeartbeats 1000000 in
set_option maxRecDepth 100000 in
theorem m_sum (l : Launch) (hl9 : l.stackTraces = false) (D : va_G) (b : Nat → Nat) (g : Nat → ClassId) (cd : Int32) (n : Nat) (K V : Nat → Int64) (kd : Nat → Int32) (SK SV : Nat → Int64) (fr to_ : Int64) (sz : Nat) (hn : n ≤ 100) (hm : mono K n) : Met l yX1_sum wsX1_sum ({ frames := 0, cells := 0, slots := 0, locals := 0 }) (cP D (tM g) (wM b g cd n K V (fun i9 => kd i9 + 1) SK SV) [.ref (b 0), .long fr, .long to_] sz) (cQl D (tM g) (fun v => v = sumS K V n fr to_) (wM b g 0 n K V (fun i9 => kd i9 + 1) SK SV) (va_A (wM b g cd n K V (fun i9 => kd i9 + 1) SK SV) sz)) 0 0 (va_A (wM b g cd n K V (fun i9 => kd i9 + 1) SK SV) sz) := by
  refine mk_n (cc := cX1_sum) (maxL := 8) (ret := (some .long)) (fun A => cQl D (tM g) (fun v => v = sumS K V n fr to_) (wM b g 0 n K V (fun i9 => kd i9 + 1) SK SV) A) (by decide) rfl (Nat.le_of_ble_eq_true rfl) ?_
  intro p e s m below meth c ls A hx hb hr hml hlocks hnm hown hts hP hK hD hZ hA hS hl
  have hown : s.vm.findClass RX1 = some m.cls := hown
  have hl : lv_has ls 8 [(0, .ref (b 0)), (1, .long fr), (3, .long to_)] := hl
  refine lv_aload_n hx hb dX1_sum_0 rfl (lv_at hl 0 rfl) ?_
  refine lv_iconst (v := 0) hx hb dX1_sum_1 (by decide) ?_
  refine va_put (D := D) (ci := 1) (v := .int 0) (ty := .int) (C := RX1) (T := TX1) (N := 7) hx hb hts (fun w h => wm (ui_X1 w h)) tyX1 tyX1_ok nmX1 hown hK hP hD hS 0 rfl rfl 0 (by decide) (hts (.fieldLink RX1 26 "LinkedIndexModel" "code" "I") (wm mb_47)) (fun _ h9 => h9) rfl (by decide +kernel) rfl rfl (Nat.le_of_ble_eq_true rfl) dX1_sum_2 (fun H locs hP hD hS => ?_)
  have hP : va_P D vwCl (wM b g 0 n K V (fun i9 => kd i9 + 1) SK SV) H := hP
  have hD : va_D A (wM b g 0 n K V (fun i9 => kd i9 + 1) SK SV) := hD
  refine lv_lconst (v := 0) hx hb dX1_sum_5 (by decide) ?_
  refine lv_lstore (lv' := [(5, .long 0), (0, .ref (b 0)), (1, .long fr), (3, .long to_)]) hx hb dX1_sum_6 hl (by decide) rfl (fun ls hl => ?_)
  refine lv_iconst (v := 0) hx hb dX1_sum_8 (by decide) ?_
  refine lv_istore (lv' := [(7, .int 0), (5, .long 0), (0, .ref (b 0)), (1, .long fr), (3, .long to_)]) hx hb dX1_sum_9 hl (by decide) rfl (fun ls hl => ?_)
  have loop : ∀ (f i : Nat) (acc : Int64), n - i = f → i ≤ n → cM (fun x y : Int64 => x + y) 0 V K fr to_ f i acc = sumS K V n fr to_ → ∀ ls : Array Slot, lv_has ls 8 [(7, .int (nI i)), (5, .long acc), (0, .ref (b 0)), (1, .long fr), (3, .long to_)] → W p l e ({ frames := 0, cells := 0, slots := 0, locals := 0 }) s m ([.ref (b 0), .long fr, .long to_] : List Value).toArray below meth c H locs 0 0 (MQ below (cQl D (tM g) (fun v => v = sumS K V n fr to_) (wM b g 0 n K V (fun i9 => kd i9 + 1) SK SV) A) ([.ref (b 0), .long fr, .long to_] : List Value).toArray s 0 0 A) (F0 m 11 ls []) := by
    intro f
    induction f with
    | zero =>
      intro i acc hf hi hk ls hl
      refine lv_iload hx hb dX1_sum_11 (lv_at hl 0 rfl) ?_
      refine lv_aload_n hx hb dX1_sum_13 rfl (lv_at hl 2 rfl) ?_
      refine va_get (D := D) (ci := 1) (v := .int (nI n)) (C := RX1) (T := TX1) (N := 7) hx hb hts (fun w h => wm (ui_X1 w h)) hown hK hP 0 rfl rfl 1 (by decide) (hts (.fieldLink RX1 34 "LinkedIndexModel" "size" "I") (wm mb_55)) (fun _ h9 => h9) rfl dX1_sum_14 ?_
      refine lv_icmp_ge (tgt := 66) hx hb dX1_sum_17 (by decide) (fun h1 => ?_) (fun h1 => ?_)
      · skip
        refine lv_lload hx hb dX1_sum_66 (lv_at hl 1 rfl) ?_
        exact fn_l hx hb hr hlocks (by decide) (by decide) hk hP hK hD hS dX1_sum_68
      · skip
        exact absurd ((nI_leI (by omega) (by omega)).mpr (by omega)) h1
    | succ f ih =>
      intro i acc hf hi hk ls hl
      refine lv_iload hx hb dX1_sum_11 (lv_at hl 0 rfl) ?_
      refine lv_aload_n hx hb dX1_sum_13 rfl (lv_at hl 2 rfl) ?_
      refine va_get (D := D) (ci := 1) (v := .int (nI n)) (C := RX1) (T := TX1) (N := 7) hx hb hts (fun w h => wm (ui_X1 w h)) hown hK hP 0 rfl rfl 1 (by decide) (hts (.fieldLink RX1 34 "LinkedIndexModel" "size" "I") (wm mb_55)) (fun _ h9 => h9) rfl dX1_sum_14 ?_
      refine lv_icmp_ge (tgt := 66) hx hb dX1_sum_17 (by decide) (fun h1 => ?_) (fun h1 => ?_)
      · skip
        exact absurd ((nI_leI (by omega) (by omega)).mp h1) (by omega)
      · skip
        refine lv_lload hx hb dX1_sum_20 (lv_at hl 1 rfl) ?_
        refine lv_aload_n hx hb dX1_sum_22 rfl (lv_at hl 2 rfl) ?_
        refine va_get (D := D) (ci := 1) (v := .ref (b 1)) (C := RX1) (T := TX1) (N := 7) hx hb hts (fun w h => wm (ui_X1 w h)) hown hK hP 0 rfl rfl 2 (by decide) (hts (.fieldLink RX1 7 "LinkedIndexModel" "keys" "[J") (wm mb_56)) (fun _ h9 => h9) rfl dX1_sum_23 ?_
        refine lv_iload hx hb dX1_sum_26 (lv_at hl 0 rfl) ?_
        refine x_lald (j := i) hx hb hK hP 1 0 rfl rfl (by omega) (by decide) dX1_sum_28 ?_
        refine lv_lload_n hx hb dX1_sum_29 rfl (lv_at hl 3 rfl) ?_
        refine W.lcmp hx hb dX1_sum_30 ?_
        refine lv_if_lt (tgt := 56) hx hb dX1_sum_31 (by decide) (fun h2 => ?_) (fun h2 => ?_)
        · skip
          have h2 : ¬ fr ≤ K i := i64_nltle ((lg_cmp_lt _ _).mp h2)
          have hk : cM (fun x y : Int64 => x + y) 0 V K fr to_ f (i + 1) (acc + 0) = sumS K V n fr to_ := by
            rw [← hk]
            show _ = cM (fun x y : Int64 => x + y) 0 V K fr to_ f (i + 1) (acc + (if fr ≤ K i ∧ K i ≤ to_ then V i else 0))
            rw [if_neg (fun q => h2 q.1)]
          refine lv_lconst (v := 0) hx hb dX1_sum_56 (by decide) ?_
          refine lv_ladd hx hb dX1_sum_57 ?_
          refine lv_lstore (lv' := [(5, .long (acc + 0)), (7, .int (nI i)), (0, .ref (b 0)), (1, .long fr), (3, .long to_)]) hx hb dX1_sum_58 hl (by decide) rfl (fun ls hl => ?_)
          refine lv_iinc (k := 1) (v := nI (i + 1)) (lv' := [(7, .int (nI (i + 1))), (5, .long (acc + 0)), (0, .ref (b 0)), (1, .long fr), (3, .long to_)]) hx hb dX1_sum_60 hl rfl (by rw [show Int32.ofInt 1 = 1 from by decide]; exact nI_1 _) (by decide) rfl (fun ls hl => ?_)
          refine lv_goto (tgt := 11) hx hb dX1_sum_63 (by decide) ?_
          exact ih (i + 1) _ (by omega) (by omega) hk ls (lv_sub hl [0, 1, 2, 3, 4] rfl)
        · skip
          have h2 : fr ≤ K i := i64_nlt (fun q => h2 ((lg_cmp_lt _ _).mpr q))
          refine lv_aload_n hx hb dX1_sum_34 rfl (lv_at hl 2 rfl) ?_
          refine va_get (D := D) (ci := 1) (v := .ref (b 1)) (C := RX1) (T := TX1) (N := 7) hx hb hts (fun w h => wm (ui_X1 w h)) hown hK hP 0 rfl rfl 2 (by decide) (hts (.fieldLink RX1 7 "LinkedIndexModel" "keys" "[J") (wm mb_56)) (fun _ h9 => h9) rfl dX1_sum_35 ?_
          refine lv_iload hx hb dX1_sum_38 (lv_at hl 0 rfl) ?_
          refine x_lald (j := i) hx hb hK hP 1 0 rfl rfl (by omega) (by decide) dX1_sum_40 ?_
          refine lv_lload_n hx hb dX1_sum_41 rfl (lv_at hl 4 rfl) ?_
          refine W.lcmp hx hb dX1_sum_42 ?_
          refine lv_if_gt (tgt := 56) hx hb dX1_sum_43 (by decide) (fun h3 => ?_) (fun h3 => ?_)
          · skip
            have h3 : ¬ K i ≤ to_ := i64_nltle ((lg_cmp_gt _ _).mp h3)
            have hk : cM (fun x y : Int64 => x + y) 0 V K fr to_ f (i + 1) (acc + 0) = sumS K V n fr to_ := by
              rw [← hk]
              show _ = cM (fun x y : Int64 => x + y) 0 V K fr to_ f (i + 1) (acc + (if fr ≤ K i ∧ K i ≤ to_ then V i else 0))
              rw [if_neg (fun q => h3 q.2)]
            refine lv_lconst (v := 0) hx hb dX1_sum_56 (by decide) ?_
            refine lv_ladd hx hb dX1_sum_57 ?_
            refine lv_lstore (lv' := [(5, .long (acc + 0)), (7, .int (nI i)), (0, .ref (b 0)), (1, .long fr), (3, .long to_)]) hx hb dX1_sum_58 hl (by decide) rfl (fun ls hl => ?_)
            refine lv_iinc (k := 1) (v := nI (i + 1)) (lv' := [(7, .int (nI (i + 1))), (5, .long (acc + 0)), (0, .ref (b 0)), (1, .long fr), (3, .long to_)]) hx hb dX1_sum_60 hl rfl (by rw [show Int32.ofInt 1 = 1 from by decide]; exact nI_1 _) (by decide) rfl (fun ls hl => ?_)
            refine lv_goto (tgt := 11) hx hb dX1_sum_63 (by decide) ?_
            exact ih (i + 1) _ (by omega) (by omega) hk ls (lv_sub hl [0, 1, 2, 3, 4] rfl)
          · skip
            have h3 : K i ≤ to_ := i64_nlt (fun q => h3 ((lg_cmp_gt _ _).mpr q))
            have hk : cM (fun x y : Int64 => x + y) 0 V K fr to_ f (i + 1) (acc + V i) = sumS K V n fr to_ := by
              rw [← hk]
              show _ = cM (fun x y : Int64 => x + y) 0 V K fr to_ f (i + 1) (acc + (if fr ≤ K i ∧ K i ≤ to_ then V i else 0))
              rw [if_pos ⟨h2, h3⟩]
            refine lv_aload_n hx hb dX1_sum_46 rfl (lv_at hl 2 rfl) ?_
            refine va_get (D := D) (ci := 1) (v := .ref (b 2)) (C := RX1) (T := TX1) (N := 7) hx hb hts (fun w h => wm (ui_X1 w h)) hown hK hP 0 rfl rfl 3 (by decide) (hts (.fieldLink RX1 13 "LinkedIndexModel" "values" "[J") (wm mb_57)) (fun _ h9 => h9) rfl dX1_sum_47 ?_
            refine lv_iload hx hb dX1_sum_50 (lv_at hl 0 rfl) ?_
            refine x_lald (j := i) hx hb hK hP 2 1 rfl rfl (by omega) (by decide) dX1_sum_52 ?_
            refine lv_goto (tgt := 57) hx hb dX1_sum_53 (by decide) ?_
            refine lv_ladd hx hb dX1_sum_57 ?_
            refine lv_lstore (lv' := [(5, .long (acc + (V i))), (7, .int (nI i)), (0, .ref (b 0)), (1, .long fr), (3, .long to_)]) hx hb dX1_sum_58 hl (by decide) rfl (fun ls hl => ?_)
            refine lv_iinc (k := 1) (v := nI (i + 1)) (lv' := [(7, .int (nI (i + 1))), (5, .long (acc + (V i))), (0, .ref (b 0)), (1, .long fr), (3, .long to_)]) hx hb dX1_sum_60 hl rfl (by rw [show Int32.ofInt 1 = 1 from by decide]; exact nI_1 _) (by decide) rfl (fun ls hl => ?_)
            refine lv_goto (tgt := 11) hx hb dX1_sum_63 (by decide) ?_
            exact ih (i + 1) _ (by omega) (by omega) hk ls (lv_sub hl [0, 1, 2, 3, 4] rfl)
  exact loop n 0 _ (by omega) (by omega) (cM_is (fun x => Int64.add_zero x) hm 0) ls (lv_sub hl [0, 1, 2, 3, 4] rfl)
end
section
set_option maxHeartbeats 1000000 in
set_option maxRecDepth 100000 in
theorem m_finish (l : Launch) (hl9 : l.stackTraces = false) (D : va_G) (b : Nat → Nat) (g : Nat → ClassId) (cd : Int32) (n : Nat) (K V : Nat → Int64) (kd : Nat → Int32) (SK SV : Nat → Int64) (slot : Int32) (sz : Nat) (hn : n ≤ 100) (hk : ∀ j, j < 8 → kOk (kd j)) : Met l yX1_finish wsX1_finish ({ frames := 1, cells := 0, slots := 0, locals := 40 }) (cP D (tM g) (wM b g cd n K V (fun i9 => kd i9 + 1) SK SV) [.ref (b 0), .int slot] sz) (cQl D (tM g) (fun v => (fin n K V kd SK SV slot).1 = 0 → v = (fin n K V kd SK SV slot).2.1) (wM b g ((fin n K V kd SK SV slot).1) ((fin n K V kd SK SV slot).2.2.1) ((fin n K V kd SK SV slot).2.2.2.1) ((fin n K V kd SK SV slot).2.2.2.2.1) (fun i9 => (fin n K V kd SK SV slot).2.2.2.2.2 i9 + 1) SK SV) (va_A (wM b g cd n K V (fun i9 => kd i9 + 1) SK SV) sz)) 0 0 (va_A (wM b g cd n K V (fun i9 => kd i9 + 1) SK SV) sz) := by
  refine mk_n (cc := cX1_finish) (maxL := 8) (ret := (some .long)) (fun A => cQl D (tM g) (fun v => (fin n K V kd SK SV slot).1 = 0 → v = (fin n K V kd SK SV slot).2.1) (wM b g ((fin n K V kd SK SV slot).1) ((fin n K V kd SK SV slot).2.2.1) ((fin n K V kd SK SV slot).2.2.2.1) ((fin n K V kd SK SV slot).2.2.2.2.1) (fun i9 => (fin n K V kd SK SV slot).2.2.2.2.2 i9 + 1) SK SV) A) (by decide) rfl (Nat.le_of_ble_eq_true rfl) ?_
  intro p e s m below meth c ls A hx hb hr hml hlocks hnm hown hts hP hK hD hZ hA hS hl
  have hown : s.vm.findClass RX1 = some m.cls := hown
  have hl : lv_has ls 8 [(0, .ref (b 0)), (1, .int slot)] := hl
  refine lv_aload_n hx hb dX1_finish_0 rfl (lv_at hl 0 rfl) ?_
  refine lv_iload_n hx hb dX1_finish_1 rfl (lv_at hl 1 rfl) ?_
  refine kn_i (wc := []) (wr := (wM b g cd n K V (fun i9 => kd i9 + 1) SK SV)) (w1 := []) (va_runS (As := [.int slot]) (rest := [.ref (b 0)]) ⟨hx, hb, hml, hown, hts⟩ (m_isSlot l hl9 D slot s.heap.size) (va_cwS 1 hts (gd_up (gd_S mb_48 mb_49 mb_50 mb_51)) rfl rfl rfl (by decide +kernel) ⟨by decide, by decide⟩) ⟨cP_blind, cPre hP hD hK hS hA hZ [] rfl (by decide) [] rfl⟩ rfl rfl hl.1 rfl (lv_room (Nat.le_of_ble_eq_true rfl)) dX1_finish_2 ⟨by decide, by decide⟩) hP hD hS hA [] [0, 1, 2, 3, 4, 5] rfl rfl (by decide) (by decide) (fun r9 H locs hp hP hD hS => ?_)
  have hP : va_P D vwCl (wM b g cd n K V (fun i9 => kd i9 + 1) SK SV) H := hP
  have hD : va_D A (wM b g cd n K V (fun i9 => kd i9 + 1) SK SV) := hD
  by_cases hs : okS slot
  · skip
    rw [if_pos hs] at hp
    subst hp
    refine lv_if_ne (tgt := 12) hx hb dX1_finish_5 (by decide) (fun h0 => ?_) (fun h0 => ?_)
    · skip
      obtain ⟨j, hj, rfl⟩ := okS_of hs
      rcases hk j hj with ek | ek | ek | ek | ek
      · skip
        refine lv_aload_n hx hb dX1_finish_12 rfl (lv_at hl 0 rfl) ?_
        refine va_get (D := D) (ci := 1) (v := .ref (b 3)) (C := RX1) (T := TX1) (N := 7) hx hb hts (fun w h => wm (ui_X1 w h)) hown hK hP 0 rfl rfl 4 (by decide) (hts (.fieldLink RX1 16 "LinkedIndexModel" "kinds" "[I") (wm mb_52)) (fun _ h9 => h9) rfl dX1_finish_13 ?_
        refine lv_iload_n hx hb dX1_finish_16 rfl (lv_at hl 1 rfl) ?_
        refine x_iald (j := j) hx hb hK hP 3 2 rfl rfl (by omega) (by decide) dX1_finish_17 ?_
        refine xi (y := 0) ((congrArg (fun z : Int32 => z + 1) ek).trans (by decide)) ?_
        refine lv_if_ne (tgt := 25) hx hb dX1_finish_18 (by decide) (fun h7 => ?_) (fun h7 => ?_)
        · skip
          first | exact absurd h7 (by decide) | exact (h7 rfl).elim
        · skip
          refine lv_iconst (v := 2) hx hb dX1_finish_21 (by decide) ?_
          refine lv_goto (tgt := 26) hx hb dX1_finish_22 (by decide) ?_
          refine va_put (D := D) (ci := 1) (v := .int 2) (ty := .int) (C := RX1) (T := TX1) (N := 7) hx hb hts (fun w h => wm (ui_X1 w h)) tyX1 tyX1_ok nmX1 hown hK hP hD hS 0 rfl rfl 0 (by decide) (hts (.fieldLink RX1 26 "LinkedIndexModel" "code" "I") (wm mb_47)) (fun _ h9 => h9) rfl (by decide +kernel) rfl rfl (Nat.le_of_ble_eq_true rfl) dX1_finish_26 (fun H locs hP hD hS => ?_)
          have hP : va_P D vwCl (wM b g 2 n K V (fun i9 => kd i9 + 1) SK SV) H := hP
          have hD : va_D A (wM b g 2 n K V (fun i9 => kd i9 + 1) SK SV) := hD
          refine lv_aload_n hx hb dX1_finish_29 rfl (lv_at hl 0 rfl) ?_
          refine va_get (D := D) (ci := 1) (v := .int 2) (C := RX1) (T := TX1) (N := 7) hx hb hts (fun w h => wm (ui_X1 w h)) hown hK hP 0 rfl rfl 0 (by decide) (hts (.fieldLink RX1 26 "LinkedIndexModel" "code" "I") (wm mb_47)) (fun _ h9 => h9) rfl dX1_finish_30 ?_
          refine lv_if_le (tgt := 38) hx hb dX1_finish_33 (by decide) (fun h7 => ?_) (fun h7 => ?_)
          · skip
            first | exact absurd h7 (by decide) | exact (h7 rfl).elim
          · skip
            refine lv_lconst (v := 0) hx hb dX1_finish_36 (by decide) ?_
            have hf : fin n K V kd SK SV (nI j) = (2, 0, n, K, V, kd) := by
              unfold fin
              rw [ix_n hj, if_pos (okS_n hj), if_pos ek]
            rw [hf]
            exact fn_l hx hb hr hlocks (by decide) (by decide) (fun q => absurd (show (2 : Int32) = 0 from q) (by decide)) hP hK hD hS dX1_finish_37
      · skip
        refine lv_aload_n hx hb dX1_finish_12 rfl (lv_at hl 0 rfl) ?_
        refine va_get (D := D) (ci := 1) (v := .ref (b 3)) (C := RX1) (T := TX1) (N := 7) hx hb hts (fun w h => wm (ui_X1 w h)) hown hK hP 0 rfl rfl 4 (by decide) (hts (.fieldLink RX1 16 "LinkedIndexModel" "kinds" "[I") (wm mb_52)) (fun _ h9 => h9) rfl dX1_finish_13 ?_
        refine lv_iload_n hx hb dX1_finish_16 rfl (lv_at hl 1 rfl) ?_
        refine x_iald (j := j) hx hb hK hP 3 2 rfl rfl (by omega) (by decide) dX1_finish_17 ?_
        refine xi (y := 1) ((congrArg (fun z : Int32 => z + 1) ek).trans (by decide)) ?_
        refine lv_if_ne (tgt := 25) hx hb dX1_finish_18 (by decide) (fun h7 => ?_) (fun h7 => ?_)
        · skip
          refine lv_iconst (v := 0) hx hb dX1_finish_25 (by decide) ?_
          refine va_put (D := D) (ci := 1) (v := .int 0) (ty := .int) (C := RX1) (T := TX1) (N := 7) hx hb hts (fun w h => wm (ui_X1 w h)) tyX1 tyX1_ok nmX1 hown hK hP hD hS 0 rfl rfl 0 (by decide) (hts (.fieldLink RX1 26 "LinkedIndexModel" "code" "I") (wm mb_47)) (fun _ h9 => h9) rfl (by decide +kernel) rfl rfl (Nat.le_of_ble_eq_true rfl) dX1_finish_26 (fun H locs hP hD hS => ?_)
          have hP : va_P D vwCl (wM b g 0 n K V (fun i9 => kd i9 + 1) SK SV) H := hP
          have hD : va_D A (wM b g 0 n K V (fun i9 => kd i9 + 1) SK SV) := hD
          refine lv_aload_n hx hb dX1_finish_29 rfl (lv_at hl 0 rfl) ?_
          refine va_get (D := D) (ci := 1) (v := .int 0) (C := RX1) (T := TX1) (N := 7) hx hb hts (fun w h => wm (ui_X1 w h)) hown hK hP 0 rfl rfl 0 (by decide) (hts (.fieldLink RX1 26 "LinkedIndexModel" "code" "I") (wm mb_47)) (fun _ h9 => h9) rfl dX1_finish_30 ?_
          refine lv_if_le (tgt := 38) hx hb dX1_finish_33 (by decide) (fun h7 => ?_) (fun h7 => ?_)
          · skip
            refine lv_aload_n hx hb dX1_finish_38 rfl (lv_at hl 0 rfl) ?_
            refine va_get (D := D) (ci := 1) (v := .ref (b 3)) (C := RX1) (T := TX1) (N := 7) hx hb hts (fun w h => wm (ui_X1 w h)) hown hK hP 0 rfl rfl 4 (by decide) (hts (.fieldLink RX1 16 "LinkedIndexModel" "kinds" "[I") (wm mb_52)) (fun _ h9 => h9) rfl dX1_finish_39 ?_
            refine lv_iload_n hx hb dX1_finish_42 rfl (lv_at hl 1 rfl) ?_
            refine x_iald (j := j) hx hb hK hP 3 2 rfl rfl (by omega) (by decide) dX1_finish_43 ?_
            refine lv_iconst (v := 1) hx hb dX1_finish_44 (by decide) ?_
            refine lv_isub hx hb dX1_finish_45 ?_
            refine xi (y := 0) ((congrArg (fun z : Int32 => z + 1 - 1) ek).trans (by decide)) ?_
            refine lv_istore_n (lv' := [(2, .int 0), (0, .ref (b 0)), (1, .int (nI j))]) hx hb dX1_finish_46 rfl hl (by decide) rfl (fun ls hl => ?_)
            refine lv_aload_n hx hb dX1_finish_47 rfl (lv_at hl 1 rfl) ?_
            refine va_get (D := D) (ci := 1) (v := .ref (b 4)) (C := RX1) (T := TX1) (N := 7) hx hb hts (fun w h => wm (ui_X1 w h)) hown hK hP 0 rfl rfl 5 (by decide) (hts (.fieldLink RX1 20 "LinkedIndexModel" "asked" "[J") (wm mb_53)) (fun _ h9 => h9) rfl dX1_finish_48 ?_
            refine lv_iload_n hx hb dX1_finish_51 rfl (lv_at hl 2 rfl) ?_
            refine x_lald (j := j) hx hb hK hP 4 3 rfl rfl (by omega) (by decide) dX1_finish_52 ?_
            refine lv_lstore_n (lv' := [(3, .long (SK j)), (2, .int 0), (0, .ref (b 0)), (1, .int (nI j))]) hx hb dX1_finish_53 rfl hl (by decide) rfl (fun ls hl => ?_)
            refine lv_aload_n hx hb dX1_finish_54 rfl (lv_at hl 2 rfl) ?_
            refine lv_lload_n hx hb dX1_finish_55 rfl (lv_at hl 0 rfl) ?_
            refine kn_i (wc := (wM b g 0 n K V (fun i9 => kd i9 + 1) SK SV)) (wr := []) (w1 := (wM b g 0 n K V (fun i9 => kd i9 + 1) SK SV)) (va_runV (As := [.long (SK j)]) (rest := []) ⟨hx, hb, hml, hown, hts⟩ (m_rank l hl9 D b g 0 n K V kd SK SV (SK j) H.size hn) (cwV 1 hts (gd_up (gd_V mb_58 mb_59 mb_60 mb_50 mb_61)) rfl rfl rfl (by decide +kernel) ⟨by decide, by decide⟩) ⟨cP_blind, va_recv (q0 := 0) (ci := 1) (q := (RX1, TX1, 7)) hK hP rfl rfl, cPre hP hD hK hS hA hZ [0, 1, 2, 3, 4, 5] rfl (by decide) [0, 1, 2, 3, 4] rfl⟩ rfl rfl hl.1 rfl (lv_room (Nat.le_of_ble_eq_true rfl)) dX1_finish_56 ⟨by decide, by decide⟩) hP hD hS hA [0, 1, 2, 3, 4, 5] [] rfl rfl (by decide) (by decide) (fun r9 H locs hp hP hD hS => ?_)
            have hP : va_P D vwCl (wM b g 0 n K V (fun i9 => kd i9 + 1) SK SV) H := hP
            have hD : va_D A (wM b g 0 n K V (fun i9 => kd i9 + 1) SK SV) := hD
            have hle := rk_le K (SK j) n
            obtain ⟨r, hr0⟩ : ∃ r, r = rk K (SK j) n := ⟨_, rfl⟩
            rw [← hr0] at hp hle
            subst hp
            refine lv_istore (lv' := [(5, .int (nI r)), (3, .long (SK j)), (2, .int 0), (0, .ref (b 0)), (1, .int (nI j))]) hx hb dX1_finish_59 hl (by decide) rfl (fun ls hl => ?_)
            refine lv_iload hx hb dX1_finish_61 (lv_at hl 0 rfl) ?_
            refine lv_aload_n hx hb dX1_finish_63 rfl (lv_at hl 3 rfl) ?_
            refine va_get (D := D) (ci := 1) (v := .int (nI n)) (C := RX1) (T := TX1) (N := 7) hx hb hts (fun w h => wm (ui_X1 w h)) hown hK hP 0 rfl rfl 1 (by decide) (hts (.fieldLink RX1 34 "LinkedIndexModel" "size" "I") (wm mb_55)) (fun _ h9 => h9) rfl dX1_finish_64 ?_
            refine lv_icmp_ge (tgt := 86) hx hb dX1_finish_67 (by decide) (fun h8 => ?_) (fun h8 => ?_)
            · skip
              have h3 : ¬ r < n := fun q => absurd ((nI_leI (by omega) (by omega)).mp h8) (by omega)
              have h4 : ¬ atR K n (SK j) r := fun q => h3 q.1
              refine lv_iconst (v := 0) hx hb dX1_finish_86 (by decide) ?_
              refine lv_istore (lv' := [(6, .int 0), (5, .int (nI r)), (3, .long (SK j)), (2, .int 0), (0, .ref (b 0)), (1, .int (nI j))]) hx hb dX1_finish_87 hl (by decide) rfl (fun ls hl => ?_)
              refine lv_iload_n hx hb dX1_finish_89 rfl (lv_at hl 3 rfl) ?_
              refine lv_iconst (v := 1) hx hb dX1_finish_90 (by decide) ?_
              refine lv_icmp_ne (tgt := 115) hx hb dX1_finish_91 (by decide) (fun h7 => ?_) (fun h7 => ?_)
              · skip
                refine lv_aload_n hx hb dX1_finish_115 rfl (lv_at hl 4 rfl) ?_
                refine va_get (D := D) (ci := 1) (v := .ref (b 3)) (C := RX1) (T := TX1) (N := 7) hx hb hts (fun w h => wm (ui_X1 w h)) hown hK hP 0 rfl rfl 4 (by decide) (hts (.fieldLink RX1 16 "LinkedIndexModel" "kinds" "[I") (wm mb_52)) (fun _ h9 => h9) rfl dX1_finish_116 ?_
                refine lv_iload_n hx hb dX1_finish_119 rfl (lv_at hl 5 rfl) ?_
                refine lv_iconst (v := 0) hx hb dX1_finish_120 (by decide) ?_
                refine x_iast (j := j) hx hb hK hP hD hS 3 2 rfl rfl (by omega) (by decide) dX1_finish_121 (fun H locs hP hD hS => ?_)
                have hP : va_P D vwCl (wM b g 0 n K V (upd (fun i9 => kd i9 + 1) j 0) SK SV) H := hP
                have hD : va_D A (wM b g 0 n K V (upd (fun i9 => kd i9 + 1) j 0) SK SV) := hD
                rw [upd_0] at hP hD
                refine lv_iload_n hx hb dX1_finish_122 rfl (lv_at hl 3 rfl) ?_
                refine lv_iconst (v := 3) hx hb dX1_finish_123 (by decide) ?_
                refine lv_icmp_ne (tgt := 144) hx hb dX1_finish_124 (by decide) (fun h7 => ?_) (fun h7 => ?_)
                · skip
                  refine lv_iload_n hx hb dX1_finish_144 rfl (lv_at hl 3 rfl) ?_
                  refine lv_iconst (v := 1) hx hb dX1_finish_145 (by decide) ?_
                  refine lv_icmp_eq (tgt := 158) hx hb dX1_finish_146 (by decide) (fun h7 => ?_) (fun h7 => ?_)
                  · skip
                    first | exact absurd h7 (by decide) | exact (h7 rfl).elim
                  · skip
                    refine lv_iload hx hb dX1_finish_149 (lv_at hl 0 rfl) ?_
                    refine lv_if_ne (tgt := 158) hx hb dX1_finish_151 (by decide) (fun h7 => ?_) (fun h7 => ?_)
                    · skip
                      first | exact absurd h7 (by decide) | exact (h7 rfl).elim
                    · skip
                      refine lv_iconst (v := 1) hx hb dX1_finish_154 (by decide) ?_
                      refine lv_goto (tgt := 159) hx hb dX1_finish_155 (by decide) ?_
                      refine lv_istore (lv' := [(7, .int 1), (6, .int 0), (5, .int (nI r)), (3, .long (SK j)), (2, .int 0), (0, .ref (b 0)), (1, .int (nI j))]) hx hb dX1_finish_159 hl (by decide) rfl (fun ls hl => ?_)
                      refine lv_iload hx hb dX1_finish_161 (lv_at hl 0 rfl) ?_
                      refine lv_if_eq (tgt := 173) hx hb dX1_finish_163 (by decide) (fun h7 => ?_) (fun h7 => ?_)
                      · skip
                        first | exact absurd h7 (by decide) | exact (h7 rfl).elim
                      · skip
                        refine lv_aload_n hx hb dX1_finish_166 rfl (lv_at hl 5 rfl) ?_
                        refine lv_iconst (v := 3) hx hb dX1_finish_167 (by decide) ?_
                        refine va_put (D := D) (ci := 1) (v := .int 3) (ty := .int) (C := RX1) (T := TX1) (N := 7) hx hb hts (fun w h => wm (ui_X1 w h)) tyX1 tyX1_ok nmX1 hown hK hP hD hS 0 rfl rfl 0 (by decide) (hts (.fieldLink RX1 26 "LinkedIndexModel" "code" "I") (wm mb_47)) (fun _ h9 => h9) rfl (by decide +kernel) rfl rfl (Nat.le_of_ble_eq_true rfl) dX1_finish_168 (fun H locs hP hD hS => ?_)
                        have hP : va_P D vwCl (wM b g 3 n K V (fun i9 => upd kd j (-1) i9 + 1) SK SV) H := hP
                        have hD : va_D A (wM b g 3 n K V (fun i9 => upd kd j (-1) i9 + 1) SK SV) := hD
                        refine lv_lconst (v := 0) hx hb dX1_finish_171 (by decide) ?_
                        have hf : fin n K V kd SK SV (nI j) = (3, 0, n, K, V, upd kd j (-1)) := by
                          unfold fin
                          rw [ix_n hj, ← hr0, if_pos (okS_n hj), if_neg (show ¬ kd j = -1 by rw [ek]; decide), if_neg (show ¬ kd j = 1 by rw [ek]; decide), if_neg (show ¬ kd j = 3 by rw [ek]; decide), if_neg h4]
                        rw [hf]
                        exact fn_l hx hb hr hlocks (by decide) (by decide) (fun q => absurd (show (3 : Int32) = 0 from q) (by decide)) hP hK hD hS dX1_finish_172
                · skip
                  first | exact absurd h7 (by decide) | exact (h7 rfl).elim
              · skip
                first | exact absurd h7 (by decide) | exact (h7 rfl).elim
            · skip
              have h3 : r < n := Nat.lt_of_not_le (fun q => h8 ((nI_leI (by omega) (by omega)).mpr q))
              refine lv_aload_n hx hb dX1_finish_70 rfl (lv_at hl 3 rfl) ?_
              refine va_get (D := D) (ci := 1) (v := .ref (b 1)) (C := RX1) (T := TX1) (N := 7) hx hb hts (fun w h => wm (ui_X1 w h)) hown hK hP 0 rfl rfl 2 (by decide) (hts (.fieldLink RX1 7 "LinkedIndexModel" "keys" "[J") (wm mb_56)) (fun _ h9 => h9) rfl dX1_finish_71 ?_
              refine lv_iload hx hb dX1_finish_74 (lv_at hl 0 rfl) ?_
              refine x_lald (j := r) hx hb hK hP 1 0 rfl rfl (by omega) (by decide) dX1_finish_76 ?_
              refine lv_lload_n hx hb dX1_finish_77 rfl (lv_at hl 1 rfl) ?_
              refine W.lcmp hx hb dX1_finish_78 ?_
              refine lv_if_ne (tgt := 86) hx hb dX1_finish_79 (by decide) (fun h8 => ?_) (fun h8 => ?_)
              · skip
                have h4 : ¬ atR K n (SK j) r := fun q => h8 ((lg_cmp_eq _ _).mpr q.2)
                refine lv_iconst (v := 0) hx hb dX1_finish_86 (by decide) ?_
                refine lv_istore (lv' := [(6, .int 0), (5, .int (nI r)), (3, .long (SK j)), (2, .int 0), (0, .ref (b 0)), (1, .int (nI j))]) hx hb dX1_finish_87 hl (by decide) rfl (fun ls hl => ?_)
                refine lv_iload_n hx hb dX1_finish_89 rfl (lv_at hl 3 rfl) ?_
                refine lv_iconst (v := 1) hx hb dX1_finish_90 (by decide) ?_
                refine lv_icmp_ne (tgt := 115) hx hb dX1_finish_91 (by decide) (fun h7 => ?_) (fun h7 => ?_)
                · skip
                  refine lv_aload_n hx hb dX1_finish_115 rfl (lv_at hl 4 rfl) ?_
                  refine va_get (D := D) (ci := 1) (v := .ref (b 3)) (C := RX1) (T := TX1) (N := 7) hx hb hts (fun w h => wm (ui_X1 w h)) hown hK hP 0 rfl rfl 4 (by decide) (hts (.fieldLink RX1 16 "LinkedIndexModel" "kinds" "[I") (wm mb_52)) (fun _ h9 => h9) rfl dX1_finish_116 ?_
                  refine lv_iload_n hx hb dX1_finish_119 rfl (lv_at hl 5 rfl) ?_
                  refine lv_iconst (v := 0) hx hb dX1_finish_120 (by decide) ?_
                  refine x_iast (j := j) hx hb hK hP hD hS 3 2 rfl rfl (by omega) (by decide) dX1_finish_121 (fun H locs hP hD hS => ?_)
                  have hP : va_P D vwCl (wM b g 0 n K V (upd (fun i9 => kd i9 + 1) j 0) SK SV) H := hP
                  have hD : va_D A (wM b g 0 n K V (upd (fun i9 => kd i9 + 1) j 0) SK SV) := hD
                  rw [upd_0] at hP hD
                  refine lv_iload_n hx hb dX1_finish_122 rfl (lv_at hl 3 rfl) ?_
                  refine lv_iconst (v := 3) hx hb dX1_finish_123 (by decide) ?_
                  refine lv_icmp_ne (tgt := 144) hx hb dX1_finish_124 (by decide) (fun h7 => ?_) (fun h7 => ?_)
                  · skip
                    refine lv_iload_n hx hb dX1_finish_144 rfl (lv_at hl 3 rfl) ?_
                    refine lv_iconst (v := 1) hx hb dX1_finish_145 (by decide) ?_
                    refine lv_icmp_eq (tgt := 158) hx hb dX1_finish_146 (by decide) (fun h7 => ?_) (fun h7 => ?_)
                    · skip
                      first | exact absurd h7 (by decide) | exact (h7 rfl).elim
                    · skip
                      refine lv_iload hx hb dX1_finish_149 (lv_at hl 0 rfl) ?_
                      refine lv_if_ne (tgt := 158) hx hb dX1_finish_151 (by decide) (fun h7 => ?_) (fun h7 => ?_)
                      · skip
                        first | exact absurd h7 (by decide) | exact (h7 rfl).elim
                      · skip
                        refine lv_iconst (v := 1) hx hb dX1_finish_154 (by decide) ?_
                        refine lv_goto (tgt := 159) hx hb dX1_finish_155 (by decide) ?_
                        refine lv_istore (lv' := [(7, .int 1), (6, .int 0), (5, .int (nI r)), (3, .long (SK j)), (2, .int 0), (0, .ref (b 0)), (1, .int (nI j))]) hx hb dX1_finish_159 hl (by decide) rfl (fun ls hl => ?_)
                        refine lv_iload hx hb dX1_finish_161 (lv_at hl 0 rfl) ?_
                        refine lv_if_eq (tgt := 173) hx hb dX1_finish_163 (by decide) (fun h7 => ?_) (fun h7 => ?_)
                        · skip
                          first | exact absurd h7 (by decide) | exact (h7 rfl).elim
                        · skip
                          refine lv_aload_n hx hb dX1_finish_166 rfl (lv_at hl 5 rfl) ?_
                          refine lv_iconst (v := 3) hx hb dX1_finish_167 (by decide) ?_
                          refine va_put (D := D) (ci := 1) (v := .int 3) (ty := .int) (C := RX1) (T := TX1) (N := 7) hx hb hts (fun w h => wm (ui_X1 w h)) tyX1 tyX1_ok nmX1 hown hK hP hD hS 0 rfl rfl 0 (by decide) (hts (.fieldLink RX1 26 "LinkedIndexModel" "code" "I") (wm mb_47)) (fun _ h9 => h9) rfl (by decide +kernel) rfl rfl (Nat.le_of_ble_eq_true rfl) dX1_finish_168 (fun H locs hP hD hS => ?_)
                          have hP : va_P D vwCl (wM b g 3 n K V (fun i9 => upd kd j (-1) i9 + 1) SK SV) H := hP
                          have hD : va_D A (wM b g 3 n K V (fun i9 => upd kd j (-1) i9 + 1) SK SV) := hD
                          refine lv_lconst (v := 0) hx hb dX1_finish_171 (by decide) ?_
                          have hf : fin n K V kd SK SV (nI j) = (3, 0, n, K, V, upd kd j (-1)) := by
                            unfold fin
                            rw [ix_n hj, ← hr0, if_pos (okS_n hj), if_neg (show ¬ kd j = -1 by rw [ek]; decide), if_neg (show ¬ kd j = 1 by rw [ek]; decide), if_neg (show ¬ kd j = 3 by rw [ek]; decide), if_neg h4]
                          rw [hf]
                          exact fn_l hx hb hr hlocks (by decide) (by decide) (fun q => absurd (show (3 : Int32) = 0 from q) (by decide)) hP hK hD hS dX1_finish_172
                  · skip
                    first | exact absurd h7 (by decide) | exact (h7 rfl).elim
                · skip
                  first | exact absurd h7 (by decide) | exact (h7 rfl).elim
              · skip
                have h4 : atR K n (SK j) r := ⟨h3, (lg_cmp_eq _ _).mp h8⟩
                refine lv_iconst (v := 1) hx hb dX1_finish_82 (by decide) ?_
                refine lv_goto (tgt := 87) hx hb dX1_finish_83 (by decide) ?_
                refine lv_istore (lv' := [(6, .int 1), (5, .int (nI r)), (3, .long (SK j)), (2, .int 0), (0, .ref (b 0)), (1, .int (nI j))]) hx hb dX1_finish_87 hl (by decide) rfl (fun ls hl => ?_)
                refine lv_iload_n hx hb dX1_finish_89 rfl (lv_at hl 3 rfl) ?_
                refine lv_iconst (v := 1) hx hb dX1_finish_90 (by decide) ?_
                refine lv_icmp_ne (tgt := 115) hx hb dX1_finish_91 (by decide) (fun h7 => ?_) (fun h7 => ?_)
                · skip
                  refine lv_aload_n hx hb dX1_finish_115 rfl (lv_at hl 4 rfl) ?_
                  refine va_get (D := D) (ci := 1) (v := .ref (b 3)) (C := RX1) (T := TX1) (N := 7) hx hb hts (fun w h => wm (ui_X1 w h)) hown hK hP 0 rfl rfl 4 (by decide) (hts (.fieldLink RX1 16 "LinkedIndexModel" "kinds" "[I") (wm mb_52)) (fun _ h9 => h9) rfl dX1_finish_116 ?_
                  refine lv_iload_n hx hb dX1_finish_119 rfl (lv_at hl 5 rfl) ?_
                  refine lv_iconst (v := 0) hx hb dX1_finish_120 (by decide) ?_
                  refine x_iast (j := j) hx hb hK hP hD hS 3 2 rfl rfl (by omega) (by decide) dX1_finish_121 (fun H locs hP hD hS => ?_)
                  have hP : va_P D vwCl (wM b g 0 n K V (upd (fun i9 => kd i9 + 1) j 0) SK SV) H := hP
                  have hD : va_D A (wM b g 0 n K V (upd (fun i9 => kd i9 + 1) j 0) SK SV) := hD
                  rw [upd_0] at hP hD
                  refine lv_iload_n hx hb dX1_finish_122 rfl (lv_at hl 3 rfl) ?_
                  refine lv_iconst (v := 3) hx hb dX1_finish_123 (by decide) ?_
                  refine lv_icmp_ne (tgt := 144) hx hb dX1_finish_124 (by decide) (fun h7 => ?_) (fun h7 => ?_)
                  · skip
                    refine lv_iload_n hx hb dX1_finish_144 rfl (lv_at hl 3 rfl) ?_
                    refine lv_iconst (v := 1) hx hb dX1_finish_145 (by decide) ?_
                    refine lv_icmp_eq (tgt := 158) hx hb dX1_finish_146 (by decide) (fun h7 => ?_) (fun h7 => ?_)
                    · skip
                      first | exact absurd h7 (by decide) | exact (h7 rfl).elim
                    · skip
                      refine lv_iload hx hb dX1_finish_149 (lv_at hl 0 rfl) ?_
                      refine lv_if_ne (tgt := 158) hx hb dX1_finish_151 (by decide) (fun h7 => ?_) (fun h7 => ?_)
                      · skip
                        refine lv_iconst (v := 0) hx hb dX1_finish_158 (by decide) ?_
                        refine lv_istore (lv' := [(7, .int 0), (6, .int 1), (5, .int (nI r)), (3, .long (SK j)), (2, .int 0), (0, .ref (b 0)), (1, .int (nI j))]) hx hb dX1_finish_159 hl (by decide) rfl (fun ls hl => ?_)
                        refine lv_iload hx hb dX1_finish_161 (lv_at hl 0 rfl) ?_
                        refine lv_if_eq (tgt := 173) hx hb dX1_finish_163 (by decide) (fun h7 => ?_) (fun h7 => ?_)
                        · skip
                          refine lv_iload_n hx hb dX1_finish_173 rfl (lv_at hl 4 rfl) ?_
                          refine lv_if_ne (tgt := 187) hx hb dX1_finish_174 (by decide) (fun h7 => ?_) (fun h7 => ?_)
                          · skip
                            first | exact absurd h7 (by decide) | exact (h7 rfl).elim
                          · skip
                            refine lv_aload_n hx hb dX1_finish_177 rfl (lv_at hl 5 rfl) ?_
                            refine va_get (D := D) (ci := 1) (v := .ref (b 2)) (C := RX1) (T := TX1) (N := 7) hx hb hts (fun w h => wm (ui_X1 w h)) hown hK hP 0 rfl rfl 3 (by decide) (hts (.fieldLink RX1 13 "LinkedIndexModel" "values" "[J") (wm mb_57)) (fun _ h9 => h9) rfl dX1_finish_178 ?_
                            refine lv_iload hx hb dX1_finish_181 (lv_at hl 2 rfl) ?_
                            refine x_lald (j := r) hx hb hK hP 2 1 rfl rfl (by omega) (by decide) dX1_finish_183 ?_
                            refine lv_goto (tgt := 231) hx hb dX1_finish_184 (by decide) ?_
                            have hf : fin n K V kd SK SV (nI j) = (0, V r, n, K, V, upd kd j (-1)) := by
                              unfold fin
                              rw [ix_n hj, ← hr0, if_pos (okS_n hj), if_neg (show ¬ kd j = -1 by rw [ek]; decide), if_neg (show ¬ kd j = 1 by rw [ek]; decide), if_neg (show ¬ kd j = 3 by rw [ek]; decide), if_pos h4, if_neg (show ¬ kd j = 2 by rw [ek]; decide)]
                            rw [hf]
                            exact fn_l hx hb hr hlocks (by decide) (by decide) (fun _ => rfl) hP hK hD hS dX1_finish_231
                        · skip
                          first | exact absurd h7 (by decide) | exact (h7 rfl).elim
                      · skip
                        first | exact absurd h7 (by decide) | exact (h7 rfl).elim
                  · skip
                    first | exact absurd h7 (by decide) | exact (h7 rfl).elim
                · skip
                  first | exact absurd h7 (by decide) | exact (h7 rfl).elim
          · skip
            first | exact absurd h7 (by decide) | exact (h7 rfl).elim
        · skip
          first | exact absurd h7 (by decide) | exact (h7 rfl).elim
      · skip
        refine lv_aload_n hx hb dX1_finish_12 rfl (lv_at hl 0 rfl) ?_
        refine va_get (D := D) (ci := 1) (v := .ref (b 3)) (C := RX1) (T := TX1) (N := 7) hx hb hts (fun w h => wm (ui_X1 w h)) hown hK hP 0 rfl rfl 4 (by decide) (hts (.fieldLink RX1 16 "LinkedIndexModel" "kinds" "[I") (wm mb_52)) (fun _ h9 => h9) rfl dX1_finish_13 ?_
        refine lv_iload_n hx hb dX1_finish_16 rfl (lv_at hl 1 rfl) ?_
        refine x_iald (j := j) hx hb hK hP 3 2 rfl rfl (by omega) (by decide) dX1_finish_17 ?_
        refine xi (y := 2) ((congrArg (fun z : Int32 => z + 1) ek).trans (by decide)) ?_
        refine lv_if_ne (tgt := 25) hx hb dX1_finish_18 (by decide) (fun h7 => ?_) (fun h7 => ?_)
        · skip
          refine lv_iconst (v := 0) hx hb dX1_finish_25 (by decide) ?_
          refine va_put (D := D) (ci := 1) (v := .int 0) (ty := .int) (C := RX1) (T := TX1) (N := 7) hx hb hts (fun w h => wm (ui_X1 w h)) tyX1 tyX1_ok nmX1 hown hK hP hD hS 0 rfl rfl 0 (by decide) (hts (.fieldLink RX1 26 "LinkedIndexModel" "code" "I") (wm mb_47)) (fun _ h9 => h9) rfl (by decide +kernel) rfl rfl (Nat.le_of_ble_eq_true rfl) dX1_finish_26 (fun H locs hP hD hS => ?_)
          have hP : va_P D vwCl (wM b g 0 n K V (fun i9 => kd i9 + 1) SK SV) H := hP
          have hD : va_D A (wM b g 0 n K V (fun i9 => kd i9 + 1) SK SV) := hD
          refine lv_aload_n hx hb dX1_finish_29 rfl (lv_at hl 0 rfl) ?_
          refine va_get (D := D) (ci := 1) (v := .int 0) (C := RX1) (T := TX1) (N := 7) hx hb hts (fun w h => wm (ui_X1 w h)) hown hK hP 0 rfl rfl 0 (by decide) (hts (.fieldLink RX1 26 "LinkedIndexModel" "code" "I") (wm mb_47)) (fun _ h9 => h9) rfl dX1_finish_30 ?_
          refine lv_if_le (tgt := 38) hx hb dX1_finish_33 (by decide) (fun h7 => ?_) (fun h7 => ?_)
          · skip
            refine lv_aload_n hx hb dX1_finish_38 rfl (lv_at hl 0 rfl) ?_
            refine va_get (D := D) (ci := 1) (v := .ref (b 3)) (C := RX1) (T := TX1) (N := 7) hx hb hts (fun w h => wm (ui_X1 w h)) hown hK hP 0 rfl rfl 4 (by decide) (hts (.fieldLink RX1 16 "LinkedIndexModel" "kinds" "[I") (wm mb_52)) (fun _ h9 => h9) rfl dX1_finish_39 ?_
            refine lv_iload_n hx hb dX1_finish_42 rfl (lv_at hl 1 rfl) ?_
            refine x_iald (j := j) hx hb hK hP 3 2 rfl rfl (by omega) (by decide) dX1_finish_43 ?_
            refine lv_iconst (v := 1) hx hb dX1_finish_44 (by decide) ?_
            refine lv_isub hx hb dX1_finish_45 ?_
            refine xi (y := 1) ((congrArg (fun z : Int32 => z + 1 - 1) ek).trans (by decide)) ?_
            refine lv_istore_n (lv' := [(2, .int 1), (0, .ref (b 0)), (1, .int (nI j))]) hx hb dX1_finish_46 rfl hl (by decide) rfl (fun ls hl => ?_)
            refine lv_aload_n hx hb dX1_finish_47 rfl (lv_at hl 1 rfl) ?_
            refine va_get (D := D) (ci := 1) (v := .ref (b 4)) (C := RX1) (T := TX1) (N := 7) hx hb hts (fun w h => wm (ui_X1 w h)) hown hK hP 0 rfl rfl 5 (by decide) (hts (.fieldLink RX1 20 "LinkedIndexModel" "asked" "[J") (wm mb_53)) (fun _ h9 => h9) rfl dX1_finish_48 ?_
            refine lv_iload_n hx hb dX1_finish_51 rfl (lv_at hl 2 rfl) ?_
            refine x_lald (j := j) hx hb hK hP 4 3 rfl rfl (by omega) (by decide) dX1_finish_52 ?_
            refine lv_lstore_n (lv' := [(3, .long (SK j)), (2, .int 1), (0, .ref (b 0)), (1, .int (nI j))]) hx hb dX1_finish_53 rfl hl (by decide) rfl (fun ls hl => ?_)
            refine lv_aload_n hx hb dX1_finish_54 rfl (lv_at hl 2 rfl) ?_
            refine lv_lload_n hx hb dX1_finish_55 rfl (lv_at hl 0 rfl) ?_
            refine kn_i (wc := (wM b g 0 n K V (fun i9 => kd i9 + 1) SK SV)) (wr := []) (w1 := (wM b g 0 n K V (fun i9 => kd i9 + 1) SK SV)) (va_runV (As := [.long (SK j)]) (rest := []) ⟨hx, hb, hml, hown, hts⟩ (m_rank l hl9 D b g 0 n K V kd SK SV (SK j) H.size hn) (cwV 1 hts (gd_up (gd_V mb_58 mb_59 mb_60 mb_50 mb_61)) rfl rfl rfl (by decide +kernel) ⟨by decide, by decide⟩) ⟨cP_blind, va_recv (q0 := 0) (ci := 1) (q := (RX1, TX1, 7)) hK hP rfl rfl, cPre hP hD hK hS hA hZ [0, 1, 2, 3, 4, 5] rfl (by decide) [0, 1, 2, 3, 4] rfl⟩ rfl rfl hl.1 rfl (lv_room (Nat.le_of_ble_eq_true rfl)) dX1_finish_56 ⟨by decide, by decide⟩) hP hD hS hA [0, 1, 2, 3, 4, 5] [] rfl rfl (by decide) (by decide) (fun r9 H locs hp hP hD hS => ?_)
            have hP : va_P D vwCl (wM b g 0 n K V (fun i9 => kd i9 + 1) SK SV) H := hP
            have hD : va_D A (wM b g 0 n K V (fun i9 => kd i9 + 1) SK SV) := hD
            have hle := rk_le K (SK j) n
            obtain ⟨r, hr0⟩ : ∃ r, r = rk K (SK j) n := ⟨_, rfl⟩
            rw [← hr0] at hp hle
            subst hp
            refine lv_istore (lv' := [(5, .int (nI r)), (3, .long (SK j)), (2, .int 1), (0, .ref (b 0)), (1, .int (nI j))]) hx hb dX1_finish_59 hl (by decide) rfl (fun ls hl => ?_)
            refine lv_iload hx hb dX1_finish_61 (lv_at hl 0 rfl) ?_
            refine lv_aload_n hx hb dX1_finish_63 rfl (lv_at hl 3 rfl) ?_
            refine va_get (D := D) (ci := 1) (v := .int (nI n)) (C := RX1) (T := TX1) (N := 7) hx hb hts (fun w h => wm (ui_X1 w h)) hown hK hP 0 rfl rfl 1 (by decide) (hts (.fieldLink RX1 34 "LinkedIndexModel" "size" "I") (wm mb_55)) (fun _ h9 => h9) rfl dX1_finish_64 ?_
            refine lv_icmp_ge (tgt := 86) hx hb dX1_finish_67 (by decide) (fun h8 => ?_) (fun h8 => ?_)
            · skip
              have h3 : ¬ r < n := fun q => absurd ((nI_leI (by omega) (by omega)).mp h8) (by omega)
              have h4 : ¬ atR K n (SK j) r := fun q => h3 q.1
              refine lv_iconst (v := 0) hx hb dX1_finish_86 (by decide) ?_
              refine lv_istore (lv' := [(6, .int 0), (5, .int (nI r)), (3, .long (SK j)), (2, .int 1), (0, .ref (b 0)), (1, .int (nI j))]) hx hb dX1_finish_87 hl (by decide) rfl (fun ls hl => ?_)
              refine lv_iload_n hx hb dX1_finish_89 rfl (lv_at hl 3 rfl) ?_
              refine lv_iconst (v := 1) hx hb dX1_finish_90 (by decide) ?_
              refine lv_icmp_ne (tgt := 115) hx hb dX1_finish_91 (by decide) (fun h7 => ?_) (fun h7 => ?_)
              · skip
                first | exact absurd h7 (by decide) | exact (h7 rfl).elim
              · skip
                refine lv_iload hx hb dX1_finish_94 (lv_at hl 0 rfl) ?_
                refine lv_if_ne (tgt := 115) hx hb dX1_finish_96 (by decide) (fun h7 => ?_) (fun h7 => ?_)
                · skip
                  first | exact absurd h7 (by decide) | exact (h7 rfl).elim
                · skip
                  refine lv_aload_n hx hb dX1_finish_99 rfl (lv_at hl 4 rfl) ?_
                  refine va_get (D := D) (ci := 1) (v := .int (nI n)) (C := RX1) (T := TX1) (N := 7) hx hb hts (fun w h => wm (ui_X1 w h)) hown hK hP 0 rfl rfl 1 (by decide) (hts (.fieldLink RX1 34 "LinkedIndexModel" "size" "I") (wm mb_55)) (fun _ h9 => h9) rfl dX1_finish_100 ?_
                  refine lv_bipush (v := 100) hx hb dX1_finish_103 (by decide) ?_
                  refine lv_icmp_ne (tgt := 115) hx hb dX1_finish_105 (by decide) (fun h5 => ?_) (fun h5 => ?_)
                  · skip
                    have h5 : ¬ 100 ≤ n := fun q => h5 (by rw [show n = 100 by omega]; rfl)
                    refine lv_aload_n hx hb dX1_finish_115 rfl (lv_at hl 4 rfl) ?_
                    refine va_get (D := D) (ci := 1) (v := .ref (b 3)) (C := RX1) (T := TX1) (N := 7) hx hb hts (fun w h => wm (ui_X1 w h)) hown hK hP 0 rfl rfl 4 (by decide) (hts (.fieldLink RX1 16 "LinkedIndexModel" "kinds" "[I") (wm mb_52)) (fun _ h9 => h9) rfl dX1_finish_116 ?_
                    refine lv_iload_n hx hb dX1_finish_119 rfl (lv_at hl 5 rfl) ?_
                    refine lv_iconst (v := 0) hx hb dX1_finish_120 (by decide) ?_
                    refine x_iast (j := j) hx hb hK hP hD hS 3 2 rfl rfl (by omega) (by decide) dX1_finish_121 (fun H locs hP hD hS => ?_)
                    have hP : va_P D vwCl (wM b g 0 n K V (upd (fun i9 => kd i9 + 1) j 0) SK SV) H := hP
                    have hD : va_D A (wM b g 0 n K V (upd (fun i9 => kd i9 + 1) j 0) SK SV) := hD
                    rw [upd_0] at hP hD
                    refine lv_iload_n hx hb dX1_finish_122 rfl (lv_at hl 3 rfl) ?_
                    refine lv_iconst (v := 3) hx hb dX1_finish_123 (by decide) ?_
                    refine lv_icmp_ne (tgt := 144) hx hb dX1_finish_124 (by decide) (fun h7 => ?_) (fun h7 => ?_)
                    · skip
                      refine lv_iload_n hx hb dX1_finish_144 rfl (lv_at hl 3 rfl) ?_
                      refine lv_iconst (v := 1) hx hb dX1_finish_145 (by decide) ?_
                      refine lv_icmp_eq (tgt := 158) hx hb dX1_finish_146 (by decide) (fun h7 => ?_) (fun h7 => ?_)
                      · skip
                        refine lv_iconst (v := 0) hx hb dX1_finish_158 (by decide) ?_
                        refine lv_istore (lv' := [(7, .int 0), (6, .int 0), (5, .int (nI r)), (3, .long (SK j)), (2, .int 1), (0, .ref (b 0)), (1, .int (nI j))]) hx hb dX1_finish_159 hl (by decide) rfl (fun ls hl => ?_)
                        refine lv_iload hx hb dX1_finish_161 (lv_at hl 0 rfl) ?_
                        refine lv_if_eq (tgt := 173) hx hb dX1_finish_163 (by decide) (fun h7 => ?_) (fun h7 => ?_)
                        · skip
                          refine lv_iload_n hx hb dX1_finish_173 rfl (lv_at hl 4 rfl) ?_
                          refine lv_if_ne (tgt := 187) hx hb dX1_finish_174 (by decide) (fun h7 => ?_) (fun h7 => ?_)
                          · skip
                            refine lv_iload_n hx hb dX1_finish_187 rfl (lv_at hl 4 rfl) ?_
                            refine lv_iconst (v := 1) hx hb dX1_finish_188 (by decide) ?_
                            refine lv_icmp_ne (tgt := 210) hx hb dX1_finish_189 (by decide) (fun h7 => ?_) (fun h7 => ?_)
                            · skip
                              first | exact absurd h7 (by decide) | exact (h7 rfl).elim
                            · skip
                              refine lv_aload_n hx hb dX1_finish_192 rfl (lv_at hl 5 rfl) ?_
                              refine lv_iload hx hb dX1_finish_193 (lv_at hl 2 rfl) ?_
                              refine lv_iload hx hb dX1_finish_195 (lv_at hl 1 rfl) ?_
                              refine lv_lload_n hx hb dX1_finish_197 rfl (lv_at hl 3 rfl) ?_
                              refine lv_aload_n hx hb dX1_finish_198 rfl (lv_at hl 5 rfl) ?_
                              refine va_get (D := D) (ci := 1) (v := .ref (b 5)) (C := RX1) (T := TX1) (N := 7) hx hb hts (fun w h => wm (ui_X1 w h)) hown hK hP 0 rfl rfl 6 (by decide) (hts (.fieldLink RX1 23 "LinkedIndexModel" "given" "[J") (wm mb_54)) (fun _ h9 => h9) rfl dX1_finish_199 ?_
                              refine lv_iload_n hx hb dX1_finish_202 rfl (lv_at hl 6 rfl) ?_
                              refine x_lald (j := j) hx hb hK hP 5 4 rfl rfl (by omega) (by decide) dX1_finish_203 ?_
                              refine kn_l (wc := (wM b g 0 n K V (fun i9 => upd kd j (-1) i9 + 1) SK SV)) (wr := []) (w1 := (wM b g 0 (fpN n K (SK j) r) (fpK n K (SK j) r) (fpV n K V (SK j) (SV j) r) (fun i9 => upd kd j (-1) i9 + 1) SK SV)) (va_runV (As := [.int (nI r), .int 0, .long (SK j), .long (SV j)]) (rest := []) ⟨hx, hb, hml, hown, hts⟩ (m_put l hl9 D b g 0 n K V (upd kd j (-1)) SK SV r 0 (SK j) (SV j) H.size hle hn (by rw [if_neg h4]) (Or.inr (by omega))) (cwV 4 hts (gd_up (gd_V mb_62 mb_63 mb_64 mb_50 mb_65)) rfl rfl rfl (by decide +kernel) ⟨by decide, by decide⟩) ⟨cP_blind, va_recv (q0 := 0) (ci := 1) (q := (RX1, TX1, 7)) hK hP rfl rfl, cPre hP hD hK hS hA hZ [0, 1, 2, 3, 4, 5] rfl (by decide) [0, 1, 2, 3, 4] rfl⟩ rfl rfl hl.1 rfl (lv_room (Nat.le_of_ble_eq_true rfl)) dX1_finish_204 ⟨by decide, by decide⟩) hP hD hS hA [0, 1, 2, 3, 4, 5] [] rfl rfl (by decide) (by decide) (fun r9 H locs hp hP hD hS => ?_)
                              have hP : va_P D vwCl (wM b g 0 (fpN n K (SK j) r) (fpK n K (SK j) r) (fpV n K V (SK j) (SV j) r) (fun i9 => upd kd j (-1) i9 + 1) SK SV) H := hP
                              have hD : va_D A (wM b g 0 (fpN n K (SK j) r) (fpK n K (SK j) r) (fpV n K V (SK j) (SV j) r) (fun i9 => upd kd j (-1) i9 + 1) SK SV) := hD
                              refine lv_goto (tgt := 231) hx hb dX1_finish_207 (by decide) ?_
                              rw [show fpN n K (SK j) r = n + 1 from if_neg h4, show fpK n K (SK j) r = vp_updL (opF r (n - r) K) r (SK j) from if_neg h4, show fpV n K V (SK j) (SV j) r = vp_updL (opF r (n - r) V) r (SV j) by unfold fpV; rw [if_neg h4]] at hP hD
                              rw [if_neg h4] at hp
                              have hf : fin n K V kd SK SV (nI j) = (0, 0, n + 1, vp_updL (opF r (n - r) K) r (SK j), vp_updL (opF r (n - r) V) r (SV j), upd kd j (-1)) := by
                                unfold fin
                                rw [ix_n hj, ← hr0, if_pos (okS_n hj), if_neg (show ¬ kd j = -1 by rw [ek]; decide), if_pos ek, if_neg h4, if_neg h5]
                              rw [hf]
                              exact fn_l hx hb hr hlocks (by decide) (by decide) (fun _ => hp) hP hK hD hS dX1_finish_231
                          · skip
                            first | exact absurd h7 (by decide) | exact (h7 rfl).elim
                        · skip
                          first | exact absurd h7 (by decide) | exact (h7 rfl).elim
                      · skip
                        first | exact absurd h7 (by decide) | exact (h7 rfl).elim
                    · skip
                      first | exact absurd h7 (by decide) | exact (h7 rfl).elim
                  · skip
                    have h5 : n = 100 := (nI_eq (b := 100) (by omega) (by omega)).mp h5
                    have h5 : 100 ≤ n := by omega
                    refine lv_aload_n hx hb dX1_finish_108 rfl (lv_at hl 4 rfl) ?_
                    refine lv_iconst (v := 2) hx hb dX1_finish_109 (by decide) ?_
                    refine va_put (D := D) (ci := 1) (v := .int 2) (ty := .int) (C := RX1) (T := TX1) (N := 7) hx hb hts (fun w h => wm (ui_X1 w h)) tyX1 tyX1_ok nmX1 hown hK hP hD hS 0 rfl rfl 0 (by decide) (hts (.fieldLink RX1 26 "LinkedIndexModel" "code" "I") (wm mb_47)) (fun _ h9 => h9) rfl (by decide +kernel) rfl rfl (Nat.le_of_ble_eq_true rfl) dX1_finish_110 (fun H locs hP hD hS => ?_)
                    have hP : va_P D vwCl (wM b g 2 n K V (fun i9 => kd i9 + 1) SK SV) H := hP
                    have hD : va_D A (wM b g 2 n K V (fun i9 => kd i9 + 1) SK SV) := hD
                    refine lv_lconst (v := 0) hx hb dX1_finish_113 (by decide) ?_
                    have hf : fin n K V kd SK SV (nI j) = (2, 0, n, K, V, kd) := by
                      unfold fin
                      rw [ix_n hj, ← hr0, if_pos (okS_n hj), if_neg (show ¬ kd j = -1 by rw [ek]; decide), if_pos ek, if_neg h4, if_pos h5]
                    rw [hf]
                    exact fn_l hx hb hr hlocks (by decide) (by decide) (fun q => absurd (show (2 : Int32) = 0 from q) (by decide)) hP hK hD hS dX1_finish_114
            · skip
              have h3 : r < n := Nat.lt_of_not_le (fun q => h8 ((nI_leI (by omega) (by omega)).mpr q))
              refine lv_aload_n hx hb dX1_finish_70 rfl (lv_at hl 3 rfl) ?_
              refine va_get (D := D) (ci := 1) (v := .ref (b 1)) (C := RX1) (T := TX1) (N := 7) hx hb hts (fun w h => wm (ui_X1 w h)) hown hK hP 0 rfl rfl 2 (by decide) (hts (.fieldLink RX1 7 "LinkedIndexModel" "keys" "[J") (wm mb_56)) (fun _ h9 => h9) rfl dX1_finish_71 ?_
              refine lv_iload hx hb dX1_finish_74 (lv_at hl 0 rfl) ?_
              refine x_lald (j := r) hx hb hK hP 1 0 rfl rfl (by omega) (by decide) dX1_finish_76 ?_
              refine lv_lload_n hx hb dX1_finish_77 rfl (lv_at hl 1 rfl) ?_
              refine W.lcmp hx hb dX1_finish_78 ?_
              refine lv_if_ne (tgt := 86) hx hb dX1_finish_79 (by decide) (fun h8 => ?_) (fun h8 => ?_)
              · skip
                have h4 : ¬ atR K n (SK j) r := fun q => h8 ((lg_cmp_eq _ _).mpr q.2)
                refine lv_iconst (v := 0) hx hb dX1_finish_86 (by decide) ?_
                refine lv_istore (lv' := [(6, .int 0), (5, .int (nI r)), (3, .long (SK j)), (2, .int 1), (0, .ref (b 0)), (1, .int (nI j))]) hx hb dX1_finish_87 hl (by decide) rfl (fun ls hl => ?_)
                refine lv_iload_n hx hb dX1_finish_89 rfl (lv_at hl 3 rfl) ?_
                refine lv_iconst (v := 1) hx hb dX1_finish_90 (by decide) ?_
                refine lv_icmp_ne (tgt := 115) hx hb dX1_finish_91 (by decide) (fun h7 => ?_) (fun h7 => ?_)
                · skip
                  first | exact absurd h7 (by decide) | exact (h7 rfl).elim
                · skip
                  refine lv_iload hx hb dX1_finish_94 (lv_at hl 0 rfl) ?_
                  refine lv_if_ne (tgt := 115) hx hb dX1_finish_96 (by decide) (fun h7 => ?_) (fun h7 => ?_)
                  · skip
                    first | exact absurd h7 (by decide) | exact (h7 rfl).elim
                  · skip
                    refine lv_aload_n hx hb dX1_finish_99 rfl (lv_at hl 4 rfl) ?_
                    refine va_get (D := D) (ci := 1) (v := .int (nI n)) (C := RX1) (T := TX1) (N := 7) hx hb hts (fun w h => wm (ui_X1 w h)) hown hK hP 0 rfl rfl 1 (by decide) (hts (.fieldLink RX1 34 "LinkedIndexModel" "size" "I") (wm mb_55)) (fun _ h9 => h9) rfl dX1_finish_100 ?_
                    refine lv_bipush (v := 100) hx hb dX1_finish_103 (by decide) ?_
                    refine lv_icmp_ne (tgt := 115) hx hb dX1_finish_105 (by decide) (fun h5 => ?_) (fun h5 => ?_)
                    · skip
                      have h5 : ¬ 100 ≤ n := fun q => h5 (by rw [show n = 100 by omega]; rfl)
                      refine lv_aload_n hx hb dX1_finish_115 rfl (lv_at hl 4 rfl) ?_
                      refine va_get (D := D) (ci := 1) (v := .ref (b 3)) (C := RX1) (T := TX1) (N := 7) hx hb hts (fun w h => wm (ui_X1 w h)) hown hK hP 0 rfl rfl 4 (by decide) (hts (.fieldLink RX1 16 "LinkedIndexModel" "kinds" "[I") (wm mb_52)) (fun _ h9 => h9) rfl dX1_finish_116 ?_
                      refine lv_iload_n hx hb dX1_finish_119 rfl (lv_at hl 5 rfl) ?_
                      refine lv_iconst (v := 0) hx hb dX1_finish_120 (by decide) ?_
                      refine x_iast (j := j) hx hb hK hP hD hS 3 2 rfl rfl (by omega) (by decide) dX1_finish_121 (fun H locs hP hD hS => ?_)
                      have hP : va_P D vwCl (wM b g 0 n K V (upd (fun i9 => kd i9 + 1) j 0) SK SV) H := hP
                      have hD : va_D A (wM b g 0 n K V (upd (fun i9 => kd i9 + 1) j 0) SK SV) := hD
                      rw [upd_0] at hP hD
                      refine lv_iload_n hx hb dX1_finish_122 rfl (lv_at hl 3 rfl) ?_
                      refine lv_iconst (v := 3) hx hb dX1_finish_123 (by decide) ?_
                      refine lv_icmp_ne (tgt := 144) hx hb dX1_finish_124 (by decide) (fun h7 => ?_) (fun h7 => ?_)
                      · skip
                        refine lv_iload_n hx hb dX1_finish_144 rfl (lv_at hl 3 rfl) ?_
                        refine lv_iconst (v := 1) hx hb dX1_finish_145 (by decide) ?_
                        refine lv_icmp_eq (tgt := 158) hx hb dX1_finish_146 (by decide) (fun h7 => ?_) (fun h7 => ?_)
                        · skip
                          refine lv_iconst (v := 0) hx hb dX1_finish_158 (by decide) ?_
                          refine lv_istore (lv' := [(7, .int 0), (6, .int 0), (5, .int (nI r)), (3, .long (SK j)), (2, .int 1), (0, .ref (b 0)), (1, .int (nI j))]) hx hb dX1_finish_159 hl (by decide) rfl (fun ls hl => ?_)
                          refine lv_iload hx hb dX1_finish_161 (lv_at hl 0 rfl) ?_
                          refine lv_if_eq (tgt := 173) hx hb dX1_finish_163 (by decide) (fun h7 => ?_) (fun h7 => ?_)
                          · skip
                            refine lv_iload_n hx hb dX1_finish_173 rfl (lv_at hl 4 rfl) ?_
                            refine lv_if_ne (tgt := 187) hx hb dX1_finish_174 (by decide) (fun h7 => ?_) (fun h7 => ?_)
                            · skip
                              refine lv_iload_n hx hb dX1_finish_187 rfl (lv_at hl 4 rfl) ?_
                              refine lv_iconst (v := 1) hx hb dX1_finish_188 (by decide) ?_
                              refine lv_icmp_ne (tgt := 210) hx hb dX1_finish_189 (by decide) (fun h7 => ?_) (fun h7 => ?_)
                              · skip
                                first | exact absurd h7 (by decide) | exact (h7 rfl).elim
                              · skip
                                refine lv_aload_n hx hb dX1_finish_192 rfl (lv_at hl 5 rfl) ?_
                                refine lv_iload hx hb dX1_finish_193 (lv_at hl 2 rfl) ?_
                                refine lv_iload hx hb dX1_finish_195 (lv_at hl 1 rfl) ?_
                                refine lv_lload_n hx hb dX1_finish_197 rfl (lv_at hl 3 rfl) ?_
                                refine lv_aload_n hx hb dX1_finish_198 rfl (lv_at hl 5 rfl) ?_
                                refine va_get (D := D) (ci := 1) (v := .ref (b 5)) (C := RX1) (T := TX1) (N := 7) hx hb hts (fun w h => wm (ui_X1 w h)) hown hK hP 0 rfl rfl 6 (by decide) (hts (.fieldLink RX1 23 "LinkedIndexModel" "given" "[J") (wm mb_54)) (fun _ h9 => h9) rfl dX1_finish_199 ?_
                                refine lv_iload_n hx hb dX1_finish_202 rfl (lv_at hl 6 rfl) ?_
                                refine x_lald (j := j) hx hb hK hP 5 4 rfl rfl (by omega) (by decide) dX1_finish_203 ?_
                                refine kn_l (wc := (wM b g 0 n K V (fun i9 => upd kd j (-1) i9 + 1) SK SV)) (wr := []) (w1 := (wM b g 0 (fpN n K (SK j) r) (fpK n K (SK j) r) (fpV n K V (SK j) (SV j) r) (fun i9 => upd kd j (-1) i9 + 1) SK SV)) (va_runV (As := [.int (nI r), .int 0, .long (SK j), .long (SV j)]) (rest := []) ⟨hx, hb, hml, hown, hts⟩ (m_put l hl9 D b g 0 n K V (upd kd j (-1)) SK SV r 0 (SK j) (SV j) H.size hle hn (by rw [if_neg h4]) (Or.inr (by omega))) (cwV 4 hts (gd_up (gd_V mb_62 mb_63 mb_64 mb_50 mb_65)) rfl rfl rfl (by decide +kernel) ⟨by decide, by decide⟩) ⟨cP_blind, va_recv (q0 := 0) (ci := 1) (q := (RX1, TX1, 7)) hK hP rfl rfl, cPre hP hD hK hS hA hZ [0, 1, 2, 3, 4, 5] rfl (by decide) [0, 1, 2, 3, 4] rfl⟩ rfl rfl hl.1 rfl (lv_room (Nat.le_of_ble_eq_true rfl)) dX1_finish_204 ⟨by decide, by decide⟩) hP hD hS hA [0, 1, 2, 3, 4, 5] [] rfl rfl (by decide) (by decide) (fun r9 H locs hp hP hD hS => ?_)
                                have hP : va_P D vwCl (wM b g 0 (fpN n K (SK j) r) (fpK n K (SK j) r) (fpV n K V (SK j) (SV j) r) (fun i9 => upd kd j (-1) i9 + 1) SK SV) H := hP
                                have hD : va_D A (wM b g 0 (fpN n K (SK j) r) (fpK n K (SK j) r) (fpV n K V (SK j) (SV j) r) (fun i9 => upd kd j (-1) i9 + 1) SK SV) := hD
                                refine lv_goto (tgt := 231) hx hb dX1_finish_207 (by decide) ?_
                                rw [show fpN n K (SK j) r = n + 1 from if_neg h4, show fpK n K (SK j) r = vp_updL (opF r (n - r) K) r (SK j) from if_neg h4, show fpV n K V (SK j) (SV j) r = vp_updL (opF r (n - r) V) r (SV j) by unfold fpV; rw [if_neg h4]] at hP hD
                                rw [if_neg h4] at hp
                                have hf : fin n K V kd SK SV (nI j) = (0, 0, n + 1, vp_updL (opF r (n - r) K) r (SK j), vp_updL (opF r (n - r) V) r (SV j), upd kd j (-1)) := by
                                  unfold fin
                                  rw [ix_n hj, ← hr0, if_pos (okS_n hj), if_neg (show ¬ kd j = -1 by rw [ek]; decide), if_pos ek, if_neg h4, if_neg h5]
                                rw [hf]
                                exact fn_l hx hb hr hlocks (by decide) (by decide) (fun _ => hp) hP hK hD hS dX1_finish_231
                            · skip
                              first | exact absurd h7 (by decide) | exact (h7 rfl).elim
                          · skip
                            first | exact absurd h7 (by decide) | exact (h7 rfl).elim
                        · skip
                          first | exact absurd h7 (by decide) | exact (h7 rfl).elim
                      · skip
                        first | exact absurd h7 (by decide) | exact (h7 rfl).elim
                    · skip
                      have h5 : n = 100 := (nI_eq (b := 100) (by omega) (by omega)).mp h5
                      have h5 : 100 ≤ n := by omega
                      refine lv_aload_n hx hb dX1_finish_108 rfl (lv_at hl 4 rfl) ?_
                      refine lv_iconst (v := 2) hx hb dX1_finish_109 (by decide) ?_
                      refine va_put (D := D) (ci := 1) (v := .int 2) (ty := .int) (C := RX1) (T := TX1) (N := 7) hx hb hts (fun w h => wm (ui_X1 w h)) tyX1 tyX1_ok nmX1 hown hK hP hD hS 0 rfl rfl 0 (by decide) (hts (.fieldLink RX1 26 "LinkedIndexModel" "code" "I") (wm mb_47)) (fun _ h9 => h9) rfl (by decide +kernel) rfl rfl (Nat.le_of_ble_eq_true rfl) dX1_finish_110 (fun H locs hP hD hS => ?_)
                      have hP : va_P D vwCl (wM b g 2 n K V (fun i9 => kd i9 + 1) SK SV) H := hP
                      have hD : va_D A (wM b g 2 n K V (fun i9 => kd i9 + 1) SK SV) := hD
                      refine lv_lconst (v := 0) hx hb dX1_finish_113 (by decide) ?_
                      have hf : fin n K V kd SK SV (nI j) = (2, 0, n, K, V, kd) := by
                        unfold fin
                        rw [ix_n hj, ← hr0, if_pos (okS_n hj), if_neg (show ¬ kd j = -1 by rw [ek]; decide), if_pos ek, if_neg h4, if_pos h5]
                      rw [hf]
                      exact fn_l hx hb hr hlocks (by decide) (by decide) (fun q => absurd (show (2 : Int32) = 0 from q) (by decide)) hP hK hD hS dX1_finish_114
              · skip
                have h4 : atR K n (SK j) r := ⟨h3, (lg_cmp_eq _ _).mp h8⟩
                refine lv_iconst (v := 1) hx hb dX1_finish_82 (by decide) ?_
                refine lv_goto (tgt := 87) hx hb dX1_finish_83 (by decide) ?_
                refine lv_istore (lv' := [(6, .int 1), (5, .int (nI r)), (3, .long (SK j)), (2, .int 1), (0, .ref (b 0)), (1, .int (nI j))]) hx hb dX1_finish_87 hl (by decide) rfl (fun ls hl => ?_)
                refine lv_iload_n hx hb dX1_finish_89 rfl (lv_at hl 3 rfl) ?_
                refine lv_iconst (v := 1) hx hb dX1_finish_90 (by decide) ?_
                refine lv_icmp_ne (tgt := 115) hx hb dX1_finish_91 (by decide) (fun h7 => ?_) (fun h7 => ?_)
                · skip
                  first | exact absurd h7 (by decide) | exact (h7 rfl).elim
                · skip
                  refine lv_iload hx hb dX1_finish_94 (lv_at hl 0 rfl) ?_
                  refine lv_if_ne (tgt := 115) hx hb dX1_finish_96 (by decide) (fun h7 => ?_) (fun h7 => ?_)
                  · skip
                    refine lv_aload_n hx hb dX1_finish_115 rfl (lv_at hl 4 rfl) ?_
                    refine va_get (D := D) (ci := 1) (v := .ref (b 3)) (C := RX1) (T := TX1) (N := 7) hx hb hts (fun w h => wm (ui_X1 w h)) hown hK hP 0 rfl rfl 4 (by decide) (hts (.fieldLink RX1 16 "LinkedIndexModel" "kinds" "[I") (wm mb_52)) (fun _ h9 => h9) rfl dX1_finish_116 ?_
                    refine lv_iload_n hx hb dX1_finish_119 rfl (lv_at hl 5 rfl) ?_
                    refine lv_iconst (v := 0) hx hb dX1_finish_120 (by decide) ?_
                    refine x_iast (j := j) hx hb hK hP hD hS 3 2 rfl rfl (by omega) (by decide) dX1_finish_121 (fun H locs hP hD hS => ?_)
                    have hP : va_P D vwCl (wM b g 0 n K V (upd (fun i9 => kd i9 + 1) j 0) SK SV) H := hP
                    have hD : va_D A (wM b g 0 n K V (upd (fun i9 => kd i9 + 1) j 0) SK SV) := hD
                    rw [upd_0] at hP hD
                    refine lv_iload_n hx hb dX1_finish_122 rfl (lv_at hl 3 rfl) ?_
                    refine lv_iconst (v := 3) hx hb dX1_finish_123 (by decide) ?_
                    refine lv_icmp_ne (tgt := 144) hx hb dX1_finish_124 (by decide) (fun h7 => ?_) (fun h7 => ?_)
                    · skip
                      refine lv_iload_n hx hb dX1_finish_144 rfl (lv_at hl 3 rfl) ?_
                      refine lv_iconst (v := 1) hx hb dX1_finish_145 (by decide) ?_
                      refine lv_icmp_eq (tgt := 158) hx hb dX1_finish_146 (by decide) (fun h7 => ?_) (fun h7 => ?_)
                      · skip
                        refine lv_iconst (v := 0) hx hb dX1_finish_158 (by decide) ?_
                        refine lv_istore (lv' := [(7, .int 0), (6, .int 1), (5, .int (nI r)), (3, .long (SK j)), (2, .int 1), (0, .ref (b 0)), (1, .int (nI j))]) hx hb dX1_finish_159 hl (by decide) rfl (fun ls hl => ?_)
                        refine lv_iload hx hb dX1_finish_161 (lv_at hl 0 rfl) ?_
                        refine lv_if_eq (tgt := 173) hx hb dX1_finish_163 (by decide) (fun h7 => ?_) (fun h7 => ?_)
                        · skip
                          refine lv_iload_n hx hb dX1_finish_173 rfl (lv_at hl 4 rfl) ?_
                          refine lv_if_ne (tgt := 187) hx hb dX1_finish_174 (by decide) (fun h7 => ?_) (fun h7 => ?_)
                          · skip
                            refine lv_iload_n hx hb dX1_finish_187 rfl (lv_at hl 4 rfl) ?_
                            refine lv_iconst (v := 1) hx hb dX1_finish_188 (by decide) ?_
                            refine lv_icmp_ne (tgt := 210) hx hb dX1_finish_189 (by decide) (fun h7 => ?_) (fun h7 => ?_)
                            · skip
                              first | exact absurd h7 (by decide) | exact (h7 rfl).elim
                            · skip
                              refine lv_aload_n hx hb dX1_finish_192 rfl (lv_at hl 5 rfl) ?_
                              refine lv_iload hx hb dX1_finish_193 (lv_at hl 2 rfl) ?_
                              refine lv_iload hx hb dX1_finish_195 (lv_at hl 1 rfl) ?_
                              refine lv_lload_n hx hb dX1_finish_197 rfl (lv_at hl 3 rfl) ?_
                              refine lv_aload_n hx hb dX1_finish_198 rfl (lv_at hl 5 rfl) ?_
                              refine va_get (D := D) (ci := 1) (v := .ref (b 5)) (C := RX1) (T := TX1) (N := 7) hx hb hts (fun w h => wm (ui_X1 w h)) hown hK hP 0 rfl rfl 6 (by decide) (hts (.fieldLink RX1 23 "LinkedIndexModel" "given" "[J") (wm mb_54)) (fun _ h9 => h9) rfl dX1_finish_199 ?_
                              refine lv_iload_n hx hb dX1_finish_202 rfl (lv_at hl 6 rfl) ?_
                              refine x_lald (j := j) hx hb hK hP 5 4 rfl rfl (by omega) (by decide) dX1_finish_203 ?_
                              refine kn_l (wc := (wM b g 0 n K V (fun i9 => upd kd j (-1) i9 + 1) SK SV)) (wr := []) (w1 := (wM b g 0 (fpN n K (SK j) r) (fpK n K (SK j) r) (fpV n K V (SK j) (SV j) r) (fun i9 => upd kd j (-1) i9 + 1) SK SV)) (va_runV (As := [.int (nI r), .int 1, .long (SK j), .long (SV j)]) (rest := []) ⟨hx, hb, hml, hown, hts⟩ (m_put l hl9 D b g 0 n K V (upd kd j (-1)) SK SV r 1 (SK j) (SV j) H.size hle hn (by rw [if_pos h4]) (Or.inl h4)) (cwV 4 hts (gd_up (gd_V mb_62 mb_63 mb_64 mb_50 mb_65)) rfl rfl rfl (by decide +kernel) ⟨by decide, by decide⟩) ⟨cP_blind, va_recv (q0 := 0) (ci := 1) (q := (RX1, TX1, 7)) hK hP rfl rfl, cPre hP hD hK hS hA hZ [0, 1, 2, 3, 4, 5] rfl (by decide) [0, 1, 2, 3, 4] rfl⟩ rfl rfl hl.1 rfl (lv_room (Nat.le_of_ble_eq_true rfl)) dX1_finish_204 ⟨by decide, by decide⟩) hP hD hS hA [0, 1, 2, 3, 4, 5] [] rfl rfl (by decide) (by decide) (fun r9 H locs hp hP hD hS => ?_)
                              have hP : va_P D vwCl (wM b g 0 (fpN n K (SK j) r) (fpK n K (SK j) r) (fpV n K V (SK j) (SV j) r) (fun i9 => upd kd j (-1) i9 + 1) SK SV) H := hP
                              have hD : va_D A (wM b g 0 (fpN n K (SK j) r) (fpK n K (SK j) r) (fpV n K V (SK j) (SV j) r) (fun i9 => upd kd j (-1) i9 + 1) SK SV) := hD
                              refine lv_goto (tgt := 231) hx hb dX1_finish_207 (by decide) ?_
                              rw [show fpN n K (SK j) r = n from if_pos h4, show fpK n K (SK j) r = K from if_pos h4, show fpV n K V (SK j) (SV j) r = vp_updL V r (SV j) by unfold fpV; rw [if_pos h4]] at hP hD
                              rw [if_pos h4] at hp
                              have hf : fin n K V kd SK SV (nI j) = (0, 1, n, K, vp_updL V r (SV j), upd kd j (-1)) := by
                                unfold fin
                                rw [ix_n hj, ← hr0, if_pos (okS_n hj), if_neg (show ¬ kd j = -1 by rw [ek]; decide), if_pos ek, if_pos h4]
                              rw [hf]
                              exact fn_l hx hb hr hlocks (by decide) (by decide) (fun _ => hp) hP hK hD hS dX1_finish_231
                          · skip
                            first | exact absurd h7 (by decide) | exact (h7 rfl).elim
                        · skip
                          first | exact absurd h7 (by decide) | exact (h7 rfl).elim
                      · skip
                        first | exact absurd h7 (by decide) | exact (h7 rfl).elim
                    · skip
                      first | exact absurd h7 (by decide) | exact (h7 rfl).elim
                  · skip
                    first | exact absurd h7 (by decide) | exact (h7 rfl).elim
          · skip
            first | exact absurd h7 (by decide) | exact (h7 rfl).elim
        · skip
          first | exact absurd h7 (by decide) | exact (h7 rfl).elim
      · skip
        refine lv_aload_n hx hb dX1_finish_12 rfl (lv_at hl 0 rfl) ?_
        refine va_get (D := D) (ci := 1) (v := .ref (b 3)) (C := RX1) (T := TX1) (N := 7) hx hb hts (fun w h => wm (ui_X1 w h)) hown hK hP 0 rfl rfl 4 (by decide) (hts (.fieldLink RX1 16 "LinkedIndexModel" "kinds" "[I") (wm mb_52)) (fun _ h9 => h9) rfl dX1_finish_13 ?_
        refine lv_iload_n hx hb dX1_finish_16 rfl (lv_at hl 1 rfl) ?_
        refine x_iald (j := j) hx hb hK hP 3 2 rfl rfl (by omega) (by decide) dX1_finish_17 ?_
        refine xi (y := 3) ((congrArg (fun z : Int32 => z + 1) ek).trans (by decide)) ?_
        refine lv_if_ne (tgt := 25) hx hb dX1_finish_18 (by decide) (fun h7 => ?_) (fun h7 => ?_)
        · skip
          refine lv_iconst (v := 0) hx hb dX1_finish_25 (by decide) ?_
          refine va_put (D := D) (ci := 1) (v := .int 0) (ty := .int) (C := RX1) (T := TX1) (N := 7) hx hb hts (fun w h => wm (ui_X1 w h)) tyX1 tyX1_ok nmX1 hown hK hP hD hS 0 rfl rfl 0 (by decide) (hts (.fieldLink RX1 26 "LinkedIndexModel" "code" "I") (wm mb_47)) (fun _ h9 => h9) rfl (by decide +kernel) rfl rfl (Nat.le_of_ble_eq_true rfl) dX1_finish_26 (fun H locs hP hD hS => ?_)
          have hP : va_P D vwCl (wM b g 0 n K V (fun i9 => kd i9 + 1) SK SV) H := hP
          have hD : va_D A (wM b g 0 n K V (fun i9 => kd i9 + 1) SK SV) := hD
          refine lv_aload_n hx hb dX1_finish_29 rfl (lv_at hl 0 rfl) ?_
          refine va_get (D := D) (ci := 1) (v := .int 0) (C := RX1) (T := TX1) (N := 7) hx hb hts (fun w h => wm (ui_X1 w h)) hown hK hP 0 rfl rfl 0 (by decide) (hts (.fieldLink RX1 26 "LinkedIndexModel" "code" "I") (wm mb_47)) (fun _ h9 => h9) rfl dX1_finish_30 ?_
          refine lv_if_le (tgt := 38) hx hb dX1_finish_33 (by decide) (fun h7 => ?_) (fun h7 => ?_)
          · skip
            refine lv_aload_n hx hb dX1_finish_38 rfl (lv_at hl 0 rfl) ?_
            refine va_get (D := D) (ci := 1) (v := .ref (b 3)) (C := RX1) (T := TX1) (N := 7) hx hb hts (fun w h => wm (ui_X1 w h)) hown hK hP 0 rfl rfl 4 (by decide) (hts (.fieldLink RX1 16 "LinkedIndexModel" "kinds" "[I") (wm mb_52)) (fun _ h9 => h9) rfl dX1_finish_39 ?_
            refine lv_iload_n hx hb dX1_finish_42 rfl (lv_at hl 1 rfl) ?_
            refine x_iald (j := j) hx hb hK hP 3 2 rfl rfl (by omega) (by decide) dX1_finish_43 ?_
            refine lv_iconst (v := 1) hx hb dX1_finish_44 (by decide) ?_
            refine lv_isub hx hb dX1_finish_45 ?_
            refine xi (y := 2) ((congrArg (fun z : Int32 => z + 1 - 1) ek).trans (by decide)) ?_
            refine lv_istore_n (lv' := [(2, .int 2), (0, .ref (b 0)), (1, .int (nI j))]) hx hb dX1_finish_46 rfl hl (by decide) rfl (fun ls hl => ?_)
            refine lv_aload_n hx hb dX1_finish_47 rfl (lv_at hl 1 rfl) ?_
            refine va_get (D := D) (ci := 1) (v := .ref (b 4)) (C := RX1) (T := TX1) (N := 7) hx hb hts (fun w h => wm (ui_X1 w h)) hown hK hP 0 rfl rfl 5 (by decide) (hts (.fieldLink RX1 20 "LinkedIndexModel" "asked" "[J") (wm mb_53)) (fun _ h9 => h9) rfl dX1_finish_48 ?_
            refine lv_iload_n hx hb dX1_finish_51 rfl (lv_at hl 2 rfl) ?_
            refine x_lald (j := j) hx hb hK hP 4 3 rfl rfl (by omega) (by decide) dX1_finish_52 ?_
            refine lv_lstore_n (lv' := [(3, .long (SK j)), (2, .int 2), (0, .ref (b 0)), (1, .int (nI j))]) hx hb dX1_finish_53 rfl hl (by decide) rfl (fun ls hl => ?_)
            refine lv_aload_n hx hb dX1_finish_54 rfl (lv_at hl 2 rfl) ?_
            refine lv_lload_n hx hb dX1_finish_55 rfl (lv_at hl 0 rfl) ?_
            refine kn_i (wc := (wM b g 0 n K V (fun i9 => kd i9 + 1) SK SV)) (wr := []) (w1 := (wM b g 0 n K V (fun i9 => kd i9 + 1) SK SV)) (va_runV (As := [.long (SK j)]) (rest := []) ⟨hx, hb, hml, hown, hts⟩ (m_rank l hl9 D b g 0 n K V kd SK SV (SK j) H.size hn) (cwV 1 hts (gd_up (gd_V mb_58 mb_59 mb_60 mb_50 mb_61)) rfl rfl rfl (by decide +kernel) ⟨by decide, by decide⟩) ⟨cP_blind, va_recv (q0 := 0) (ci := 1) (q := (RX1, TX1, 7)) hK hP rfl rfl, cPre hP hD hK hS hA hZ [0, 1, 2, 3, 4, 5] rfl (by decide) [0, 1, 2, 3, 4] rfl⟩ rfl rfl hl.1 rfl (lv_room (Nat.le_of_ble_eq_true rfl)) dX1_finish_56 ⟨by decide, by decide⟩) hP hD hS hA [0, 1, 2, 3, 4, 5] [] rfl rfl (by decide) (by decide) (fun r9 H locs hp hP hD hS => ?_)
            have hP : va_P D vwCl (wM b g 0 n K V (fun i9 => kd i9 + 1) SK SV) H := hP
            have hD : va_D A (wM b g 0 n K V (fun i9 => kd i9 + 1) SK SV) := hD
            have hle := rk_le K (SK j) n
            obtain ⟨r, hr0⟩ : ∃ r, r = rk K (SK j) n := ⟨_, rfl⟩
            rw [← hr0] at hp hle
            subst hp
            refine lv_istore (lv' := [(5, .int (nI r)), (3, .long (SK j)), (2, .int 2), (0, .ref (b 0)), (1, .int (nI j))]) hx hb dX1_finish_59 hl (by decide) rfl (fun ls hl => ?_)
            refine lv_iload hx hb dX1_finish_61 (lv_at hl 0 rfl) ?_
            refine lv_aload_n hx hb dX1_finish_63 rfl (lv_at hl 3 rfl) ?_
            refine va_get (D := D) (ci := 1) (v := .int (nI n)) (C := RX1) (T := TX1) (N := 7) hx hb hts (fun w h => wm (ui_X1 w h)) hown hK hP 0 rfl rfl 1 (by decide) (hts (.fieldLink RX1 34 "LinkedIndexModel" "size" "I") (wm mb_55)) (fun _ h9 => h9) rfl dX1_finish_64 ?_
            refine lv_icmp_ge (tgt := 86) hx hb dX1_finish_67 (by decide) (fun h8 => ?_) (fun h8 => ?_)
            · skip
              have h3 : ¬ r < n := fun q => absurd ((nI_leI (by omega) (by omega)).mp h8) (by omega)
              have h4 : ¬ atR K n (SK j) r := fun q => h3 q.1
              refine lv_iconst (v := 0) hx hb dX1_finish_86 (by decide) ?_
              refine lv_istore (lv' := [(6, .int 0), (5, .int (nI r)), (3, .long (SK j)), (2, .int 2), (0, .ref (b 0)), (1, .int (nI j))]) hx hb dX1_finish_87 hl (by decide) rfl (fun ls hl => ?_)
              refine lv_iload_n hx hb dX1_finish_89 rfl (lv_at hl 3 rfl) ?_
              refine lv_iconst (v := 1) hx hb dX1_finish_90 (by decide) ?_
              refine lv_icmp_ne (tgt := 115) hx hb dX1_finish_91 (by decide) (fun h7 => ?_) (fun h7 => ?_)
              · skip
                refine lv_aload_n hx hb dX1_finish_115 rfl (lv_at hl 4 rfl) ?_
                refine va_get (D := D) (ci := 1) (v := .ref (b 3)) (C := RX1) (T := TX1) (N := 7) hx hb hts (fun w h => wm (ui_X1 w h)) hown hK hP 0 rfl rfl 4 (by decide) (hts (.fieldLink RX1 16 "LinkedIndexModel" "kinds" "[I") (wm mb_52)) (fun _ h9 => h9) rfl dX1_finish_116 ?_
                refine lv_iload_n hx hb dX1_finish_119 rfl (lv_at hl 5 rfl) ?_
                refine lv_iconst (v := 0) hx hb dX1_finish_120 (by decide) ?_
                refine x_iast (j := j) hx hb hK hP hD hS 3 2 rfl rfl (by omega) (by decide) dX1_finish_121 (fun H locs hP hD hS => ?_)
                have hP : va_P D vwCl (wM b g 0 n K V (upd (fun i9 => kd i9 + 1) j 0) SK SV) H := hP
                have hD : va_D A (wM b g 0 n K V (upd (fun i9 => kd i9 + 1) j 0) SK SV) := hD
                rw [upd_0] at hP hD
                refine lv_iload_n hx hb dX1_finish_122 rfl (lv_at hl 3 rfl) ?_
                refine lv_iconst (v := 3) hx hb dX1_finish_123 (by decide) ?_
                refine lv_icmp_ne (tgt := 144) hx hb dX1_finish_124 (by decide) (fun h7 => ?_) (fun h7 => ?_)
                · skip
                  refine lv_iload_n hx hb dX1_finish_144 rfl (lv_at hl 3 rfl) ?_
                  refine lv_iconst (v := 1) hx hb dX1_finish_145 (by decide) ?_
                  refine lv_icmp_eq (tgt := 158) hx hb dX1_finish_146 (by decide) (fun h7 => ?_) (fun h7 => ?_)
                  · skip
                    first | exact absurd h7 (by decide) | exact (h7 rfl).elim
                  · skip
                    refine lv_iload hx hb dX1_finish_149 (lv_at hl 0 rfl) ?_
                    refine lv_if_ne (tgt := 158) hx hb dX1_finish_151 (by decide) (fun h7 => ?_) (fun h7 => ?_)
                    · skip
                      first | exact absurd h7 (by decide) | exact (h7 rfl).elim
                    · skip
                      refine lv_iconst (v := 1) hx hb dX1_finish_154 (by decide) ?_
                      refine lv_goto (tgt := 159) hx hb dX1_finish_155 (by decide) ?_
                      refine lv_istore (lv' := [(7, .int 1), (6, .int 0), (5, .int (nI r)), (3, .long (SK j)), (2, .int 2), (0, .ref (b 0)), (1, .int (nI j))]) hx hb dX1_finish_159 hl (by decide) rfl (fun ls hl => ?_)
                      refine lv_iload hx hb dX1_finish_161 (lv_at hl 0 rfl) ?_
                      refine lv_if_eq (tgt := 173) hx hb dX1_finish_163 (by decide) (fun h7 => ?_) (fun h7 => ?_)
                      · skip
                        first | exact absurd h7 (by decide) | exact (h7 rfl).elim
                      · skip
                        refine lv_aload_n hx hb dX1_finish_166 rfl (lv_at hl 5 rfl) ?_
                        refine lv_iconst (v := 3) hx hb dX1_finish_167 (by decide) ?_
                        refine va_put (D := D) (ci := 1) (v := .int 3) (ty := .int) (C := RX1) (T := TX1) (N := 7) hx hb hts (fun w h => wm (ui_X1 w h)) tyX1 tyX1_ok nmX1 hown hK hP hD hS 0 rfl rfl 0 (by decide) (hts (.fieldLink RX1 26 "LinkedIndexModel" "code" "I") (wm mb_47)) (fun _ h9 => h9) rfl (by decide +kernel) rfl rfl (Nat.le_of_ble_eq_true rfl) dX1_finish_168 (fun H locs hP hD hS => ?_)
                        have hP : va_P D vwCl (wM b g 3 n K V (fun i9 => upd kd j (-1) i9 + 1) SK SV) H := hP
                        have hD : va_D A (wM b g 3 n K V (fun i9 => upd kd j (-1) i9 + 1) SK SV) := hD
                        refine lv_lconst (v := 0) hx hb dX1_finish_171 (by decide) ?_
                        have hf : fin n K V kd SK SV (nI j) = (3, 0, n, K, V, upd kd j (-1)) := by
                          unfold fin
                          rw [ix_n hj, ← hr0, if_pos (okS_n hj), if_neg (show ¬ kd j = -1 by rw [ek]; decide), if_neg (show ¬ kd j = 1 by rw [ek]; decide), if_neg (show ¬ kd j = 3 by rw [ek]; decide), if_neg h4]
                        rw [hf]
                        exact fn_l hx hb hr hlocks (by decide) (by decide) (fun q => absurd (show (3 : Int32) = 0 from q) (by decide)) hP hK hD hS dX1_finish_172
                · skip
                  first | exact absurd h7 (by decide) | exact (h7 rfl).elim
              · skip
                first | exact absurd h7 (by decide) | exact (h7 rfl).elim
            · skip
              have h3 : r < n := Nat.lt_of_not_le (fun q => h8 ((nI_leI (by omega) (by omega)).mpr q))
              refine lv_aload_n hx hb dX1_finish_70 rfl (lv_at hl 3 rfl) ?_
              refine va_get (D := D) (ci := 1) (v := .ref (b 1)) (C := RX1) (T := TX1) (N := 7) hx hb hts (fun w h => wm (ui_X1 w h)) hown hK hP 0 rfl rfl 2 (by decide) (hts (.fieldLink RX1 7 "LinkedIndexModel" "keys" "[J") (wm mb_56)) (fun _ h9 => h9) rfl dX1_finish_71 ?_
              refine lv_iload hx hb dX1_finish_74 (lv_at hl 0 rfl) ?_
              refine x_lald (j := r) hx hb hK hP 1 0 rfl rfl (by omega) (by decide) dX1_finish_76 ?_
              refine lv_lload_n hx hb dX1_finish_77 rfl (lv_at hl 1 rfl) ?_
              refine W.lcmp hx hb dX1_finish_78 ?_
              refine lv_if_ne (tgt := 86) hx hb dX1_finish_79 (by decide) (fun h8 => ?_) (fun h8 => ?_)
              · skip
                have h4 : ¬ atR K n (SK j) r := fun q => h8 ((lg_cmp_eq _ _).mpr q.2)
                refine lv_iconst (v := 0) hx hb dX1_finish_86 (by decide) ?_
                refine lv_istore (lv' := [(6, .int 0), (5, .int (nI r)), (3, .long (SK j)), (2, .int 2), (0, .ref (b 0)), (1, .int (nI j))]) hx hb dX1_finish_87 hl (by decide) rfl (fun ls hl => ?_)
                refine lv_iload_n hx hb dX1_finish_89 rfl (lv_at hl 3 rfl) ?_
                refine lv_iconst (v := 1) hx hb dX1_finish_90 (by decide) ?_
                refine lv_icmp_ne (tgt := 115) hx hb dX1_finish_91 (by decide) (fun h7 => ?_) (fun h7 => ?_)
                · skip
                  refine lv_aload_n hx hb dX1_finish_115 rfl (lv_at hl 4 rfl) ?_
                  refine va_get (D := D) (ci := 1) (v := .ref (b 3)) (C := RX1) (T := TX1) (N := 7) hx hb hts (fun w h => wm (ui_X1 w h)) hown hK hP 0 rfl rfl 4 (by decide) (hts (.fieldLink RX1 16 "LinkedIndexModel" "kinds" "[I") (wm mb_52)) (fun _ h9 => h9) rfl dX1_finish_116 ?_
                  refine lv_iload_n hx hb dX1_finish_119 rfl (lv_at hl 5 rfl) ?_
                  refine lv_iconst (v := 0) hx hb dX1_finish_120 (by decide) ?_
                  refine x_iast (j := j) hx hb hK hP hD hS 3 2 rfl rfl (by omega) (by decide) dX1_finish_121 (fun H locs hP hD hS => ?_)
                  have hP : va_P D vwCl (wM b g 0 n K V (upd (fun i9 => kd i9 + 1) j 0) SK SV) H := hP
                  have hD : va_D A (wM b g 0 n K V (upd (fun i9 => kd i9 + 1) j 0) SK SV) := hD
                  rw [upd_0] at hP hD
                  refine lv_iload_n hx hb dX1_finish_122 rfl (lv_at hl 3 rfl) ?_
                  refine lv_iconst (v := 3) hx hb dX1_finish_123 (by decide) ?_
                  refine lv_icmp_ne (tgt := 144) hx hb dX1_finish_124 (by decide) (fun h7 => ?_) (fun h7 => ?_)
                  · skip
                    refine lv_iload_n hx hb dX1_finish_144 rfl (lv_at hl 3 rfl) ?_
                    refine lv_iconst (v := 1) hx hb dX1_finish_145 (by decide) ?_
                    refine lv_icmp_eq (tgt := 158) hx hb dX1_finish_146 (by decide) (fun h7 => ?_) (fun h7 => ?_)
                    · skip
                      first | exact absurd h7 (by decide) | exact (h7 rfl).elim
                    · skip
                      refine lv_iload hx hb dX1_finish_149 (lv_at hl 0 rfl) ?_
                      refine lv_if_ne (tgt := 158) hx hb dX1_finish_151 (by decide) (fun h7 => ?_) (fun h7 => ?_)
                      · skip
                        first | exact absurd h7 (by decide) | exact (h7 rfl).elim
                      · skip
                        refine lv_iconst (v := 1) hx hb dX1_finish_154 (by decide) ?_
                        refine lv_goto (tgt := 159) hx hb dX1_finish_155 (by decide) ?_
                        refine lv_istore (lv' := [(7, .int 1), (6, .int 0), (5, .int (nI r)), (3, .long (SK j)), (2, .int 2), (0, .ref (b 0)), (1, .int (nI j))]) hx hb dX1_finish_159 hl (by decide) rfl (fun ls hl => ?_)
                        refine lv_iload hx hb dX1_finish_161 (lv_at hl 0 rfl) ?_
                        refine lv_if_eq (tgt := 173) hx hb dX1_finish_163 (by decide) (fun h7 => ?_) (fun h7 => ?_)
                        · skip
                          first | exact absurd h7 (by decide) | exact (h7 rfl).elim
                        · skip
                          refine lv_aload_n hx hb dX1_finish_166 rfl (lv_at hl 5 rfl) ?_
                          refine lv_iconst (v := 3) hx hb dX1_finish_167 (by decide) ?_
                          refine va_put (D := D) (ci := 1) (v := .int 3) (ty := .int) (C := RX1) (T := TX1) (N := 7) hx hb hts (fun w h => wm (ui_X1 w h)) tyX1 tyX1_ok nmX1 hown hK hP hD hS 0 rfl rfl 0 (by decide) (hts (.fieldLink RX1 26 "LinkedIndexModel" "code" "I") (wm mb_47)) (fun _ h9 => h9) rfl (by decide +kernel) rfl rfl (Nat.le_of_ble_eq_true rfl) dX1_finish_168 (fun H locs hP hD hS => ?_)
                          have hP : va_P D vwCl (wM b g 3 n K V (fun i9 => upd kd j (-1) i9 + 1) SK SV) H := hP
                          have hD : va_D A (wM b g 3 n K V (fun i9 => upd kd j (-1) i9 + 1) SK SV) := hD
                          refine lv_lconst (v := 0) hx hb dX1_finish_171 (by decide) ?_
                          have hf : fin n K V kd SK SV (nI j) = (3, 0, n, K, V, upd kd j (-1)) := by
                            unfold fin
                            rw [ix_n hj, ← hr0, if_pos (okS_n hj), if_neg (show ¬ kd j = -1 by rw [ek]; decide), if_neg (show ¬ kd j = 1 by rw [ek]; decide), if_neg (show ¬ kd j = 3 by rw [ek]; decide), if_neg h4]
                          rw [hf]
                          exact fn_l hx hb hr hlocks (by decide) (by decide) (fun q => absurd (show (3 : Int32) = 0 from q) (by decide)) hP hK hD hS dX1_finish_172
                  · skip
                    first | exact absurd h7 (by decide) | exact (h7 rfl).elim
                · skip
                  first | exact absurd h7 (by decide) | exact (h7 rfl).elim
              · skip
                have h4 : atR K n (SK j) r := ⟨h3, (lg_cmp_eq _ _).mp h8⟩
                refine lv_iconst (v := 1) hx hb dX1_finish_82 (by decide) ?_
                refine lv_goto (tgt := 87) hx hb dX1_finish_83 (by decide) ?_
                refine lv_istore (lv' := [(6, .int 1), (5, .int (nI r)), (3, .long (SK j)), (2, .int 2), (0, .ref (b 0)), (1, .int (nI j))]) hx hb dX1_finish_87 hl (by decide) rfl (fun ls hl => ?_)
                refine lv_iload_n hx hb dX1_finish_89 rfl (lv_at hl 3 rfl) ?_
                refine lv_iconst (v := 1) hx hb dX1_finish_90 (by decide) ?_
                refine lv_icmp_ne (tgt := 115) hx hb dX1_finish_91 (by decide) (fun h7 => ?_) (fun h7 => ?_)
                · skip
                  refine lv_aload_n hx hb dX1_finish_115 rfl (lv_at hl 4 rfl) ?_
                  refine va_get (D := D) (ci := 1) (v := .ref (b 3)) (C := RX1) (T := TX1) (N := 7) hx hb hts (fun w h => wm (ui_X1 w h)) hown hK hP 0 rfl rfl 4 (by decide) (hts (.fieldLink RX1 16 "LinkedIndexModel" "kinds" "[I") (wm mb_52)) (fun _ h9 => h9) rfl dX1_finish_116 ?_
                  refine lv_iload_n hx hb dX1_finish_119 rfl (lv_at hl 5 rfl) ?_
                  refine lv_iconst (v := 0) hx hb dX1_finish_120 (by decide) ?_
                  refine x_iast (j := j) hx hb hK hP hD hS 3 2 rfl rfl (by omega) (by decide) dX1_finish_121 (fun H locs hP hD hS => ?_)
                  have hP : va_P D vwCl (wM b g 0 n K V (upd (fun i9 => kd i9 + 1) j 0) SK SV) H := hP
                  have hD : va_D A (wM b g 0 n K V (upd (fun i9 => kd i9 + 1) j 0) SK SV) := hD
                  rw [upd_0] at hP hD
                  refine lv_iload_n hx hb dX1_finish_122 rfl (lv_at hl 3 rfl) ?_
                  refine lv_iconst (v := 3) hx hb dX1_finish_123 (by decide) ?_
                  refine lv_icmp_ne (tgt := 144) hx hb dX1_finish_124 (by decide) (fun h7 => ?_) (fun h7 => ?_)
                  · skip
                    refine lv_iload_n hx hb dX1_finish_144 rfl (lv_at hl 3 rfl) ?_
                    refine lv_iconst (v := 1) hx hb dX1_finish_145 (by decide) ?_
                    refine lv_icmp_eq (tgt := 158) hx hb dX1_finish_146 (by decide) (fun h7 => ?_) (fun h7 => ?_)
                    · skip
                      first | exact absurd h7 (by decide) | exact (h7 rfl).elim
                    · skip
                      refine lv_iload hx hb dX1_finish_149 (lv_at hl 0 rfl) ?_
                      refine lv_if_ne (tgt := 158) hx hb dX1_finish_151 (by decide) (fun h7 => ?_) (fun h7 => ?_)
                      · skip
                        refine lv_iconst (v := 0) hx hb dX1_finish_158 (by decide) ?_
                        refine lv_istore (lv' := [(7, .int 0), (6, .int 1), (5, .int (nI r)), (3, .long (SK j)), (2, .int 2), (0, .ref (b 0)), (1, .int (nI j))]) hx hb dX1_finish_159 hl (by decide) rfl (fun ls hl => ?_)
                        refine lv_iload hx hb dX1_finish_161 (lv_at hl 0 rfl) ?_
                        refine lv_if_eq (tgt := 173) hx hb dX1_finish_163 (by decide) (fun h7 => ?_) (fun h7 => ?_)
                        · skip
                          refine lv_iload_n hx hb dX1_finish_173 rfl (lv_at hl 4 rfl) ?_
                          refine lv_if_ne (tgt := 187) hx hb dX1_finish_174 (by decide) (fun h7 => ?_) (fun h7 => ?_)
                          · skip
                            refine lv_iload_n hx hb dX1_finish_187 rfl (lv_at hl 4 rfl) ?_
                            refine lv_iconst (v := 1) hx hb dX1_finish_188 (by decide) ?_
                            refine lv_icmp_ne (tgt := 210) hx hb dX1_finish_189 (by decide) (fun h7 => ?_) (fun h7 => ?_)
                            · skip
                              refine lv_iload_n hx hb dX1_finish_210 rfl (lv_at hl 4 rfl) ?_
                              refine lv_iconst (v := 2) hx hb dX1_finish_211 (by decide) ?_
                              refine lv_icmp_ne (tgt := 224) hx hb dX1_finish_212 (by decide) (fun h7 => ?_) (fun h7 => ?_)
                              · skip
                                first | exact absurd h7 (by decide) | exact (h7 rfl).elim
                              · skip
                                refine lv_aload_n hx hb dX1_finish_215 rfl (lv_at hl 5 rfl) ?_
                                refine lv_iload hx hb dX1_finish_216 (lv_at hl 2 rfl) ?_
                                have hlt := h4.1
                                refine kn_l (wc := (wM b g 0 n K V (fun i9 => upd kd j (-1) i9 + 1) SK SV)) (wr := []) (w1 := (wM b g 0 (n - 1) (clF (n - 1 - r) r K) (clF (n - 1 - r) r V) (fun i9 => upd kd j (-1) i9 + 1) SK SV)) (va_runV (As := [.int (nI r)]) (rest := []) ⟨hx, hb, hml, hown, hts⟩ (m_take l hl9 D b g 0 n K V (upd kd j (-1)) SK SV r H.size hlt hn) (cwV 1 hts (gd_up (gd_V mb_66 mb_67 mb_68 mb_50 mb_69)) rfl rfl rfl (by decide +kernel) ⟨by decide, by decide⟩) ⟨cP_blind, va_recv (q0 := 0) (ci := 1) (q := (RX1, TX1, 7)) hK hP rfl rfl, cPre hP hD hK hS hA hZ [0, 1, 2, 3, 4, 5] rfl (by decide) [0, 1, 2, 3, 4] rfl⟩ rfl rfl hl.1 rfl (lv_room (Nat.le_of_ble_eq_true rfl)) dX1_finish_218 ⟨by decide, by decide⟩) hP hD hS hA [0, 1, 2, 3, 4, 5] [] rfl rfl (by decide) (by decide) (fun r9 H locs hp hP hD hS => ?_)
                                have hP : va_P D vwCl (wM b g 0 (n - 1) (clF (n - 1 - r) r K) (clF (n - 1 - r) r V) (fun i9 => upd kd j (-1) i9 + 1) SK SV) H := hP
                                have hD : va_D A (wM b g 0 (n - 1) (clF (n - 1 - r) r K) (clF (n - 1 - r) r V) (fun i9 => upd kd j (-1) i9 + 1) SK SV) := hD
                                refine lv_goto (tgt := 231) hx hb dX1_finish_221 (by decide) ?_
                                have hf : fin n K V kd SK SV (nI j) = (0, V r, n - 1, clF (n - 1 - r) r K, clF (n - 1 - r) r V, upd kd j (-1)) := by
                                  unfold fin
                                  rw [ix_n hj, ← hr0, if_pos (okS_n hj), if_neg (show ¬ kd j = -1 by rw [ek]; decide), if_neg (show ¬ kd j = 1 by rw [ek]; decide), if_neg (show ¬ kd j = 3 by rw [ek]; decide), if_pos h4, if_pos ek]
                                rw [hf]
                                exact fn_l hx hb hr hlocks (by decide) (by decide) (fun _ => hp) hP hK hD hS dX1_finish_231
                            · skip
                              first | exact absurd h7 (by decide) | exact (h7 rfl).elim
                          · skip
                            first | exact absurd h7 (by decide) | exact (h7 rfl).elim
                        · skip
                          first | exact absurd h7 (by decide) | exact (h7 rfl).elim
                      · skip
                        first | exact absurd h7 (by decide) | exact (h7 rfl).elim
                  · skip
                    first | exact absurd h7 (by decide) | exact (h7 rfl).elim
                · skip
                  first | exact absurd h7 (by decide) | exact (h7 rfl).elim
          · skip
            first | exact absurd h7 (by decide) | exact (h7 rfl).elim
        · skip
          first | exact absurd h7 (by decide) | exact (h7 rfl).elim
      · skip
        refine lv_aload_n hx hb dX1_finish_12 rfl (lv_at hl 0 rfl) ?_
        refine va_get (D := D) (ci := 1) (v := .ref (b 3)) (C := RX1) (T := TX1) (N := 7) hx hb hts (fun w h => wm (ui_X1 w h)) hown hK hP 0 rfl rfl 4 (by decide) (hts (.fieldLink RX1 16 "LinkedIndexModel" "kinds" "[I") (wm mb_52)) (fun _ h9 => h9) rfl dX1_finish_13 ?_
        refine lv_iload_n hx hb dX1_finish_16 rfl (lv_at hl 1 rfl) ?_
        refine x_iald (j := j) hx hb hK hP 3 2 rfl rfl (by omega) (by decide) dX1_finish_17 ?_
        refine xi (y := 4) ((congrArg (fun z : Int32 => z + 1) ek).trans (by decide)) ?_
        refine lv_if_ne (tgt := 25) hx hb dX1_finish_18 (by decide) (fun h7 => ?_) (fun h7 => ?_)
        · skip
          refine lv_iconst (v := 0) hx hb dX1_finish_25 (by decide) ?_
          refine va_put (D := D) (ci := 1) (v := .int 0) (ty := .int) (C := RX1) (T := TX1) (N := 7) hx hb hts (fun w h => wm (ui_X1 w h)) tyX1 tyX1_ok nmX1 hown hK hP hD hS 0 rfl rfl 0 (by decide) (hts (.fieldLink RX1 26 "LinkedIndexModel" "code" "I") (wm mb_47)) (fun _ h9 => h9) rfl (by decide +kernel) rfl rfl (Nat.le_of_ble_eq_true rfl) dX1_finish_26 (fun H locs hP hD hS => ?_)
          have hP : va_P D vwCl (wM b g 0 n K V (fun i9 => kd i9 + 1) SK SV) H := hP
          have hD : va_D A (wM b g 0 n K V (fun i9 => kd i9 + 1) SK SV) := hD
          refine lv_aload_n hx hb dX1_finish_29 rfl (lv_at hl 0 rfl) ?_
          refine va_get (D := D) (ci := 1) (v := .int 0) (C := RX1) (T := TX1) (N := 7) hx hb hts (fun w h => wm (ui_X1 w h)) hown hK hP 0 rfl rfl 0 (by decide) (hts (.fieldLink RX1 26 "LinkedIndexModel" "code" "I") (wm mb_47)) (fun _ h9 => h9) rfl dX1_finish_30 ?_
          refine lv_if_le (tgt := 38) hx hb dX1_finish_33 (by decide) (fun h7 => ?_) (fun h7 => ?_)
          · skip
            refine lv_aload_n hx hb dX1_finish_38 rfl (lv_at hl 0 rfl) ?_
            refine va_get (D := D) (ci := 1) (v := .ref (b 3)) (C := RX1) (T := TX1) (N := 7) hx hb hts (fun w h => wm (ui_X1 w h)) hown hK hP 0 rfl rfl 4 (by decide) (hts (.fieldLink RX1 16 "LinkedIndexModel" "kinds" "[I") (wm mb_52)) (fun _ h9 => h9) rfl dX1_finish_39 ?_
            refine lv_iload_n hx hb dX1_finish_42 rfl (lv_at hl 1 rfl) ?_
            refine x_iald (j := j) hx hb hK hP 3 2 rfl rfl (by omega) (by decide) dX1_finish_43 ?_
            refine lv_iconst (v := 1) hx hb dX1_finish_44 (by decide) ?_
            refine lv_isub hx hb dX1_finish_45 ?_
            refine xi (y := 3) ((congrArg (fun z : Int32 => z + 1 - 1) ek).trans (by decide)) ?_
            refine lv_istore_n (lv' := [(2, .int 3), (0, .ref (b 0)), (1, .int (nI j))]) hx hb dX1_finish_46 rfl hl (by decide) rfl (fun ls hl => ?_)
            refine lv_aload_n hx hb dX1_finish_47 rfl (lv_at hl 1 rfl) ?_
            refine va_get (D := D) (ci := 1) (v := .ref (b 4)) (C := RX1) (T := TX1) (N := 7) hx hb hts (fun w h => wm (ui_X1 w h)) hown hK hP 0 rfl rfl 5 (by decide) (hts (.fieldLink RX1 20 "LinkedIndexModel" "asked" "[J") (wm mb_53)) (fun _ h9 => h9) rfl dX1_finish_48 ?_
            refine lv_iload_n hx hb dX1_finish_51 rfl (lv_at hl 2 rfl) ?_
            refine x_lald (j := j) hx hb hK hP 4 3 rfl rfl (by omega) (by decide) dX1_finish_52 ?_
            refine lv_lstore_n (lv' := [(3, .long (SK j)), (2, .int 3), (0, .ref (b 0)), (1, .int (nI j))]) hx hb dX1_finish_53 rfl hl (by decide) rfl (fun ls hl => ?_)
            refine lv_aload_n hx hb dX1_finish_54 rfl (lv_at hl 2 rfl) ?_
            refine lv_lload_n hx hb dX1_finish_55 rfl (lv_at hl 0 rfl) ?_
            refine kn_i (wc := (wM b g 0 n K V (fun i9 => kd i9 + 1) SK SV)) (wr := []) (w1 := (wM b g 0 n K V (fun i9 => kd i9 + 1) SK SV)) (va_runV (As := [.long (SK j)]) (rest := []) ⟨hx, hb, hml, hown, hts⟩ (m_rank l hl9 D b g 0 n K V kd SK SV (SK j) H.size hn) (cwV 1 hts (gd_up (gd_V mb_58 mb_59 mb_60 mb_50 mb_61)) rfl rfl rfl (by decide +kernel) ⟨by decide, by decide⟩) ⟨cP_blind, va_recv (q0 := 0) (ci := 1) (q := (RX1, TX1, 7)) hK hP rfl rfl, cPre hP hD hK hS hA hZ [0, 1, 2, 3, 4, 5] rfl (by decide) [0, 1, 2, 3, 4] rfl⟩ rfl rfl hl.1 rfl (lv_room (Nat.le_of_ble_eq_true rfl)) dX1_finish_56 ⟨by decide, by decide⟩) hP hD hS hA [0, 1, 2, 3, 4, 5] [] rfl rfl (by decide) (by decide) (fun r9 H locs hp hP hD hS => ?_)
            have hP : va_P D vwCl (wM b g 0 n K V (fun i9 => kd i9 + 1) SK SV) H := hP
            have hD : va_D A (wM b g 0 n K V (fun i9 => kd i9 + 1) SK SV) := hD
            have hle := rk_le K (SK j) n
            obtain ⟨r, hr0⟩ : ∃ r, r = rk K (SK j) n := ⟨_, rfl⟩
            rw [← hr0] at hp hle
            subst hp
            refine lv_istore (lv' := [(5, .int (nI r)), (3, .long (SK j)), (2, .int 3), (0, .ref (b 0)), (1, .int (nI j))]) hx hb dX1_finish_59 hl (by decide) rfl (fun ls hl => ?_)
            refine lv_iload hx hb dX1_finish_61 (lv_at hl 0 rfl) ?_
            refine lv_aload_n hx hb dX1_finish_63 rfl (lv_at hl 3 rfl) ?_
            refine va_get (D := D) (ci := 1) (v := .int (nI n)) (C := RX1) (T := TX1) (N := 7) hx hb hts (fun w h => wm (ui_X1 w h)) hown hK hP 0 rfl rfl 1 (by decide) (hts (.fieldLink RX1 34 "LinkedIndexModel" "size" "I") (wm mb_55)) (fun _ h9 => h9) rfl dX1_finish_64 ?_
            refine lv_icmp_ge (tgt := 86) hx hb dX1_finish_67 (by decide) (fun h8 => ?_) (fun h8 => ?_)
            · skip
              have h3 : ¬ r < n := fun q => absurd ((nI_leI (by omega) (by omega)).mp h8) (by omega)
              have h4 : ¬ atR K n (SK j) r := fun q => h3 q.1
              refine lv_iconst (v := 0) hx hb dX1_finish_86 (by decide) ?_
              refine lv_istore (lv' := [(6, .int 0), (5, .int (nI r)), (3, .long (SK j)), (2, .int 3), (0, .ref (b 0)), (1, .int (nI j))]) hx hb dX1_finish_87 hl (by decide) rfl (fun ls hl => ?_)
              refine lv_iload_n hx hb dX1_finish_89 rfl (lv_at hl 3 rfl) ?_
              refine lv_iconst (v := 1) hx hb dX1_finish_90 (by decide) ?_
              refine lv_icmp_ne (tgt := 115) hx hb dX1_finish_91 (by decide) (fun h7 => ?_) (fun h7 => ?_)
              · skip
                refine lv_aload_n hx hb dX1_finish_115 rfl (lv_at hl 4 rfl) ?_
                refine va_get (D := D) (ci := 1) (v := .ref (b 3)) (C := RX1) (T := TX1) (N := 7) hx hb hts (fun w h => wm (ui_X1 w h)) hown hK hP 0 rfl rfl 4 (by decide) (hts (.fieldLink RX1 16 "LinkedIndexModel" "kinds" "[I") (wm mb_52)) (fun _ h9 => h9) rfl dX1_finish_116 ?_
                refine lv_iload_n hx hb dX1_finish_119 rfl (lv_at hl 5 rfl) ?_
                refine lv_iconst (v := 0) hx hb dX1_finish_120 (by decide) ?_
                refine x_iast (j := j) hx hb hK hP hD hS 3 2 rfl rfl (by omega) (by decide) dX1_finish_121 (fun H locs hP hD hS => ?_)
                have hP : va_P D vwCl (wM b g 0 n K V (upd (fun i9 => kd i9 + 1) j 0) SK SV) H := hP
                have hD : va_D A (wM b g 0 n K V (upd (fun i9 => kd i9 + 1) j 0) SK SV) := hD
                rw [upd_0] at hP hD
                refine lv_iload_n hx hb dX1_finish_122 rfl (lv_at hl 3 rfl) ?_
                refine lv_iconst (v := 3) hx hb dX1_finish_123 (by decide) ?_
                refine lv_icmp_ne (tgt := 144) hx hb dX1_finish_124 (by decide) (fun h7 => ?_) (fun h7 => ?_)
                · skip
                  first | exact absurd h7 (by decide) | exact (h7 rfl).elim
                · skip
                  refine lv_iload hx hb dX1_finish_127 (lv_at hl 1 rfl) ?_
                  refine lv_aload_n hx hb dX1_finish_129 rfl (lv_at hl 4 rfl) ?_
                  refine va_get (D := D) (ci := 1) (v := .int (nI n)) (C := RX1) (T := TX1) (N := 7) hx hb hts (fun w h => wm (ui_X1 w h)) hown hK hP 0 rfl rfl 1 (by decide) (hts (.fieldLink RX1 34 "LinkedIndexModel" "size" "I") (wm mb_55)) (fun _ h9 => h9) rfl dX1_finish_130 ?_
                  refine lv_icmp_ne (tgt := 140) hx hb dX1_finish_133 (by decide) (fun h8 => ?_) (fun h8 => ?_)
                  · skip
                    exact (h8 (by rw [show r = n by omega])).elim
                  · skip
                    refine lv_iconst (v := 1) hx hb dX1_finish_136 (by decide) ?_
                    refine lv_goto (tgt := 159) hx hb dX1_finish_137 (by decide) ?_
                    refine lv_istore (lv' := [(7, .int 1), (6, .int 0), (5, .int (nI r)), (3, .long (SK j)), (2, .int 3), (0, .ref (b 0)), (1, .int (nI j))]) hx hb dX1_finish_159 hl (by decide) rfl (fun ls hl => ?_)
                    refine lv_iload hx hb dX1_finish_161 (lv_at hl 0 rfl) ?_
                    refine lv_if_eq (tgt := 173) hx hb dX1_finish_163 (by decide) (fun h7 => ?_) (fun h7 => ?_)
                    · skip
                      first | exact absurd h7 (by decide) | exact (h7 rfl).elim
                    · skip
                      refine lv_aload_n hx hb dX1_finish_166 rfl (lv_at hl 5 rfl) ?_
                      refine lv_iconst (v := 3) hx hb dX1_finish_167 (by decide) ?_
                      refine va_put (D := D) (ci := 1) (v := .int 3) (ty := .int) (C := RX1) (T := TX1) (N := 7) hx hb hts (fun w h => wm (ui_X1 w h)) tyX1 tyX1_ok nmX1 hown hK hP hD hS 0 rfl rfl 0 (by decide) (hts (.fieldLink RX1 26 "LinkedIndexModel" "code" "I") (wm mb_47)) (fun _ h9 => h9) rfl (by decide +kernel) rfl rfl (Nat.le_of_ble_eq_true rfl) dX1_finish_168 (fun H locs hP hD hS => ?_)
                      have hP : va_P D vwCl (wM b g 3 n K V (fun i9 => upd kd j (-1) i9 + 1) SK SV) H := hP
                      have hD : va_D A (wM b g 3 n K V (fun i9 => upd kd j (-1) i9 + 1) SK SV) := hD
                      refine lv_lconst (v := 0) hx hb dX1_finish_171 (by decide) ?_
                      have hf : fin n K V kd SK SV (nI j) = (3, 0, n, K, V, upd kd j (-1)) := by
                        unfold fin
                        rw [ix_n hj, ← hr0, if_pos (okS_n hj), if_neg (show ¬ kd j = -1 by rw [ek]; decide), if_neg (show ¬ kd j = 1 by rw [ek]; decide), if_pos ek, if_neg h3]
                      rw [hf]
                      exact fn_l hx hb hr hlocks (by decide) (by decide) (fun q => absurd (show (3 : Int32) = 0 from q) (by decide)) hP hK hD hS dX1_finish_172
              · skip
                first | exact absurd h7 (by decide) | exact (h7 rfl).elim
            · skip
              have h3 : r < n := Nat.lt_of_not_le (fun q => h8 ((nI_leI (by omega) (by omega)).mpr q))
              refine lv_aload_n hx hb dX1_finish_70 rfl (lv_at hl 3 rfl) ?_
              refine va_get (D := D) (ci := 1) (v := .ref (b 1)) (C := RX1) (T := TX1) (N := 7) hx hb hts (fun w h => wm (ui_X1 w h)) hown hK hP 0 rfl rfl 2 (by decide) (hts (.fieldLink RX1 7 "LinkedIndexModel" "keys" "[J") (wm mb_56)) (fun _ h9 => h9) rfl dX1_finish_71 ?_
              refine lv_iload hx hb dX1_finish_74 (lv_at hl 0 rfl) ?_
              refine x_lald (j := r) hx hb hK hP 1 0 rfl rfl (by omega) (by decide) dX1_finish_76 ?_
              refine lv_lload_n hx hb dX1_finish_77 rfl (lv_at hl 1 rfl) ?_
              refine W.lcmp hx hb dX1_finish_78 ?_
              refine lv_if_ne (tgt := 86) hx hb dX1_finish_79 (by decide) (fun h8 => ?_) (fun h8 => ?_)
              · skip
                have h4 : ¬ atR K n (SK j) r := fun q => h8 ((lg_cmp_eq _ _).mpr q.2)
                refine lv_iconst (v := 0) hx hb dX1_finish_86 (by decide) ?_
                refine lv_istore (lv' := [(6, .int 0), (5, .int (nI r)), (3, .long (SK j)), (2, .int 3), (0, .ref (b 0)), (1, .int (nI j))]) hx hb dX1_finish_87 hl (by decide) rfl (fun ls hl => ?_)
                refine lv_iload_n hx hb dX1_finish_89 rfl (lv_at hl 3 rfl) ?_
                refine lv_iconst (v := 1) hx hb dX1_finish_90 (by decide) ?_
                refine lv_icmp_ne (tgt := 115) hx hb dX1_finish_91 (by decide) (fun h7 => ?_) (fun h7 => ?_)
                · skip
                  refine lv_aload_n hx hb dX1_finish_115 rfl (lv_at hl 4 rfl) ?_
                  refine va_get (D := D) (ci := 1) (v := .ref (b 3)) (C := RX1) (T := TX1) (N := 7) hx hb hts (fun w h => wm (ui_X1 w h)) hown hK hP 0 rfl rfl 4 (by decide) (hts (.fieldLink RX1 16 "LinkedIndexModel" "kinds" "[I") (wm mb_52)) (fun _ h9 => h9) rfl dX1_finish_116 ?_
                  refine lv_iload_n hx hb dX1_finish_119 rfl (lv_at hl 5 rfl) ?_
                  refine lv_iconst (v := 0) hx hb dX1_finish_120 (by decide) ?_
                  refine x_iast (j := j) hx hb hK hP hD hS 3 2 rfl rfl (by omega) (by decide) dX1_finish_121 (fun H locs hP hD hS => ?_)
                  have hP : va_P D vwCl (wM b g 0 n K V (upd (fun i9 => kd i9 + 1) j 0) SK SV) H := hP
                  have hD : va_D A (wM b g 0 n K V (upd (fun i9 => kd i9 + 1) j 0) SK SV) := hD
                  rw [upd_0] at hP hD
                  refine lv_iload_n hx hb dX1_finish_122 rfl (lv_at hl 3 rfl) ?_
                  refine lv_iconst (v := 3) hx hb dX1_finish_123 (by decide) ?_
                  refine lv_icmp_ne (tgt := 144) hx hb dX1_finish_124 (by decide) (fun h7 => ?_) (fun h7 => ?_)
                  · skip
                    first | exact absurd h7 (by decide) | exact (h7 rfl).elim
                  · skip
                    refine lv_iload hx hb dX1_finish_127 (lv_at hl 1 rfl) ?_
                    refine lv_aload_n hx hb dX1_finish_129 rfl (lv_at hl 4 rfl) ?_
                    refine va_get (D := D) (ci := 1) (v := .int (nI n)) (C := RX1) (T := TX1) (N := 7) hx hb hts (fun w h => wm (ui_X1 w h)) hown hK hP 0 rfl rfl 1 (by decide) (hts (.fieldLink RX1 34 "LinkedIndexModel" "size" "I") (wm mb_55)) (fun _ h9 => h9) rfl dX1_finish_130 ?_
                    refine lv_icmp_ne (tgt := 140) hx hb dX1_finish_133 (by decide) (fun h8 => ?_) (fun h8 => ?_)
                    · skip
                      refine lv_iconst (v := 0) hx hb dX1_finish_140 (by decide) ?_
                      refine lv_goto (tgt := 159) hx hb dX1_finish_141 (by decide) ?_
                      refine lv_istore (lv' := [(7, .int 0), (6, .int 0), (5, .int (nI r)), (3, .long (SK j)), (2, .int 3), (0, .ref (b 0)), (1, .int (nI j))]) hx hb dX1_finish_159 hl (by decide) rfl (fun ls hl => ?_)
                      refine lv_iload hx hb dX1_finish_161 (lv_at hl 0 rfl) ?_
                      refine lv_if_eq (tgt := 173) hx hb dX1_finish_163 (by decide) (fun h7 => ?_) (fun h7 => ?_)
                      · skip
                        refine lv_iload_n hx hb dX1_finish_173 rfl (lv_at hl 4 rfl) ?_
                        refine lv_if_ne (tgt := 187) hx hb dX1_finish_174 (by decide) (fun h7 => ?_) (fun h7 => ?_)
                        · skip
                          refine lv_iload_n hx hb dX1_finish_187 rfl (lv_at hl 4 rfl) ?_
                          refine lv_iconst (v := 1) hx hb dX1_finish_188 (by decide) ?_
                          refine lv_icmp_ne (tgt := 210) hx hb dX1_finish_189 (by decide) (fun h7 => ?_) (fun h7 => ?_)
                          · skip
                            refine lv_iload_n hx hb dX1_finish_210 rfl (lv_at hl 4 rfl) ?_
                            refine lv_iconst (v := 2) hx hb dX1_finish_211 (by decide) ?_
                            refine lv_icmp_ne (tgt := 224) hx hb dX1_finish_212 (by decide) (fun h7 => ?_) (fun h7 => ?_)
                            · skip
                              refine lv_aload_n hx hb dX1_finish_224 rfl (lv_at hl 5 rfl) ?_
                              refine va_get (D := D) (ci := 1) (v := .ref (b 1)) (C := RX1) (T := TX1) (N := 7) hx hb hts (fun w h => wm (ui_X1 w h)) hown hK hP 0 rfl rfl 2 (by decide) (hts (.fieldLink RX1 7 "LinkedIndexModel" "keys" "[J") (wm mb_56)) (fun _ h9 => h9) rfl dX1_finish_225 ?_
                              refine lv_iload hx hb dX1_finish_228 (lv_at hl 2 rfl) ?_
                              refine x_lald (j := r) hx hb hK hP 1 0 rfl rfl (by omega) (by decide) dX1_finish_230 ?_
                              have hf : fin n K V kd SK SV (nI j) = (0, K r, n, K, V, upd kd j (-1)) := by
                                unfold fin
                                rw [ix_n hj, ← hr0, if_pos (okS_n hj), if_neg (show ¬ kd j = -1 by rw [ek]; decide), if_neg (show ¬ kd j = 1 by rw [ek]; decide), if_pos ek, if_pos h3]
                              rw [hf]
                              exact fn_l hx hb hr hlocks (by decide) (by decide) (fun _ => rfl) hP hK hD hS dX1_finish_231
                            · skip
                              first | exact absurd h7 (by decide) | exact (h7 rfl).elim
                          · skip
                            first | exact absurd h7 (by decide) | exact (h7 rfl).elim
                        · skip
                          first | exact absurd h7 (by decide) | exact (h7 rfl).elim
                      · skip
                        first | exact absurd h7 (by decide) | exact (h7 rfl).elim
                    · skip
                      exact absurd ((nI_eq (by omega) (by omega)).mp h8) (by omega)
                · skip
                  first | exact absurd h7 (by decide) | exact (h7 rfl).elim
              · skip
                have h4 : atR K n (SK j) r := ⟨h3, (lg_cmp_eq _ _).mp h8⟩
                refine lv_iconst (v := 1) hx hb dX1_finish_82 (by decide) ?_
                refine lv_goto (tgt := 87) hx hb dX1_finish_83 (by decide) ?_
                refine lv_istore (lv' := [(6, .int 1), (5, .int (nI r)), (3, .long (SK j)), (2, .int 3), (0, .ref (b 0)), (1, .int (nI j))]) hx hb dX1_finish_87 hl (by decide) rfl (fun ls hl => ?_)
                refine lv_iload_n hx hb dX1_finish_89 rfl (lv_at hl 3 rfl) ?_
                refine lv_iconst (v := 1) hx hb dX1_finish_90 (by decide) ?_
                refine lv_icmp_ne (tgt := 115) hx hb dX1_finish_91 (by decide) (fun h7 => ?_) (fun h7 => ?_)
                · skip
                  refine lv_aload_n hx hb dX1_finish_115 rfl (lv_at hl 4 rfl) ?_
                  refine va_get (D := D) (ci := 1) (v := .ref (b 3)) (C := RX1) (T := TX1) (N := 7) hx hb hts (fun w h => wm (ui_X1 w h)) hown hK hP 0 rfl rfl 4 (by decide) (hts (.fieldLink RX1 16 "LinkedIndexModel" "kinds" "[I") (wm mb_52)) (fun _ h9 => h9) rfl dX1_finish_116 ?_
                  refine lv_iload_n hx hb dX1_finish_119 rfl (lv_at hl 5 rfl) ?_
                  refine lv_iconst (v := 0) hx hb dX1_finish_120 (by decide) ?_
                  refine x_iast (j := j) hx hb hK hP hD hS 3 2 rfl rfl (by omega) (by decide) dX1_finish_121 (fun H locs hP hD hS => ?_)
                  have hP : va_P D vwCl (wM b g 0 n K V (upd (fun i9 => kd i9 + 1) j 0) SK SV) H := hP
                  have hD : va_D A (wM b g 0 n K V (upd (fun i9 => kd i9 + 1) j 0) SK SV) := hD
                  rw [upd_0] at hP hD
                  refine lv_iload_n hx hb dX1_finish_122 rfl (lv_at hl 3 rfl) ?_
                  refine lv_iconst (v := 3) hx hb dX1_finish_123 (by decide) ?_
                  refine lv_icmp_ne (tgt := 144) hx hb dX1_finish_124 (by decide) (fun h7 => ?_) (fun h7 => ?_)
                  · skip
                    first | exact absurd h7 (by decide) | exact (h7 rfl).elim
                  · skip
                    refine lv_iload hx hb dX1_finish_127 (lv_at hl 1 rfl) ?_
                    refine lv_aload_n hx hb dX1_finish_129 rfl (lv_at hl 4 rfl) ?_
                    refine va_get (D := D) (ci := 1) (v := .int (nI n)) (C := RX1) (T := TX1) (N := 7) hx hb hts (fun w h => wm (ui_X1 w h)) hown hK hP 0 rfl rfl 1 (by decide) (hts (.fieldLink RX1 34 "LinkedIndexModel" "size" "I") (wm mb_55)) (fun _ h9 => h9) rfl dX1_finish_130 ?_
                    refine lv_icmp_ne (tgt := 140) hx hb dX1_finish_133 (by decide) (fun h8 => ?_) (fun h8 => ?_)
                    · skip
                      refine lv_iconst (v := 0) hx hb dX1_finish_140 (by decide) ?_
                      refine lv_goto (tgt := 159) hx hb dX1_finish_141 (by decide) ?_
                      refine lv_istore (lv' := [(7, .int 0), (6, .int 1), (5, .int (nI r)), (3, .long (SK j)), (2, .int 3), (0, .ref (b 0)), (1, .int (nI j))]) hx hb dX1_finish_159 hl (by decide) rfl (fun ls hl => ?_)
                      refine lv_iload hx hb dX1_finish_161 (lv_at hl 0 rfl) ?_
                      refine lv_if_eq (tgt := 173) hx hb dX1_finish_163 (by decide) (fun h7 => ?_) (fun h7 => ?_)
                      · skip
                        refine lv_iload_n hx hb dX1_finish_173 rfl (lv_at hl 4 rfl) ?_
                        refine lv_if_ne (tgt := 187) hx hb dX1_finish_174 (by decide) (fun h7 => ?_) (fun h7 => ?_)
                        · skip
                          refine lv_iload_n hx hb dX1_finish_187 rfl (lv_at hl 4 rfl) ?_
                          refine lv_iconst (v := 1) hx hb dX1_finish_188 (by decide) ?_
                          refine lv_icmp_ne (tgt := 210) hx hb dX1_finish_189 (by decide) (fun h7 => ?_) (fun h7 => ?_)
                          · skip
                            refine lv_iload_n hx hb dX1_finish_210 rfl (lv_at hl 4 rfl) ?_
                            refine lv_iconst (v := 2) hx hb dX1_finish_211 (by decide) ?_
                            refine lv_icmp_ne (tgt := 224) hx hb dX1_finish_212 (by decide) (fun h7 => ?_) (fun h7 => ?_)
                            · skip
                              refine lv_aload_n hx hb dX1_finish_224 rfl (lv_at hl 5 rfl) ?_
                              refine va_get (D := D) (ci := 1) (v := .ref (b 1)) (C := RX1) (T := TX1) (N := 7) hx hb hts (fun w h => wm (ui_X1 w h)) hown hK hP 0 rfl rfl 2 (by decide) (hts (.fieldLink RX1 7 "LinkedIndexModel" "keys" "[J") (wm mb_56)) (fun _ h9 => h9) rfl dX1_finish_225 ?_
                              refine lv_iload hx hb dX1_finish_228 (lv_at hl 2 rfl) ?_
                              refine x_lald (j := r) hx hb hK hP 1 0 rfl rfl (by omega) (by decide) dX1_finish_230 ?_
                              have hf : fin n K V kd SK SV (nI j) = (0, K r, n, K, V, upd kd j (-1)) := by
                                unfold fin
                                rw [ix_n hj, ← hr0, if_pos (okS_n hj), if_neg (show ¬ kd j = -1 by rw [ek]; decide), if_neg (show ¬ kd j = 1 by rw [ek]; decide), if_pos ek, if_pos h3]
                              rw [hf]
                              exact fn_l hx hb hr hlocks (by decide) (by decide) (fun _ => rfl) hP hK hD hS dX1_finish_231
                            · skip
                              first | exact absurd h7 (by decide) | exact (h7 rfl).elim
                          · skip
                            first | exact absurd h7 (by decide) | exact (h7 rfl).elim
                        · skip
                          first | exact absurd h7 (by decide) | exact (h7 rfl).elim
                      · skip
                        first | exact absurd h7 (by decide) | exact (h7 rfl).elim
                    · skip
                      exact absurd ((nI_eq (by omega) (by omega)).mp h8) (by omega)
                · skip
                  first | exact absurd h7 (by decide) | exact (h7 rfl).elim
          · skip
            first | exact absurd h7 (by decide) | exact (h7 rfl).elim
        · skip
          first | exact absurd h7 (by decide) | exact (h7 rfl).elim
    · skip
      first | exact absurd h0 (by decide) | exact (h0 rfl).elim
  · skip
    rw [if_neg hs] at hp
    subst hp
    refine lv_if_ne (tgt := 12) hx hb dX1_finish_5 (by decide) (fun h0 => ?_) (fun h0 => ?_)
    · skip
      first | exact absurd h0 (by decide) | exact (h0 rfl).elim
    · skip
      refine lv_iconst (v := 1) hx hb dX1_finish_8 (by decide) ?_
      refine lv_goto (tgt := 26) hx hb dX1_finish_9 (by decide) ?_
      refine va_put (D := D) (ci := 1) (v := .int 1) (ty := .int) (C := RX1) (T := TX1) (N := 7) hx hb hts (fun w h => wm (ui_X1 w h)) tyX1 tyX1_ok nmX1 hown hK hP hD hS 0 rfl rfl 0 (by decide) (hts (.fieldLink RX1 26 "LinkedIndexModel" "code" "I") (wm mb_47)) (fun _ h9 => h9) rfl (by decide +kernel) rfl rfl (Nat.le_of_ble_eq_true rfl) dX1_finish_26 (fun H locs hP hD hS => ?_)
      have hP : va_P D vwCl (wM b g 1 n K V (fun i9 => kd i9 + 1) SK SV) H := hP
      have hD : va_D A (wM b g 1 n K V (fun i9 => kd i9 + 1) SK SV) := hD
      refine lv_aload_n hx hb dX1_finish_29 rfl (lv_at hl 0 rfl) ?_
      refine va_get (D := D) (ci := 1) (v := .int 1) (C := RX1) (T := TX1) (N := 7) hx hb hts (fun w h => wm (ui_X1 w h)) hown hK hP 0 rfl rfl 0 (by decide) (hts (.fieldLink RX1 26 "LinkedIndexModel" "code" "I") (wm mb_47)) (fun _ h9 => h9) rfl dX1_finish_30 ?_
      refine lv_if_le (tgt := 38) hx hb dX1_finish_33 (by decide) (fun h9 => ?_) (fun h9 => ?_)
      · skip
        first | exact absurd h9 (by decide) | exact (h9 rfl).elim
      · skip
        have hf : fin n K V kd SK SV slot = (1, 0, n, K, V, kd) := by unfold fin; rw [if_neg hs]
        rw [hf]
        refine lv_lconst (v := 0) hx hb dX1_finish_36 (by decide) ?_
        exact fn_l hx hb hr hlocks (by decide) (by decide) (fun q => absurd (show (1 : Int32) = 0 from q) (by decide)) hP hK hD hS dX1_finish_37
end
section
set_option maxHeartbeats 1000000 in
set_option maxRecDepth 100000 in
theorem c_init (l : Launch) (D : va_G) (h0 sz : Nat) : Met l yX0_init wsX0_init ({ frames := 1, cells := 5, slots := 224, locals := 12 }) (cP D [] [(h0, .inr (0, [.null, .null, .int 0, .null, .null, .null]))] [.ref h0] sz) (va_Qv (fun u : (Nat → Nat) × (Nat → ClassId) => u.1 0 = h0) (fun u t => cB D (tX u.2) (va_A [(h0, .inr (0, [.null, .null, .int 0, .null, .null, .null]))] sz) (wX u.1 u.2 0 (fun _ => 0) (fun _ => 0) (fun _ => -1) (fun _ => 0) (fun _ => 0)) t) (va_A [(h0, .inr (0, [.null, .null, .int 0, .null, .null, .null]))] sz)) 5 224 (va_A [(h0, .inr (0, [.null, .null, .int 0, .null, .null, .null]))] sz) := by
  refine mk_n (cc := cX0_init) (maxL := 2) (ret := none) (fun A => va_Qv (fun u : (Nat → Nat) × (Nat → ClassId) => u.1 0 = h0) (fun u t => cB D (tX u.2) A (wX u.1 u.2 0 (fun _ => 0) (fun _ => 0) (fun _ => -1) (fun _ => 0) (fun _ => 0)) t) A) (by decide) rfl (Nat.le_of_ble_eq_true rfl) ?_
  intro p e s m below meth c ls A hx hb hr hml hlocks hnm hown hts hP hK hD hZ hA hS hl
  have hown : s.vm.findClass RX0 = some m.cls := hown
  have hl : lv_has ls 2 [(0, .ref h0)] := hl
  have hnm : meth.name = "<init>" := hnm
  refine lv_aload_n hx hb dX0_init_0 rfl (lv_at hl 0 rfl) ?_
  refine W.objInit hx hb hown (hts (.methodLink RX0 1 objectInit) (wm mb_106)) (hts (.instanceMethod objectInit) (wm mb_107)) (hts (.code objectInit ⟨#[0xb1]⟩ 1 none) (wm mb_108)) rfl (hl.1.trans hml.symm) rfl dX0_init_1 (Nat.le_of_ble_eq_true rfl) (Nat.le_of_ble_eq_true rfl) ?_
  refine W.eq (g2 := F0 m 4 ls []) rfl ?_
  refine lv_aload_n hx hb dX0_init_4 rfl (lv_at hl 0 rfl) ?_
  refine lv_bipush (v := 100) hx hb dX0_init_5 (by decide) ?_
  refine va_newa (atype := .long) (ty := .long) (n := 100) (a0 := (100, .inr (.inl (fun _ => 0)))) (N' := 100) hx hb (hts (.arrayClass .long) (wm mb_109)) rfl hK hP hD hS hA (fun _ => rfl) (by decide) (by decide) (by decide) (by decide) (by decide) dX0_init_7 (fun q1 c1 H hK hP hD hS => ?_)
  have hK : va_K D vwCl [(c1, .long)] s := hK
  have hP : va_P D vwCl ([(h0, .inr (0, [.null, .null, .int 0, .null, .null, .null])), (q1, .inl (c1, 100, .inr (.inl (fun _ => 0))))]) H := hP
  have hD : va_D A ([(h0, .inr (0, [.null, .null, .int 0, .null, .null, .null])), (q1, .inl (c1, 100, .inr (.inl (fun _ => 0))))]) := hD
  refine va_putF (D := D) (ci := 0) (v := .ref q1) (ty := .array .long) (C := RX0) (T := TX0) (N := 6) hx hb hts (fun w h => wm (ui_X0 w h)) tyX0 tyX0_ok nmX0 hown hK hP hD hS 0 rfl rfl 0 (by decide) (hts (.fieldLink RX0 9 "LinkedIndex" "keys" "[J") (wm mb_8)) (fun _ h9 => h9) rfl hnm rfl (by decide +kernel) rfl rfl (Nat.le_of_ble_eq_true rfl) dX0_init_9 (fun H locs hP hD hS => ?_)
  have hP : va_P D vwCl ([(h0, .inr (0, [.ref q1, .null, .int 0, .null, .null, .null])), (q1, .inl (c1, 100, .inr (.inl (fun _ => 0))))]) H := hP
  have hD : va_D A ([(h0, .inr (0, [.ref q1, .null, .int 0, .null, .null, .null])), (q1, .inl (c1, 100, .inr (.inl (fun _ => 0))))]) := hD
  refine lv_aload_n hx hb dX0_init_12 rfl (lv_at hl 0 rfl) ?_
  refine lv_bipush (v := 100) hx hb dX0_init_13 (by decide) ?_
  refine va_newa (atype := .long) (ty := .long) (n := 100) (a0 := (100, .inr (.inl (fun _ => 0)))) (N' := 100) hx hb (hts (.arrayClass .long) (wm mb_109)) rfl hK hP hD hS hA (fun _ => rfl) (by decide) (by decide) (by decide) (by decide) (by decide) dX0_init_15 (fun q2 c2 H hK hP hD hS => ?_)
  have hK : va_K D vwCl [(c1, .long), (c2, .long)] s := hK
  have hP : va_P D vwCl ([(h0, .inr (0, [.ref q1, .null, .int 0, .null, .null, .null])), (q1, .inl (c1, 100, .inr (.inl (fun _ => 0)))), (q2, .inl (c2, 100, .inr (.inl (fun _ => 0))))]) H := hP
  have hD : va_D A ([(h0, .inr (0, [.ref q1, .null, .int 0, .null, .null, .null])), (q1, .inl (c1, 100, .inr (.inl (fun _ => 0)))), (q2, .inl (c2, 100, .inr (.inl (fun _ => 0))))]) := hD
  refine va_putF (D := D) (ci := 0) (v := .ref q2) (ty := .array .long) (C := RX0) (T := TX0) (N := 6) hx hb hts (fun w h => wm (ui_X0 w h)) tyX0 tyX0_ok nmX0 hown hK hP hD hS 0 rfl rfl 1 (by decide) (hts (.fieldLink RX0 13 "LinkedIndex" "values" "[J") (wm mb_9)) (fun _ h9 => h9) rfl hnm rfl (by decide +kernel) rfl rfl (Nat.le_of_ble_eq_true rfl) dX0_init_17 (fun H locs hP hD hS => ?_)
  have hP : va_P D vwCl ([(h0, .inr (0, [.ref q1, .ref q2, .int 0, .null, .null, .null])), (q1, .inl (c1, 100, .inr (.inl (fun _ => 0)))), (q2, .inl (c2, 100, .inr (.inl (fun _ => 0))))]) H := hP
  have hD : va_D A ([(h0, .inr (0, [.ref q1, .ref q2, .int 0, .null, .null, .null])), (q1, .inl (c1, 100, .inr (.inl (fun _ => 0)))), (q2, .inl (c2, 100, .inr (.inl (fun _ => 0))))]) := hD
  refine lv_aload_n hx hb dX0_init_20 rfl (lv_at hl 0 rfl) ?_
  refine lv_iconst (v := 0) hx hb dX0_init_21 (by decide) ?_
  refine va_put (D := D) (ci := 0) (v := .int 0) (ty := .int) (C := RX0) (T := TX0) (N := 6) hx hb hts (fun w h => wm (ui_X0 w h)) tyX0 tyX0_ok nmX0 hown hK hP hD hS 0 rfl rfl 2 (by decide) (hts (.fieldLink RX0 16 "LinkedIndex" "keyCount" "I") (wm mb_2)) (fun _ h9 => h9) rfl (by decide +kernel) rfl rfl (Nat.le_of_ble_eq_true rfl) dX0_init_22 (fun H locs hP hD hS => ?_)
  have hP : va_P D vwCl ([(h0, .inr (0, [.ref q1, .ref q2, .int 0, .null, .null, .null])), (q1, .inl (c1, 100, .inr (.inl (fun _ => 0)))), (q2, .inl (c2, 100, .inr (.inl (fun _ => 0))))]) H := hP
  have hD : va_D A ([(h0, .inr (0, [.ref q1, .ref q2, .int 0, .null, .null, .null])), (q1, .inl (c1, 100, .inr (.inl (fun _ => 0)))), (q2, .inl (c2, 100, .inr (.inl (fun _ => 0))))]) := hD
  refine lv_aload_n hx hb dX0_init_25 rfl (lv_at hl 0 rfl) ?_
  refine lv_bipush (v := 8) hx hb dX0_init_26 (by decide) ?_
  refine va_newa (atype := .int) (ty := .int) (n := 8) (a0 := (8, .inl (fun _ => 0))) (N' := 8) hx hb (hts (.arrayClass .int) (wm mb_110)) rfl hK hP hD hS hA (fun _ => rfl) (by decide) (by decide) (by decide) (by decide) (by decide) dX0_init_28 (fun q3 c3 H hK hP hD hS => ?_)
  have hK : va_K D vwCl [(c1, .long), (c2, .long), (c3, .int)] s := hK
  have hP : va_P D vwCl ([(h0, .inr (0, [.ref q1, .ref q2, .int 0, .null, .null, .null])), (q1, .inl (c1, 100, .inr (.inl (fun _ => 0)))), (q2, .inl (c2, 100, .inr (.inl (fun _ => 0)))), (q3, .inl (c3, 8, .inl (fun _ => 0)))]) H := hP
  have hD : va_D A ([(h0, .inr (0, [.ref q1, .ref q2, .int 0, .null, .null, .null])), (q1, .inl (c1, 100, .inr (.inl (fun _ => 0)))), (q2, .inl (c2, 100, .inr (.inl (fun _ => 0)))), (q3, .inl (c3, 8, .inl (fun _ => 0)))]) := hD
  refine va_putF (D := D) (ci := 0) (v := .ref q3) (ty := .array .int) (C := RX0) (T := TX0) (N := 6) hx hb hts (fun w h => wm (ui_X0 w h)) tyX0 tyX0_ok nmX0 hown hK hP hD hS 0 rfl rfl 3 (by decide) (hts (.fieldLink RX0 20 "LinkedIndex" "slotKinds" "[I") (wm mb_5)) (fun _ h9 => h9) rfl hnm rfl (by decide +kernel) rfl rfl (Nat.le_of_ble_eq_true rfl) dX0_init_30 (fun H locs hP hD hS => ?_)
  have hP : va_P D vwCl ([(h0, .inr (0, [.ref q1, .ref q2, .int 0, .ref q3, .null, .null])), (q1, .inl (c1, 100, .inr (.inl (fun _ => 0)))), (q2, .inl (c2, 100, .inr (.inl (fun _ => 0)))), (q3, .inl (c3, 8, .inl (fun _ => 0)))]) H := hP
  have hD : va_D A ([(h0, .inr (0, [.ref q1, .ref q2, .int 0, .ref q3, .null, .null])), (q1, .inl (c1, 100, .inr (.inl (fun _ => 0)))), (q2, .inl (c2, 100, .inr (.inl (fun _ => 0)))), (q3, .inl (c3, 8, .inl (fun _ => 0)))]) := hD
  refine lv_aload_n hx hb dX0_init_33 rfl (lv_at hl 0 rfl) ?_
  refine lv_bipush (v := 8) hx hb dX0_init_34 (by decide) ?_
  refine va_newa (atype := .long) (ty := .long) (n := 8) (a0 := (8, .inr (.inl (fun _ => 0)))) (N' := 8) hx hb (hts (.arrayClass .long) (wm mb_109)) rfl hK hP hD hS hA (fun _ => rfl) (by decide) (by decide) (by decide) (by decide) (by decide) dX0_init_36 (fun q4 c4 H hK hP hD hS => ?_)
  have hK : va_K D vwCl [(c1, .long), (c2, .long), (c3, .int), (c4, .long)] s := hK
  have hP : va_P D vwCl ([(h0, .inr (0, [.ref q1, .ref q2, .int 0, .ref q3, .null, .null])), (q1, .inl (c1, 100, .inr (.inl (fun _ => 0)))), (q2, .inl (c2, 100, .inr (.inl (fun _ => 0)))), (q3, .inl (c3, 8, .inl (fun _ => 0))), (q4, .inl (c4, 8, .inr (.inl (fun _ => 0))))]) H := hP
  have hD : va_D A ([(h0, .inr (0, [.ref q1, .ref q2, .int 0, .ref q3, .null, .null])), (q1, .inl (c1, 100, .inr (.inl (fun _ => 0)))), (q2, .inl (c2, 100, .inr (.inl (fun _ => 0)))), (q3, .inl (c3, 8, .inl (fun _ => 0))), (q4, .inl (c4, 8, .inr (.inl (fun _ => 0))))]) := hD
  refine va_putF (D := D) (ci := 0) (v := .ref q4) (ty := .array .long) (C := RX0) (T := TX0) (N := 6) hx hb hts (fun w h => wm (ui_X0 w h)) tyX0 tyX0_ok nmX0 hown hK hP hD hS 0 rfl rfl 4 (by decide) (hts (.fieldLink RX0 24 "LinkedIndex" "slotKeys" "[J") (wm mb_14)) (fun _ h9 => h9) rfl hnm rfl (by decide +kernel) rfl rfl (Nat.le_of_ble_eq_true rfl) dX0_init_38 (fun H locs hP hD hS => ?_)
  have hP : va_P D vwCl ([(h0, .inr (0, [.ref q1, .ref q2, .int 0, .ref q3, .ref q4, .null])), (q1, .inl (c1, 100, .inr (.inl (fun _ => 0)))), (q2, .inl (c2, 100, .inr (.inl (fun _ => 0)))), (q3, .inl (c3, 8, .inl (fun _ => 0))), (q4, .inl (c4, 8, .inr (.inl (fun _ => 0))))]) H := hP
  have hD : va_D A ([(h0, .inr (0, [.ref q1, .ref q2, .int 0, .ref q3, .ref q4, .null])), (q1, .inl (c1, 100, .inr (.inl (fun _ => 0)))), (q2, .inl (c2, 100, .inr (.inl (fun _ => 0)))), (q3, .inl (c3, 8, .inl (fun _ => 0))), (q4, .inl (c4, 8, .inr (.inl (fun _ => 0))))]) := hD
  refine lv_aload_n hx hb dX0_init_41 rfl (lv_at hl 0 rfl) ?_
  refine lv_bipush (v := 8) hx hb dX0_init_42 (by decide) ?_
  refine va_newa (atype := .long) (ty := .long) (n := 8) (a0 := (8, .inr (.inl (fun _ => 0)))) (N' := 8) hx hb (hts (.arrayClass .long) (wm mb_109)) rfl hK hP hD hS hA (fun _ => rfl) (by decide) (by decide) (by decide) (by decide) (by decide) dX0_init_44 (fun q5 c5 H hK hP hD hS => ?_)
  have hK : va_K D vwCl [(c1, .long), (c2, .long), (c3, .int), (c4, .long), (c5, .long)] s := hK
  have hP : va_P D vwCl ([(h0, .inr (0, [.ref q1, .ref q2, .int 0, .ref q3, .ref q4, .null])), (q1, .inl (c1, 100, .inr (.inl (fun _ => 0)))), (q2, .inl (c2, 100, .inr (.inl (fun _ => 0)))), (q3, .inl (c3, 8, .inl (fun _ => 0))), (q4, .inl (c4, 8, .inr (.inl (fun _ => 0)))), (q5, .inl (c5, 8, .inr (.inl (fun _ => 0))))]) H := hP
  have hD : va_D A ([(h0, .inr (0, [.ref q1, .ref q2, .int 0, .ref q3, .ref q4, .null])), (q1, .inl (c1, 100, .inr (.inl (fun _ => 0)))), (q2, .inl (c2, 100, .inr (.inl (fun _ => 0)))), (q3, .inl (c3, 8, .inl (fun _ => 0))), (q4, .inl (c4, 8, .inr (.inl (fun _ => 0)))), (q5, .inl (c5, 8, .inr (.inl (fun _ => 0))))]) := hD
  refine va_putF (D := D) (ci := 0) (v := .ref q5) (ty := .array .long) (C := RX0) (T := TX0) (N := 6) hx hb hts (fun w h => wm (ui_X0 w h)) tyX0 tyX0_ok nmX0 hown hK hP hD hS 0 rfl rfl 5 (by decide) (hts (.fieldLink RX0 27 "LinkedIndex" "slotValues" "[J") (wm mb_15)) (fun _ h9 => h9) rfl hnm rfl (by decide +kernel) rfl rfl (Nat.le_of_ble_eq_true rfl) dX0_init_46 (fun H locs hP hD hS => ?_)
  have hP : va_P D vwCl ([(h0, .inr (0, [.ref q1, .ref q2, .int 0, .ref q3, .ref q4, .ref q5])), (q1, .inl (c1, 100, .inr (.inl (fun _ => 0)))), (q2, .inl (c2, 100, .inr (.inl (fun _ => 0)))), (q3, .inl (c3, 8, .inl (fun _ => 0))), (q4, .inl (c4, 8, .inr (.inl (fun _ => 0)))), (q5, .inl (c5, 8, .inr (.inl (fun _ => 0))))]) H := hP
  have hD : va_D A ([(h0, .inr (0, [.ref q1, .ref q2, .int 0, .ref q3, .ref q4, .ref q5])), (q1, .inl (c1, 100, .inr (.inl (fun _ => 0)))), (q2, .inl (c2, 100, .inr (.inl (fun _ => 0)))), (q3, .inl (c3, 8, .inl (fun _ => 0))), (q4, .inl (c4, 8, .inr (.inl (fun _ => 0)))), (q5, .inl (c5, 8, .inr (.inl (fun _ => 0))))]) := hD
  refine lv_iconst (v := 0) hx hb dX0_init_49 (by decide) ?_
  refine lv_istore_n (lv' := [(1, .int 0), (0, .ref h0)]) hx hb dX0_init_50 rfl hl (by decide) rfl (fun ls hl => ?_)
  refine W.widen (k := 5) (n := 224) (by decide) (by decide) ?_
  have loop : ∀ (f i : Nat) (kc : Nat → Int32) (H : Heap) (locs : List Loc), 8 - i = f → i ≤ 8 → (∀ j, j < i → kc j = -1) → va_P D vwCl [(h0, .inr (0, [.ref q1, .ref q2, .int 0, .ref q3, .ref q4, .ref q5])), (q1, .inl (c1, 100, .inr (.inl (fun _ => 0)))), (q2, .inl (c2, 100, .inr (.inl (fun _ => 0)))), (q3, .inl (c3, 8, .inl kc)), (q4, .inl (c4, 8, .inr (.inl (fun _ => 0)))), (q5, .inl (c5, 8, .inr (.inl (fun _ => 0))))] H → va_D A [(h0, .inr (0, [.ref q1, .ref q2, .int 0, .ref q3, .ref q4, .ref q5])), (q1, .inl (c1, 100, .inr (.inl (fun _ => 0)))), (q2, .inl (c2, 100, .inr (.inl (fun _ => 0)))), (q3, .inl (c3, 8, .inl kc)), (q4, .inl (c4, 8, .inr (.inl (fun _ => 0)))), (q5, .inl (c5, 8, .inr (.inl (fun _ => 0))))] → va_S A s.heap H locs → ∀ ls : Array Slot, lv_has ls 2 [(1, .int (nI i)), (0, .ref h0)] → W p l e ({ frames := 1, cells := 5, slots := 224, locals := 12 }) s m ([.ref h0] : List Value).toArray below meth c H locs 5 224 (MQ below (va_Qv (fun u : (Nat → Nat) × (Nat → ClassId) => u.1 0 = h0) (fun u t => cB D (tX u.2) A (wX u.1 u.2 0 (fun _ => 0) (fun _ => 0) (fun _ => -1) (fun _ => 0) (fun _ => 0)) t) A) ([.ref h0] : List Value).toArray s 5 224 A) (F0 m 51 ls []) := by
    intro f
    induction f with
    | zero =>
      intro i kc H locs hf hi h8 hP hD hS ls hl
      refine lv_iload_n hx hb dX0_init_51 rfl (lv_at hl 0 rfl) ?_
      refine lv_bipush (v := 8) hx hb dX0_init_52 (by decide) ?_
      refine lv_icmp_ge (tgt := 70) hx hb dX0_init_54 (by decide) (fun h1 => ?_) (fun h1 => ?_)
      · skip
        have hP := vP_kd (q0 := 3) (g := fun _ => -1) hP rfl (fun j hj => h8 j (by omega))
        have hD := hD.set (p := 3) (e := .inl (c3, 8, .inl (fun _ => -1))) rfl
        exact W.vret hx hb hr (fun t ht hW => ⟨⟨((fun i => match i with | 0 => h0 | 1 => q1 | 2 => q2 | 3 => q3 | 4 => q4 | _ => q5), (fun i => match i with | 0 => c1 | 1 => c1 | 2 => c2 | 3 => c3 | 4 => c4 | _ => c5)), rfl, rfl, ⟨by rw [ht]; exact hP, va_K.moved hW.alike hK, hD⟩⟩, hS.F ht⟩) hS.2.2 dX0_init_70 hlocks
      · skip
        exact absurd ((nI_leI (a := 8) (by omega) (by omega)).mpr (by omega)) h1
    | succ f ih =>
      intro i kc H locs hf hi h8 hP hD hS ls hl
      refine lv_iload_n hx hb dX0_init_51 rfl (lv_at hl 0 rfl) ?_
      refine lv_bipush (v := 8) hx hb dX0_init_52 (by decide) ?_
      refine lv_icmp_ge (tgt := 70) hx hb dX0_init_54 (by decide) (fun h1 => ?_) (fun h1 => ?_)
      · skip
        exact absurd ((nI_leI (a := 8) (by omega) (by omega)).mp h1) (by omega)
      · skip
        refine lv_aload_n hx hb dX0_init_57 rfl (lv_at hl 1 rfl) ?_
        refine va_get (D := D) (ci := 0) (v := .ref q3) (C := RX0) (T := TX0) (N := 6) hx hb hts (fun w h => wm (ui_X0 w h)) hown hK hP 0 rfl rfl 3 (by decide) (hts (.fieldLink RX0 20 "LinkedIndex" "slotKinds" "[I") (wm mb_5)) (fun _ h9 => h9) rfl dX0_init_58 ?_
        refine lv_iload_n hx hb dX0_init_61 rfl (lv_at hl 0 rfl) ?_
        refine lv_iconst (v := (-1)) hx hb dX0_init_62 (by decide) ?_
        refine x_iast (j := i) hx hb hK hP hD hS 3 2 rfl rfl (by omega) (by decide) dX0_init_63 (fun H locs hP hD hS => ?_)
        have hP : va_P D vwCl ([(h0, .inr (0, [.ref q1, .ref q2, .int 0, .ref q3, .ref q4, .ref q5])), (q1, .inl (c1, 100, .inr (.inl (fun _ => 0)))), (q2, .inl (c2, 100, .inr (.inl (fun _ => 0)))), (q3, .inl (c3, 8, .inl (upd kc i (-1)))), (q4, .inl (c4, 8, .inr (.inl (fun _ => 0)))), (q5, .inl (c5, 8, .inr (.inl (fun _ => 0))))]) H := hP
        have hD : va_D A ([(h0, .inr (0, [.ref q1, .ref q2, .int 0, .ref q3, .ref q4, .ref q5])), (q1, .inl (c1, 100, .inr (.inl (fun _ => 0)))), (q2, .inl (c2, 100, .inr (.inl (fun _ => 0)))), (q3, .inl (c3, 8, .inl (upd kc i (-1)))), (q4, .inl (c4, 8, .inr (.inl (fun _ => 0)))), (q5, .inl (c5, 8, .inr (.inl (fun _ => 0))))]) := hD
        refine lv_iinc (k := 0) (v := nI (i + 1)) (lv' := [(1, .int (nI (i + 1))), (0, .ref h0)]) hx hb dX0_init_64 hl rfl (by rw [show Int32.ofInt 1 = 1 from by decide]; exact nI_1 _) (by decide) rfl (fun ls hl => ?_)
        refine lv_goto (tgt := 51) hx hb dX0_init_67 (by decide) ?_
        exact ih (i + 1) _ H locs (by omega) (by omega) (fun j hj => by unfold upd; by_cases e9 : j = i; rw [if_pos e9]; rw [if_neg e9]; exact h8 j (by omega)) hP hD hS ls hl
  exact loop 8 0 _ H locs rfl (by omega) (fun j hj => absurd hj (Nat.not_lt_zero _)) hP hD hS ls hl
set_option maxHeartbeats 1000000 in
set_option maxRecDepth 100000 in
theorem m_init (l : Launch) (D : va_G) (h0 sz : Nat) : Met l yX1_init wsX1_init ({ frames := 1, cells := 5, slots := 224, locals := 12 }) (cP D [] [(h0, .inr (1, [.int 0, .int 0, .null, .null, .null, .null, .null]))] [.ref h0] sz) (va_Qv (fun u : (Nat → Nat) × (Nat → ClassId) => u.1 0 = h0) (fun u t => cB D (tM u.2) (va_A [(h0, .inr (1, [.int 0, .int 0, .null, .null, .null, .null, .null]))] sz) (wM u.1 u.2 0 0 (fun _ => 0) (fun _ => 0) (fun _ => 0) (fun _ => 0) (fun _ => 0)) t) (va_A [(h0, .inr (1, [.int 0, .int 0, .null, .null, .null, .null, .null]))] sz)) 5 224 (va_A [(h0, .inr (1, [.int 0, .int 0, .null, .null, .null, .null, .null]))] sz) := by
  refine mk_n (cc := cX1_init) (maxL := 1) (ret := none) (fun A => va_Qv (fun u : (Nat → Nat) × (Nat → ClassId) => u.1 0 = h0) (fun u t => cB D (tM u.2) A (wM u.1 u.2 0 0 (fun _ => 0) (fun _ => 0) (fun _ => 0) (fun _ => 0) (fun _ => 0)) t) A) (by decide) rfl (Nat.le_of_ble_eq_true rfl) ?_
  intro p e s m below meth c ls A hx hb hr hml hlocks hnm hown hts hP hK hD hZ hA hS hl
  have hown : s.vm.findClass RX1 = some m.cls := hown
  have hl : lv_has ls 1 [(0, .ref h0)] := hl
  have hnm : meth.name = "<init>" := hnm
  refine lv_aload_n hx hb dX1_init_0 rfl (lv_at hl 0 rfl) ?_
  refine W.objInit hx hb hown (hts (.methodLink RX1 1 objectInit) (wm mb_111)) (hts (.instanceMethod objectInit) (wm mb_107)) (hts (.code objectInit ⟨#[0xb1]⟩ 1 none) (wm mb_108)) rfl (hl.1.trans hml.symm) rfl dX1_init_1 (Nat.le_of_ble_eq_true rfl) (Nat.le_of_ble_eq_true rfl) ?_
  refine W.eq (g2 := F0 m 4 ls []) rfl ?_
  refine lv_aload_n hx hb dX1_init_4 rfl (lv_at hl 0 rfl) ?_
  refine lv_bipush (v := 100) hx hb dX1_init_5 (by decide) ?_
  refine va_newa (atype := .long) (ty := .long) (n := 100) (a0 := (100, .inr (.inl (fun _ => 0)))) (N' := 100) hx hb (hts (.arrayClass .long) (wm mb_109)) rfl hK hP hD hS hA (fun _ => rfl) (by decide) (by decide) (by decide) (by decide) (by decide) dX1_init_7 (fun q1 c1 H hK hP hD hS => ?_)
  have hK : va_K D vwCl [(c1, .long)] s := hK
  have hP : va_P D vwCl ([(h0, .inr (1, [.int 0, .int 0, .null, .null, .null, .null, .null])), (q1, .inl (c1, 100, .inr (.inl (fun _ => 0))))]) H := hP
  have hD : va_D A ([(h0, .inr (1, [.int 0, .int 0, .null, .null, .null, .null, .null])), (q1, .inl (c1, 100, .inr (.inl (fun _ => 0))))]) := hD
  refine va_putF (D := D) (ci := 1) (v := .ref q1) (ty := .array .long) (C := RX1) (T := TX1) (N := 7) hx hb hts (fun w h => wm (ui_X1 w h)) tyX1 tyX1_ok nmX1 hown hK hP hD hS 0 rfl rfl 2 (by decide) (hts (.fieldLink RX1 7 "LinkedIndexModel" "keys" "[J") (wm mb_56)) (fun _ h9 => h9) rfl hnm rfl (by decide +kernel) rfl rfl (Nat.le_of_ble_eq_true rfl) dX1_init_9 (fun H locs hP hD hS => ?_)
  have hP : va_P D vwCl ([(h0, .inr (1, [.int 0, .int 0, .ref q1, .null, .null, .null, .null])), (q1, .inl (c1, 100, .inr (.inl (fun _ => 0))))]) H := hP
  have hD : va_D A ([(h0, .inr (1, [.int 0, .int 0, .ref q1, .null, .null, .null, .null])), (q1, .inl (c1, 100, .inr (.inl (fun _ => 0))))]) := hD
  refine lv_aload_n hx hb dX1_init_12 rfl (lv_at hl 0 rfl) ?_
  refine lv_bipush (v := 100) hx hb dX1_init_13 (by decide) ?_
  refine va_newa (atype := .long) (ty := .long) (n := 100) (a0 := (100, .inr (.inl (fun _ => 0)))) (N' := 100) hx hb (hts (.arrayClass .long) (wm mb_109)) rfl hK hP hD hS hA (fun _ => rfl) (by decide) (by decide) (by decide) (by decide) (by decide) dX1_init_15 (fun q2 c2 H hK hP hD hS => ?_)
  have hK : va_K D vwCl [(c1, .long), (c2, .long)] s := hK
  have hP : va_P D vwCl ([(h0, .inr (1, [.int 0, .int 0, .ref q1, .null, .null, .null, .null])), (q1, .inl (c1, 100, .inr (.inl (fun _ => 0)))), (q2, .inl (c2, 100, .inr (.inl (fun _ => 0))))]) H := hP
  have hD : va_D A ([(h0, .inr (1, [.int 0, .int 0, .ref q1, .null, .null, .null, .null])), (q1, .inl (c1, 100, .inr (.inl (fun _ => 0)))), (q2, .inl (c2, 100, .inr (.inl (fun _ => 0))))]) := hD
  refine va_putF (D := D) (ci := 1) (v := .ref q2) (ty := .array .long) (C := RX1) (T := TX1) (N := 7) hx hb hts (fun w h => wm (ui_X1 w h)) tyX1 tyX1_ok nmX1 hown hK hP hD hS 0 rfl rfl 3 (by decide) (hts (.fieldLink RX1 13 "LinkedIndexModel" "values" "[J") (wm mb_57)) (fun _ h9 => h9) rfl hnm rfl (by decide +kernel) rfl rfl (Nat.le_of_ble_eq_true rfl) dX1_init_17 (fun H locs hP hD hS => ?_)
  have hP : va_P D vwCl ([(h0, .inr (1, [.int 0, .int 0, .ref q1, .ref q2, .null, .null, .null])), (q1, .inl (c1, 100, .inr (.inl (fun _ => 0)))), (q2, .inl (c2, 100, .inr (.inl (fun _ => 0))))]) H := hP
  have hD : va_D A ([(h0, .inr (1, [.int 0, .int 0, .ref q1, .ref q2, .null, .null, .null])), (q1, .inl (c1, 100, .inr (.inl (fun _ => 0)))), (q2, .inl (c2, 100, .inr (.inl (fun _ => 0))))]) := hD
  refine lv_aload_n hx hb dX1_init_20 rfl (lv_at hl 0 rfl) ?_
  refine lv_bipush (v := 8) hx hb dX1_init_21 (by decide) ?_
  refine va_newa (atype := .int) (ty := .int) (n := 8) (a0 := (8, .inl (fun _ => 0))) (N' := 8) hx hb (hts (.arrayClass .int) (wm mb_110)) rfl hK hP hD hS hA (fun _ => rfl) (by decide) (by decide) (by decide) (by decide) (by decide) dX1_init_23 (fun q3 c3 H hK hP hD hS => ?_)
  have hK : va_K D vwCl [(c1, .long), (c2, .long), (c3, .int)] s := hK
  have hP : va_P D vwCl ([(h0, .inr (1, [.int 0, .int 0, .ref q1, .ref q2, .null, .null, .null])), (q1, .inl (c1, 100, .inr (.inl (fun _ => 0)))), (q2, .inl (c2, 100, .inr (.inl (fun _ => 0)))), (q3, .inl (c3, 8, .inl (fun _ => 0)))]) H := hP
  have hD : va_D A ([(h0, .inr (1, [.int 0, .int 0, .ref q1, .ref q2, .null, .null, .null])), (q1, .inl (c1, 100, .inr (.inl (fun _ => 0)))), (q2, .inl (c2, 100, .inr (.inl (fun _ => 0)))), (q3, .inl (c3, 8, .inl (fun _ => 0)))]) := hD
  refine va_putF (D := D) (ci := 1) (v := .ref q3) (ty := .array .int) (C := RX1) (T := TX1) (N := 7) hx hb hts (fun w h => wm (ui_X1 w h)) tyX1 tyX1_ok nmX1 hown hK hP hD hS 0 rfl rfl 4 (by decide) (hts (.fieldLink RX1 16 "LinkedIndexModel" "kinds" "[I") (wm mb_52)) (fun _ h9 => h9) rfl hnm rfl (by decide +kernel) rfl rfl (Nat.le_of_ble_eq_true rfl) dX1_init_25 (fun H locs hP hD hS => ?_)
  have hP : va_P D vwCl ([(h0, .inr (1, [.int 0, .int 0, .ref q1, .ref q2, .ref q3, .null, .null])), (q1, .inl (c1, 100, .inr (.inl (fun _ => 0)))), (q2, .inl (c2, 100, .inr (.inl (fun _ => 0)))), (q3, .inl (c3, 8, .inl (fun _ => 0)))]) H := hP
  have hD : va_D A ([(h0, .inr (1, [.int 0, .int 0, .ref q1, .ref q2, .ref q3, .null, .null])), (q1, .inl (c1, 100, .inr (.inl (fun _ => 0)))), (q2, .inl (c2, 100, .inr (.inl (fun _ => 0)))), (q3, .inl (c3, 8, .inl (fun _ => 0)))]) := hD
  refine lv_aload_n hx hb dX1_init_28 rfl (lv_at hl 0 rfl) ?_
  refine lv_bipush (v := 8) hx hb dX1_init_29 (by decide) ?_
  refine va_newa (atype := .long) (ty := .long) (n := 8) (a0 := (8, .inr (.inl (fun _ => 0)))) (N' := 8) hx hb (hts (.arrayClass .long) (wm mb_109)) rfl hK hP hD hS hA (fun _ => rfl) (by decide) (by decide) (by decide) (by decide) (by decide) dX1_init_31 (fun q4 c4 H hK hP hD hS => ?_)
  have hK : va_K D vwCl [(c1, .long), (c2, .long), (c3, .int), (c4, .long)] s := hK
  have hP : va_P D vwCl ([(h0, .inr (1, [.int 0, .int 0, .ref q1, .ref q2, .ref q3, .null, .null])), (q1, .inl (c1, 100, .inr (.inl (fun _ => 0)))), (q2, .inl (c2, 100, .inr (.inl (fun _ => 0)))), (q3, .inl (c3, 8, .inl (fun _ => 0))), (q4, .inl (c4, 8, .inr (.inl (fun _ => 0))))]) H := hP
  have hD : va_D A ([(h0, .inr (1, [.int 0, .int 0, .ref q1, .ref q2, .ref q3, .null, .null])), (q1, .inl (c1, 100, .inr (.inl (fun _ => 0)))), (q2, .inl (c2, 100, .inr (.inl (fun _ => 0)))), (q3, .inl (c3, 8, .inl (fun _ => 0))), (q4, .inl (c4, 8, .inr (.inl (fun _ => 0))))]) := hD
  refine va_putF (D := D) (ci := 1) (v := .ref q4) (ty := .array .long) (C := RX1) (T := TX1) (N := 7) hx hb hts (fun w h => wm (ui_X1 w h)) tyX1 tyX1_ok nmX1 hown hK hP hD hS 0 rfl rfl 5 (by decide) (hts (.fieldLink RX1 20 "LinkedIndexModel" "asked" "[J") (wm mb_53)) (fun _ h9 => h9) rfl hnm rfl (by decide +kernel) rfl rfl (Nat.le_of_ble_eq_true rfl) dX1_init_33 (fun H locs hP hD hS => ?_)
  have hP : va_P D vwCl ([(h0, .inr (1, [.int 0, .int 0, .ref q1, .ref q2, .ref q3, .ref q4, .null])), (q1, .inl (c1, 100, .inr (.inl (fun _ => 0)))), (q2, .inl (c2, 100, .inr (.inl (fun _ => 0)))), (q3, .inl (c3, 8, .inl (fun _ => 0))), (q4, .inl (c4, 8, .inr (.inl (fun _ => 0))))]) H := hP
  have hD : va_D A ([(h0, .inr (1, [.int 0, .int 0, .ref q1, .ref q2, .ref q3, .ref q4, .null])), (q1, .inl (c1, 100, .inr (.inl (fun _ => 0)))), (q2, .inl (c2, 100, .inr (.inl (fun _ => 0)))), (q3, .inl (c3, 8, .inl (fun _ => 0))), (q4, .inl (c4, 8, .inr (.inl (fun _ => 0))))]) := hD
  refine lv_aload_n hx hb dX1_init_36 rfl (lv_at hl 0 rfl) ?_
  refine lv_bipush (v := 8) hx hb dX1_init_37 (by decide) ?_
  refine va_newa (atype := .long) (ty := .long) (n := 8) (a0 := (8, .inr (.inl (fun _ => 0)))) (N' := 8) hx hb (hts (.arrayClass .long) (wm mb_109)) rfl hK hP hD hS hA (fun _ => rfl) (by decide) (by decide) (by decide) (by decide) (by decide) dX1_init_39 (fun q5 c5 H hK hP hD hS => ?_)
  have hK : va_K D vwCl [(c1, .long), (c2, .long), (c3, .int), (c4, .long), (c5, .long)] s := hK
  have hP : va_P D vwCl ([(h0, .inr (1, [.int 0, .int 0, .ref q1, .ref q2, .ref q3, .ref q4, .null])), (q1, .inl (c1, 100, .inr (.inl (fun _ => 0)))), (q2, .inl (c2, 100, .inr (.inl (fun _ => 0)))), (q3, .inl (c3, 8, .inl (fun _ => 0))), (q4, .inl (c4, 8, .inr (.inl (fun _ => 0)))), (q5, .inl (c5, 8, .inr (.inl (fun _ => 0))))]) H := hP
  have hD : va_D A ([(h0, .inr (1, [.int 0, .int 0, .ref q1, .ref q2, .ref q3, .ref q4, .null])), (q1, .inl (c1, 100, .inr (.inl (fun _ => 0)))), (q2, .inl (c2, 100, .inr (.inl (fun _ => 0)))), (q3, .inl (c3, 8, .inl (fun _ => 0))), (q4, .inl (c4, 8, .inr (.inl (fun _ => 0)))), (q5, .inl (c5, 8, .inr (.inl (fun _ => 0))))]) := hD
  refine va_putF (D := D) (ci := 1) (v := .ref q5) (ty := .array .long) (C := RX1) (T := TX1) (N := 7) hx hb hts (fun w h => wm (ui_X1 w h)) tyX1 tyX1_ok nmX1 hown hK hP hD hS 0 rfl rfl 6 (by decide) (hts (.fieldLink RX1 23 "LinkedIndexModel" "given" "[J") (wm mb_54)) (fun _ h9 => h9) rfl hnm rfl (by decide +kernel) rfl rfl (Nat.le_of_ble_eq_true rfl) dX1_init_41 (fun H locs hP hD hS => ?_)
  have hP : va_P D vwCl ([(h0, .inr (1, [.int 0, .int 0, .ref q1, .ref q2, .ref q3, .ref q4, .ref q5])), (q1, .inl (c1, 100, .inr (.inl (fun _ => 0)))), (q2, .inl (c2, 100, .inr (.inl (fun _ => 0)))), (q3, .inl (c3, 8, .inl (fun _ => 0))), (q4, .inl (c4, 8, .inr (.inl (fun _ => 0)))), (q5, .inl (c5, 8, .inr (.inl (fun _ => 0))))]) H := hP
  have hD : va_D A ([(h0, .inr (1, [.int 0, .int 0, .ref q1, .ref q2, .ref q3, .ref q4, .ref q5])), (q1, .inl (c1, 100, .inr (.inl (fun _ => 0)))), (q2, .inl (c2, 100, .inr (.inl (fun _ => 0)))), (q3, .inl (c3, 8, .inl (fun _ => 0))), (q4, .inl (c4, 8, .inr (.inl (fun _ => 0)))), (q5, .inl (c5, 8, .inr (.inl (fun _ => 0))))]) := hD
  refine W.widen (k := 5) (n := 224) (by decide) (by decide) ?_
  exact W.vret hx hb hr (fun t ht hW => ⟨⟨((fun i => match i with | 0 => h0 | 1 => q1 | 2 => q2 | 3 => q3 | 4 => q4 | _ => q5), (fun i => match i with | 0 => c1 | 1 => c1 | 2 => c2 | 3 => c3 | 4 => c4 | _ => c5)), rfl, rfl, ⟨by rw [ht]; exact hP, va_K.moved hW.alike hK, hD⟩⟩, hS.F ht⟩) hS.2.2 dX1_init_44 hlocks
end
section
theorem dL_begin_0 : decode cL_begin 0 = .ok (.aload_n 0, 1) := by decide +kernel
theorem dL_begin_1 : decode cL_begin 1 = .ok (.iload_n 1, 1) := by decide +kernel
theorem dL_begin_2 : decode cL_begin 2 = .ok (.iload_n 2, 1) := by decide +kernel
theorem dL_begin_3 : decode cL_begin 3 = .ok (.lload_n 3, 1) := by decide +kernel
theorem dL_begin_4 : decode cL_begin 4 = .ok (.lload 5, 2) := by decide +kernel
theorem dL_begin_6 : decode cL_begin 6 = .ok (.invokevirtual 7, 3) := by decide +kernel
theorem dL_begin_9 : decode cL_begin 9 = .ok (.goto 11, 3) := by decide +kernel
theorem dL_begin_12 : decode cL_begin 12 = .ok (.astore 7, 2) := by decide +kernel
theorem dL_begin_14 : decode cL_begin 14 = .ok (.iconst 1, 1) := by decide +kernel
theorem dL_begin_15 : decode cL_begin 15 = .ok (.ireturn, 1) := by decide +kernel
theorem dL_begin_16 : decode cL_begin 16 = .ok (.astore 7, 2) := by decide +kernel
theorem dL_begin_18 : decode cL_begin 18 = .ok (.iconst 2, 1) := by decide +kernel
theorem dL_begin_19 : decode cL_begin 19 = .ok (.ireturn, 1) := by decide +kernel
theorem dL_begin_20 : decode cL_begin 20 = .ok (.iconst 0, 1) := by decide +kernel
theorem dL_begin_21 : decode cL_begin 21 = .ok (.ireturn, 1) := by decide +kernel
theorem dL_step_0 : decode cL_step 0 = .ok (.aload_n 0, 1) := by decide +kernel
theorem dL_step_1 : decode cL_step 1 = .ok (.iload_n 1, 1) := by decide +kernel
theorem dL_step_2 : decode cL_step 2 = .ok (.iload_n 2, 1) := by decide +kernel
theorem dL_step_3 : decode cL_step 3 = .ok (.invokevirtual 17, 3) := by decide +kernel
theorem dL_step_6 : decode cL_step 6 = .ok (.goto 9, 3) := by decide +kernel
theorem dL_step_9 : decode cL_step 9 = .ok (.astore_n 3, 1) := by decide +kernel
theorem dL_step_10 : decode cL_step 10 = .ok (.iconst 1, 1) := by decide +kernel
theorem dL_step_11 : decode cL_step 11 = .ok (.ireturn, 1) := by decide +kernel
theorem dL_step_12 : decode cL_step 12 = .ok (.astore_n 3, 1) := by decide +kernel
theorem dL_step_13 : decode cL_step 13 = .ok (.iconst 2, 1) := by decide +kernel
theorem dL_step_14 : decode cL_step 14 = .ok (.ireturn, 1) := by decide +kernel
theorem dL_step_15 : decode cL_step 15 = .ok (.iconst 0, 1) := by decide +kernel
theorem dL_step_16 : decode cL_step 16 = .ok (.ireturn, 1) := by decide +kernel
theorem dL_finish_0 : decode cL_finish 0 = .ok (.aload_n 2, 1) := by decide +kernel
theorem dL_finish_1 : decode cL_finish 1 = .ok (.iconst 0, 1) := by decide +kernel
theorem dL_finish_2 : decode cL_finish 2 = .ok (.aload_n 0, 1) := by decide +kernel
theorem dL_finish_3 : decode cL_finish 3 = .ok (.iload_n 1, 1) := by decide +kernel
theorem dL_finish_4 : decode cL_finish 4 = .ok (.invokevirtual 21, 3) := by decide +kernel
theorem dL_finish_7 : decode cL_finish 7 = .ok (.lastore, 1) := by decide +kernel
theorem dL_finish_8 : decode cL_finish 8 = .ok (.goto 12, 3) := by decide +kernel
theorem dL_finish_11 : decode cL_finish 11 = .ok (.astore_n 3, 1) := by decide +kernel
theorem dL_finish_12 : decode cL_finish 12 = .ok (.iconst 1, 1) := by decide +kernel
theorem dL_finish_13 : decode cL_finish 13 = .ok (.ireturn, 1) := by decide +kernel
theorem dL_finish_14 : decode cL_finish 14 = .ok (.astore_n 3, 1) := by decide +kernel
theorem dL_finish_15 : decode cL_finish 15 = .ok (.iconst 2, 1) := by decide +kernel
theorem dL_finish_16 : decode cL_finish 16 = .ok (.ireturn, 1) := by decide +kernel
theorem dL_finish_17 : decode cL_finish 17 = .ok (.astore_n 3, 1) := by decide +kernel
theorem dL_finish_18 : decode cL_finish 18 = .ok (.iconst 3, 1) := by decide +kernel
theorem dL_finish_19 : decode cL_finish 19 = .ok (.ireturn, 1) := by decide +kernel
theorem dL_finish_20 : decode cL_finish 20 = .ok (.iconst 0, 1) := by decide +kernel
theorem dL_finish_21 : decode cL_finish 21 = .ok (.ireturn, 1) := by decide +kernel
theorem dL_drop_0 : decode cL_drop 0 = .ok (.aload_n 2, 1) := by decide +kernel
theorem dL_drop_1 : decode cL_drop 1 = .ok (.iconst 0, 1) := by decide +kernel
theorem dL_drop_2 : decode cL_drop 2 = .ok (.aload_n 0, 1) := by decide +kernel
theorem dL_drop_3 : decode cL_drop 3 = .ok (.iload_n 1, 1) := by decide +kernel
theorem dL_drop_4 : decode cL_drop 4 = .ok (.invokevirtual 27, 3) := by decide +kernel
theorem dL_drop_7 : decode cL_drop 7 = .ok (.ifCond .eq 7, 3) := by decide +kernel
theorem dL_drop_10 : decode cL_drop 10 = .ok (.lconst 1, 1) := by decide +kernel
theorem dL_drop_11 : decode cL_drop 11 = .ok (.goto 4, 3) := by decide +kernel
theorem dL_drop_14 : decode cL_drop 14 = .ok (.lconst 0, 1) := by decide +kernel
theorem dL_drop_15 : decode cL_drop 15 = .ok (.lastore, 1) := by decide +kernel
theorem dL_drop_16 : decode cL_drop 16 = .ok (.goto 6, 3) := by decide +kernel
theorem dL_drop_19 : decode cL_drop 19 = .ok (.astore_n 3, 1) := by decide +kernel
theorem dL_drop_20 : decode cL_drop 20 = .ok (.iconst 1, 1) := by decide +kernel
theorem dL_drop_21 : decode cL_drop 21 = .ok (.ireturn, 1) := by decide +kernel
theorem dL_drop_22 : decode cL_drop 22 = .ok (.iconst 0, 1) := by decide +kernel
theorem dL_drop_23 : decode cL_drop 23 = .ok (.ireturn, 1) := by decide +kernel
theorem dL_tidy_0 : decode cL_tidy 0 = .ok (.aload_n 0, 1) := by decide +kernel
theorem dL_tidy_1 : decode cL_tidy 1 = .ok (.iload_n 1, 1) := by decide +kernel
theorem dL_tidy_2 : decode cL_tidy 2 = .ok (.invokevirtual 31, 3) := by decide +kernel
theorem dL_tidy_5 : decode cL_tidy 5 = .ok (.goto 6, 3) := by decide +kernel
theorem dL_tidy_8 : decode cL_tidy 8 = .ok (.astore_n 2, 1) := by decide +kernel
theorem dL_tidy_9 : decode cL_tidy 9 = .ok (.iconst 1, 1) := by decide +kernel
theorem dL_tidy_10 : decode cL_tidy 10 = .ok (.ireturn, 1) := by decide +kernel
theorem dL_tidy_11 : decode cL_tidy 11 = .ok (.iconst 0, 1) := by decide +kernel
theorem dL_tidy_12 : decode cL_tidy 12 = .ok (.ireturn, 1) := by decide +kernel
theorem dL_kind_0 : decode cL_kind 0 = .ok (.aload_n 2, 1) := by decide +kernel
theorem dL_kind_1 : decode cL_kind 1 = .ok (.iconst 0, 1) := by decide +kernel
theorem dL_kind_2 : decode cL_kind 2 = .ok (.aload_n 0, 1) := by decide +kernel
theorem dL_kind_3 : decode cL_kind 3 = .ok (.iload_n 1, 1) := by decide +kernel
theorem dL_kind_4 : decode cL_kind 4 = .ok (.invokevirtual 35, 3) := by decide +kernel
theorem dL_kind_7 : decode cL_kind 7 = .ok (.i2l, 1) := by decide +kernel
theorem dL_kind_8 : decode cL_kind 8 = .ok (.lastore, 1) := by decide +kernel
theorem dL_kind_9 : decode cL_kind 9 = .ok (.goto 6, 3) := by decide +kernel
theorem dL_kind_12 : decode cL_kind 12 = .ok (.astore_n 3, 1) := by decide +kernel
theorem dL_kind_13 : decode cL_kind 13 = .ok (.iconst 1, 1) := by decide +kernel
theorem dL_kind_14 : decode cL_kind 14 = .ok (.ireturn, 1) := by decide +kernel
theorem dL_kind_15 : decode cL_kind 15 = .ok (.iconst 0, 1) := by decide +kernel
theorem dL_kind_16 : decode cL_kind 16 = .ok (.ireturn, 1) := by decide +kernel
theorem dL_key_0 : decode cL_key 0 = .ok (.aload_n 2, 1) := by decide +kernel
theorem dL_key_1 : decode cL_key 1 = .ok (.iconst 0, 1) := by decide +kernel
theorem dL_key_2 : decode cL_key 2 = .ok (.aload_n 0, 1) := by decide +kernel
theorem dL_key_3 : decode cL_key 3 = .ok (.iload_n 1, 1) := by decide +kernel
theorem dL_key_4 : decode cL_key 4 = .ok (.invokevirtual 39, 3) := by decide +kernel
theorem dL_key_7 : decode cL_key 7 = .ok (.lastore, 1) := by decide +kernel
theorem dL_key_8 : decode cL_key 8 = .ok (.goto 6, 3) := by decide +kernel
theorem dL_key_11 : decode cL_key 11 = .ok (.astore_n 3, 1) := by decide +kernel
theorem dL_key_12 : decode cL_key 12 = .ok (.iconst 1, 1) := by decide +kernel
theorem dL_key_13 : decode cL_key 13 = .ok (.ireturn, 1) := by decide +kernel
theorem dL_key_14 : decode cL_key 14 = .ok (.iconst 0, 1) := by decide +kernel
theorem dL_key_15 : decode cL_key 15 = .ok (.ireturn, 1) := by decide +kernel
theorem dL_value_0 : decode cL_value 0 = .ok (.aload_n 2, 1) := by decide +kernel
theorem dL_value_1 : decode cL_value 1 = .ok (.iconst 0, 1) := by decide +kernel
theorem dL_value_2 : decode cL_value 2 = .ok (.aload_n 0, 1) := by decide +kernel
theorem dL_value_3 : decode cL_value 3 = .ok (.iload_n 1, 1) := by decide +kernel
theorem dL_value_4 : decode cL_value 4 = .ok (.invokevirtual 44, 3) := by decide +kernel
theorem dL_value_7 : decode cL_value 7 = .ok (.lastore, 1) := by decide +kernel
theorem dL_value_8 : decode cL_value 8 = .ok (.goto 6, 3) := by decide +kernel
theorem dL_value_11 : decode cL_value 11 = .ok (.astore_n 3, 1) := by decide +kernel
theorem dL_value_12 : decode cL_value 12 = .ok (.iconst 1, 1) := by decide +kernel
theorem dL_value_13 : decode cL_value 13 = .ok (.ireturn, 1) := by decide +kernel
theorem dL_value_14 : decode cL_value 14 = .ok (.iconst 0, 1) := by decide +kernel
theorem dL_value_15 : decode cL_value 15 = .ok (.ireturn, 1) := by decide +kernel
end
section
set_option maxHeartbeats 1000000 in
set_option maxRecDepth 100000 in
theorem h_begin (l : Launch) (hl9 : l.stackTraces = false) (D : va_G) (a : Nat → Nat) (k : Nat → ClassId) (n : Nat) (K V : Nat → Int64) (kd : Nat → Int32) (SK SV : Nat → Int64) (slot kind : Int32) (key value : Int64) (sz : Nat)  : Met l yL_begin wsL_begin ({ frames := 9, cells := 1, slots := 6, locals := 150 }) (cP D (tX k) (wX a k n K V kd SK SV) [.ref (a 0), .int slot, .int kind, .long key, .long value] sz) (cQi D (tX k) (fun r => r = cdB slot kind kd) (wX a k n K V (kdB slot kind kd) (svB slot kind kd key SK) (svB slot kind kd value SV)) (va_A (wX a k n K V kd SK SV) sz)) 1 6 (va_A (wX a k n K V kd SK SV) sz) := by
  refine mk_h (cc := cL_begin) (maxL := 8) (ret := (some .int)) (hh := [(0, 9, 12, 13), (0, 9, 16, 15)]) (fun A => cQi D (tX k) (fun r => r = cdB slot kind kd) (wX a k n K V (kdB slot kind kd) (svB slot kind kd key SK) (svB slot kind kd value SV)) A) (by decide) rfl (Nat.le_of_ble_eq_true rfl) ?_
  intro p e s m below meth c ls A hx hb hr hml ht9 hlocks hnm hown hts hP hK hD hZ hA hS hl
  have hown : s.vm.findClass RL = some m.cls := hown
  have hl : lv_has ls 8 [(0, .ref (a 0)), (1, .int slot), (2, .int kind), (3, .long key), (5, .long value)] := hl
  refine lv_aload_n hx hb dL_begin_0 rfl (lv_at hl 0 rfl) ?_
  refine lv_iload_n hx hb dL_begin_1 rfl (lv_at hl 1 rfl) ?_
  refine lv_iload_n hx hb dL_begin_2 rfl (lv_at hl 2 rfl) ?_
  refine lv_lload_n hx hb dL_begin_3 rfl (lv_at hl 3 rfl) ?_
  refine lv_lload hx hb dL_begin_4 (lv_at hl 4 rfl) ?_
  refine kx_v (wc := (wX a k n K V kd SK SV)) (wr := []) (w1 := (wX a k n K V (upd kd (ix slot) kind) (vp_updL SK (ix slot) key) (vp_updL SV (ix slot) value))) (w2 := (wX a k n K V kd SK SV)) (vx_runV (As := [.int slot, .int kind, .long key, .long value]) (rest := []) ⟨hx, hb, hml, hown, hts⟩ (c_begin l hl9 D a k n K V kd SK SV slot kind key value s.heap.size) (cwV 4 hts (gd_up (gd_V mb_70 mb_71 mb_72 mb_12 mb_73)) rfl rfl rfl (by decide +kernel) ⟨by decide, by decide⟩) ⟨cP_blind, va_recv (q0 := 0) (ci := 0) (q := (RX0, TX0, 6)) hK hP rfl rfl, cPre hP hD hK hS hA hZ [0, 1, 2, 3, 4, 5] rfl (by decide) [0, 1, 2, 3, 4] rfl⟩ rfl rfl hl.1 rfl (lv_room (Nat.le_of_ble_eq_true rfl)) dL_begin_6 ⟨by decide, by decide⟩) hP hD hS hA [0, 1, 2, 3, 4, 5] [] rfl rfl (by decide) (by decide) (fun E ce q9 H locs hE hP hD hS hce hcv hcl => ?_) (fun H locs hp hP hD hS => ?_)
  · skip
    have hP : va_P D vwCl (wX a k n K V kd SK SV) H := hP
    have hD : va_D A (wX a k n K V kd SK SV) := hD
    rcases hE with ⟨rfl, hc⟩ | ⟨rfl, hc⟩ | ⟨rfl, hc⟩
    · skip
      refine vx_catch (own := RL) (name := "java/lang/IllegalArgumentException") (E := "java/lang/IllegalArgumentException") hown [] ⟨0, 9, 12, 13⟩ [⟨0, 9, 16, 15⟩] (by rw [ht9]; rfl) (fun z hz => nomatch hz) (by decide) (by decide) (hts (.classLink RL 13 "java/lang/IllegalArgumentException") (wm mb_74)) (va_Nw.use rfl (hZ.2.2.2.1 "java/lang/IllegalArgumentException" (by decide))) hce hcv hcl ?_
      refine lv_astore (lv' := [(7, .ref q9), (0, .ref (a 0)), (1, .int slot), (2, .int kind), (3, .long key), (5, .long value)]) hx hb dL_begin_12 hl (by decide) rfl (fun ls hl => ?_)
      refine lv_iconst (v := 1) hx hb dL_begin_14 (by decide) ?_
      rw [show kdB slot kind kd = kd by unfold kdB; rw [hc]; rfl, show svB slot kind kd key SK = SK by unfold svB; rw [hc]; rfl, show svB slot kind kd value SV = SV by unfold svB; rw [hc]; rfl]
      exact fn_i hx hb hr hlocks (by decide) (by decide) hc.symm hP hK hD hS dL_begin_15
    · skip
      refine vx_catch (own := RL) (name := "java/lang/IllegalStateException") (E := "java/lang/IllegalStateException") hown [⟨0, 9, 12, 13⟩] ⟨0, 9, 16, 15⟩ [] (by rw [ht9]; rfl) (fun z hz => by
          rcases List.mem_cons.mp hz with rfl | hz
          · exact Or.inr ⟨by decide, "java/lang/IllegalArgumentException", (hts (.classLink RL 13 "java/lang/IllegalArgumentException") (wm mb_74)), hZ.2.2.2.2.2 ("java/lang/IllegalStateException", "java/lang/IllegalArgumentException") (by decide)⟩
          cases hz) (by decide) (by decide) (hts (.classLink RL 15 "java/lang/IllegalStateException") (wm mb_75)) (va_Nw.use rfl (hZ.2.2.2.1 "java/lang/IllegalStateException" (by decide))) hce hcv hcl ?_
      refine lv_astore (lv' := [(7, .ref q9), (0, .ref (a 0)), (1, .int slot), (2, .int kind), (3, .long key), (5, .long value)]) hx hb dL_begin_16 hl (by decide) rfl (fun ls hl => ?_)
      refine lv_iconst (v := 2) hx hb dL_begin_18 (by decide) ?_
      rw [show kdB slot kind kd = kd by unfold kdB; rw [hc]; rfl, show svB slot kind kd key SK = SK by unfold svB; rw [hc]; rfl, show svB slot kind kd value SV = SV by unfold svB; rw [hc]; rfl]
      exact fn_i hx hb hr hlocks (by decide) (by decide) hc.symm hP hK hD hS dL_begin_19
    · skip
      exact absurd hc (cdB_n3 slot kind kd)
  · skip
    have hP : va_P D vwCl (wX a k n K V (upd kd (ix slot) kind) (vp_updL SK (ix slot) key) (vp_updL SV (ix slot) value)) H := hP
    have hD : va_D A (wX a k n K V (upd kd (ix slot) kind) (vp_updL SK (ix slot) key) (vp_updL SV (ix slot) value)) := hD
    refine lv_goto (tgt := 20) hx hb dL_begin_9 (by decide) ?_
    refine lv_iconst (v := 0) hx hb dL_begin_20 (by decide) ?_
    rw [show kdB slot kind kd = upd kd (ix slot) kind from if_pos hp, show svB slot kind kd key SK = vp_updL SK (ix slot) key from if_pos hp, show svB slot kind kd value SV = vp_updL SV (ix slot) value from if_pos hp]
    exact fn_i hx hb hr hlocks (by decide) (by decide) hp.symm hP hK hD hS dL_begin_21
set_option maxHeartbeats 1000000 in
set_option maxRecDepth 100000 in
theorem h_step (l : Launch) (hl9 : l.stackTraces = false) (D : va_G) (a : Nat → Nat) (k : Nat → ClassId) (n : Nat) (K V : Nat → Int64) (kd : Nat → Int32) (SK SV : Nat → Int64) (slot x : Int32) (sz : Nat)  : Met l yL_step wsL_step ({ frames := 9, cells := 1, slots := 6, locals := 150 }) (cP D (tX k) (wX a k n K V kd SK SV) [.ref (a 0), .int slot, .int x] sz) (cQi D (tX k) (fun r => r = cdT slot x kd) (wX a k n K V kd SK SV) (va_A (wX a k n K V kd SK SV) sz)) 1 6 (va_A (wX a k n K V kd SK SV) sz) := by
  refine mk_h (cc := cL_step) (maxL := 4) (ret := (some .int)) (hh := [(0, 6, 9, 13), (0, 6, 12, 15)]) (fun A => cQi D (tX k) (fun r => r = cdT slot x kd) (wX a k n K V kd SK SV) A) (by decide) rfl (Nat.le_of_ble_eq_true rfl) ?_
  intro p e s m below meth c ls A hx hb hr hml ht9 hlocks hnm hown hts hP hK hD hZ hA hS hl
  have hown : s.vm.findClass RL = some m.cls := hown
  have hl : lv_has ls 4 [(0, .ref (a 0)), (1, .int slot), (2, .int x)] := hl
  refine lv_aload_n hx hb dL_step_0 rfl (lv_at hl 0 rfl) ?_
  refine lv_iload_n hx hb dL_step_1 rfl (lv_at hl 1 rfl) ?_
  refine lv_iload_n hx hb dL_step_2 rfl (lv_at hl 2 rfl) ?_
  refine kx_v (wc := (wX a k n K V kd SK SV)) (wr := []) (w1 := (wX a k n K V kd SK SV)) (w2 := (wX a k n K V kd SK SV)) (vx_runV (As := [.int slot, .int x]) (rest := []) ⟨hx, hb, hml, hown, hts⟩ (c_step l hl9 D a k n K V kd SK SV slot x s.heap.size) (cwV 2 hts (gd_up (gd_V mb_76 mb_77 mb_78 mb_12 mb_79)) rfl rfl rfl (by decide +kernel) ⟨by decide, by decide⟩) ⟨cP_blind, va_recv (q0 := 0) (ci := 0) (q := (RX0, TX0, 6)) hK hP rfl rfl, cPre hP hD hK hS hA hZ [0, 1, 2, 3, 4, 5] rfl (by decide) [0, 1, 2, 3, 4] rfl⟩ rfl rfl hl.1 rfl (lv_room (Nat.le_of_ble_eq_true rfl)) dL_step_3 ⟨by decide, by decide⟩) hP hD hS hA [0, 1, 2, 3, 4, 5] [] rfl rfl (by decide) (by decide) (fun E ce q9 H locs hE hP hD hS hce hcv hcl => ?_) (fun H locs hp hP hD hS => ?_)
  · skip
    have hP : va_P D vwCl (wX a k n K V kd SK SV) H := hP
    have hD : va_D A (wX a k n K V kd SK SV) := hD
    rcases hE with ⟨rfl, hc⟩ | ⟨rfl, hc⟩ | ⟨rfl, hc⟩
    · skip
      refine vx_catch (own := RL) (name := "java/lang/IllegalArgumentException") (E := "java/lang/IllegalArgumentException") hown [] ⟨0, 6, 9, 13⟩ [⟨0, 6, 12, 15⟩] (by rw [ht9]; rfl) (fun z hz => nomatch hz) (by decide) (by decide) (hts (.classLink RL 13 "java/lang/IllegalArgumentException") (wm mb_74)) (va_Nw.use rfl (hZ.2.2.2.1 "java/lang/IllegalArgumentException" (by decide))) hce hcv hcl ?_
      refine lv_astore_n (lv' := [(3, .ref q9), (0, .ref (a 0)), (1, .int slot), (2, .int x)]) hx hb dL_step_9 rfl hl (by decide) rfl (fun ls hl => ?_)
      refine lv_iconst (v := 1) hx hb dL_step_10 (by decide) ?_
      exact fn_i hx hb hr hlocks (by decide) (by decide) hc.symm hP hK hD hS dL_step_11
    · skip
      refine vx_catch (own := RL) (name := "java/lang/IllegalStateException") (E := "java/lang/IllegalStateException") hown [⟨0, 6, 9, 13⟩] ⟨0, 6, 12, 15⟩ [] (by rw [ht9]; rfl) (fun z hz => by
          rcases List.mem_cons.mp hz with rfl | hz
          · exact Or.inr ⟨by decide, "java/lang/IllegalArgumentException", (hts (.classLink RL 13 "java/lang/IllegalArgumentException") (wm mb_74)), hZ.2.2.2.2.2 ("java/lang/IllegalStateException", "java/lang/IllegalArgumentException") (by decide)⟩
          cases hz) (by decide) (by decide) (hts (.classLink RL 15 "java/lang/IllegalStateException") (wm mb_75)) (va_Nw.use rfl (hZ.2.2.2.1 "java/lang/IllegalStateException" (by decide))) hce hcv hcl ?_
      refine lv_astore_n (lv' := [(3, .ref q9), (0, .ref (a 0)), (1, .int slot), (2, .int x)]) hx hb dL_step_12 rfl hl (by decide) rfl (fun ls hl => ?_)
      refine lv_iconst (v := 2) hx hb dL_step_13 (by decide) ?_
      exact fn_i hx hb hr hlocks (by decide) (by decide) hc.symm hP hK hD hS dL_step_14
    · skip
      exact absurd hc (cdT_n3 slot x kd)
  · skip
    have hP : va_P D vwCl (wX a k n K V kd SK SV) H := hP
    have hD : va_D A (wX a k n K V kd SK SV) := hD
    refine lv_goto (tgt := 15) hx hb dL_step_6 (by decide) ?_
    refine lv_iconst (v := 0) hx hb dL_step_15 (by decide) ?_
    exact fn_i hx hb hr hlocks (by decide) (by decide) hp.symm hP hK hD hS dL_step_16
set_option maxHeartbeats 1000000 in
set_option maxRecDepth 100000 in
theorem h_finish (l : Launch) (hl9 : l.stackTraces = false) (D : va_G) (a : Nat → Nat) (k : Nat → ClassId) (n : Nat) (K V : Nat → Int64) (kd : Nat → Int32) (SK SV : Nat → Int64) (slot : Int32) (q : Nat) (z : ClassId) (o : Nat → Int64) (sz : Nat) (hn : n ≤ 100) : Met l yL_finish wsL_finish ({ frames := 9, cells := 1, slots := 6, locals := 150 }) (cP D (tX k ++ tO z) (wX a k n K V kd SK SV ++ wO q z o) [.ref (a 0), .int slot, .ref q] sz) (cQi D (tX k ++ tO z) (fun r => r = (fin n K V kd SK SV slot).1) (wX a k ((fin n K V kd SK SV slot).2.2.1) ((fin n K V kd SK SV slot).2.2.2.1) ((fin n K V kd SK SV slot).2.2.2.2.1) ((fin n K V kd SK SV slot).2.2.2.2.2) SK SV ++ wO q z (oS (fin n K V kd SK SV slot).1 (fin n K V kd SK SV slot).2.1 o)) (va_A (wX a k n K V kd SK SV ++ wO q z o) sz)) 1 6 (va_A (wX a k n K V kd SK SV ++ wO q z o) sz) := by
  refine mk_h (cc := cL_finish) (maxL := 4) (ret := (some .int)) (hh := [(0, 8, 11, 13), (0, 8, 14, 15), (0, 8, 17, 25)]) (fun A => cQi D (tX k ++ tO z) (fun r => r = (fin n K V kd SK SV slot).1) (wX a k ((fin n K V kd SK SV slot).2.2.1) ((fin n K V kd SK SV slot).2.2.2.1) ((fin n K V kd SK SV slot).2.2.2.2.1) ((fin n K V kd SK SV slot).2.2.2.2.2) SK SV ++ wO q z (oS (fin n K V kd SK SV slot).1 (fin n K V kd SK SV slot).2.1 o)) A) (by decide) rfl (Nat.le_of_ble_eq_true rfl) ?_
  intro p e s m below meth c ls A hx hb hr hml ht9 hlocks hnm hown hts hP hK hD hZ hA hS hl
  have hown : s.vm.findClass RL = some m.cls := hown
  have hl : lv_has ls 4 [(0, .ref (a 0)), (1, .int slot), (2, .ref q)] := hl
  refine lv_aload_n hx hb dL_finish_0 rfl (lv_at hl 2 rfl) ?_
  refine lv_iconst (v := 0) hx hb dL_finish_1 (by decide) ?_
  refine lv_aload_n hx hb dL_finish_2 rfl (lv_at hl 0 rfl) ?_
  refine lv_iload_n hx hb dL_finish_3 rfl (lv_at hl 1 rfl) ?_
  refine kx_l (wc := (wX a k n K V kd SK SV)) (wr := (wO q z o)) (w1 := (wX a k ((fin n K V kd SK SV slot).2.2.1) ((fin n K V kd SK SV slot).2.2.2.1) ((fin n K V kd SK SV slot).2.2.2.2.1) ((fin n K V kd SK SV slot).2.2.2.2.2) SK SV)) (w2 := (wX a k ((fin n K V kd SK SV slot).2.2.1) ((fin n K V kd SK SV slot).2.2.2.1) ((fin n K V kd SK SV slot).2.2.2.2.1) ((fin n K V kd SK SV slot).2.2.2.2.2) SK SV)) (vx_runV (As := [.int slot]) (rest := [.int 0, .ref q]) ⟨hx, hb, hml, hown, hts⟩ (c_finish l hl9 D a k n K V kd SK SV slot s.heap.size hn) (cwV 1 hts (gd_up (gd_V mb_80 mb_81 mb_82 mb_12 mb_83)) rfl rfl rfl (by decide +kernel) ⟨by decide, by decide⟩) ⟨cP_blind, va_recv (q0 := 0) (ci := 0) (q := (RX0, TX0, 6)) hK hP rfl rfl, cPre hP hD hK hS hA hZ [0, 1, 2, 3, 4, 5] rfl (by decide) [0, 1, 2, 3, 4] rfl⟩ rfl rfl hl.1 rfl (lv_room (Nat.le_of_ble_eq_true rfl)) dL_finish_4 ⟨by decide, by decide⟩) hP hD hS hA [0, 1, 2, 3, 4, 5] [6] rfl rfl (by decide) (by decide) (fun E ce q9 H locs hE hP hD hS hce hcv hcl => ?_) (fun r9 H locs hp hP hD hS => ?_)
  · skip
    have hP := hP.sub (ws' := wX a k ((fin n K V kd SK SV slot).2.2.1) ((fin n K V kd SK SV slot).2.2.2.1) ((fin n K V kd SK SV slot).2.2.2.2.1) ((fin n K V kd SK SV slot).2.2.2.2.2) SK SV ++ wO q z o) [1, 2, 3, 4, 5, 6, 0] rfl
    have hD := hD.sub (ws' := wX a k ((fin n K V kd SK SV slot).2.2.1) ((fin n K V kd SK SV slot).2.2.2.1) ((fin n K V kd SK SV slot).2.2.2.2.1) ((fin n K V kd SK SV slot).2.2.2.2.2) SK SV ++ wO q z o) [1, 2, 3, 4, 5, 6, 0] (by decide) rfl
    have hP : va_P D vwCl (wX a k ((fin n K V kd SK SV slot).2.2.1) ((fin n K V kd SK SV slot).2.2.2.1) ((fin n K V kd SK SV slot).2.2.2.2.1) ((fin n K V kd SK SV slot).2.2.2.2.2) SK SV ++ wO q z o) H := hP
    have hD : va_D A (wX a k ((fin n K V kd SK SV slot).2.2.1) ((fin n K V kd SK SV slot).2.2.2.1) ((fin n K V kd SK SV slot).2.2.2.2.1) ((fin n K V kd SK SV slot).2.2.2.2.2) SK SV ++ wO q z o) := hD
    rcases hE with ⟨rfl, hc⟩ | ⟨rfl, hc⟩ | ⟨rfl, hc⟩
    · skip
      refine vx_catch (own := RL) (name := "java/lang/IllegalArgumentException") (E := "java/lang/IllegalArgumentException") hown [] ⟨0, 8, 11, 13⟩ [⟨0, 8, 14, 15⟩, ⟨0, 8, 17, 25⟩] (by rw [ht9]; rfl) (fun z hz => nomatch hz) (by decide) (by decide) (hts (.classLink RL 13 "java/lang/IllegalArgumentException") (wm mb_74)) (va_Nw.use rfl (hZ.2.2.2.1 "java/lang/IllegalArgumentException" (by decide))) hce hcv hcl ?_
      refine lv_astore_n (lv' := [(3, .ref q9), (0, .ref (a 0)), (1, .int slot), (2, .ref q)]) hx hb dL_finish_11 rfl hl (by decide) rfl (fun ls hl => ?_)
      refine lv_iconst (v := 1) hx hb dL_finish_12 (by decide) ?_
      rw [oS_n (show ¬ (fin n K V kd SK SV slot).1 = 0 by rw [hc]; decide)]
      exact fn_i hx hb hr hlocks (by decide) (by decide) hc.symm hP hK hD hS dL_finish_13
    · skip
      refine vx_catch (own := RL) (name := "java/lang/IllegalStateException") (E := "java/lang/IllegalStateException") hown [⟨0, 8, 11, 13⟩] ⟨0, 8, 14, 15⟩ [⟨0, 8, 17, 25⟩] (by rw [ht9]; rfl) (fun z hz => by
          rcases List.mem_cons.mp hz with rfl | hz
          · exact Or.inr ⟨by decide, "java/lang/IllegalArgumentException", (hts (.classLink RL 13 "java/lang/IllegalArgumentException") (wm mb_74)), hZ.2.2.2.2.2 ("java/lang/IllegalStateException", "java/lang/IllegalArgumentException") (by decide)⟩
          cases hz) (by decide) (by decide) (hts (.classLink RL 15 "java/lang/IllegalStateException") (wm mb_75)) (va_Nw.use rfl (hZ.2.2.2.1 "java/lang/IllegalStateException" (by decide))) hce hcv hcl ?_
      refine lv_astore_n (lv' := [(3, .ref q9), (0, .ref (a 0)), (1, .int slot), (2, .ref q)]) hx hb dL_finish_14 rfl hl (by decide) rfl (fun ls hl => ?_)
      refine lv_iconst (v := 2) hx hb dL_finish_15 (by decide) ?_
      rw [oS_n (show ¬ (fin n K V kd SK SV slot).1 = 0 by rw [hc]; decide)]
      exact fn_i hx hb hr hlocks (by decide) (by decide) hc.symm hP hK hD hS dL_finish_16
    · skip
      refine vx_catch (own := RL) (name := "java/util/NoSuchElementException") (E := "java/util/NoSuchElementException") hown [⟨0, 8, 11, 13⟩, ⟨0, 8, 14, 15⟩] ⟨0, 8, 17, 25⟩ [] (by rw [ht9]; rfl) (fun z hz => by
          rcases List.mem_cons.mp hz with rfl | hz
          · exact Or.inr ⟨by decide, "java/lang/IllegalArgumentException", (hts (.classLink RL 13 "java/lang/IllegalArgumentException") (wm mb_74)), hZ.2.2.2.2.2 ("java/util/NoSuchElementException", "java/lang/IllegalArgumentException") (by decide)⟩
          rcases List.mem_cons.mp hz with rfl | hz
          · exact Or.inr ⟨by decide, "java/lang/IllegalStateException", (hts (.classLink RL 15 "java/lang/IllegalStateException") (wm mb_75)), hZ.2.2.2.2.2 ("java/util/NoSuchElementException", "java/lang/IllegalStateException") (by decide)⟩
          cases hz) (by decide) (by decide) (hts (.classLink RL 25 "java/util/NoSuchElementException") (wm mb_84)) (va_Nw.use rfl (hZ.2.2.2.1 "java/util/NoSuchElementException" (by decide))) hce hcv hcl ?_
      refine lv_astore_n (lv' := [(3, .ref q9), (0, .ref (a 0)), (1, .int slot), (2, .ref q)]) hx hb dL_finish_17 rfl hl (by decide) rfl (fun ls hl => ?_)
      refine lv_iconst (v := 3) hx hb dL_finish_18 (by decide) ?_
      rw [oS_n (show ¬ (fin n K V kd SK SV slot).1 = 0 by rw [hc]; decide)]
      exact fn_i hx hb hr hlocks (by decide) (by decide) hc.symm hP hK hD hS dL_finish_19
  · skip
    have hP := hP.sub (ws' := wX a k ((fin n K V kd SK SV slot).2.2.1) ((fin n K V kd SK SV slot).2.2.2.1) ((fin n K V kd SK SV slot).2.2.2.2.1) ((fin n K V kd SK SV slot).2.2.2.2.2) SK SV ++ wO q z o) [1, 2, 3, 4, 5, 6, 0] rfl
    have hD := hD.sub (ws' := wX a k ((fin n K V kd SK SV slot).2.2.1) ((fin n K V kd SK SV slot).2.2.2.1) ((fin n K V kd SK SV slot).2.2.2.2.1) ((fin n K V kd SK SV slot).2.2.2.2.2) SK SV ++ wO q z o) [1, 2, 3, 4, 5, 6, 0] (by decide) rfl
    have hP : va_P D vwCl (wX a k ((fin n K V kd SK SV slot).2.2.1) ((fin n K V kd SK SV slot).2.2.2.1) ((fin n K V kd SK SV slot).2.2.2.2.1) ((fin n K V kd SK SV slot).2.2.2.2.2) SK SV ++ wO q z o) H := hP
    have hD : va_D A (wX a k ((fin n K V kd SK SV slot).2.2.1) ((fin n K V kd SK SV slot).2.2.2.1) ((fin n K V kd SK SV slot).2.2.2.2.1) ((fin n K V kd SK SV slot).2.2.2.2.2) SK SV ++ wO q z o) := hD
    obtain ⟨hc, rfl⟩ := hp
    refine W.eq (g2 := F0 m 7 ls [.long (fin n K V kd SK SV slot).2.1, .int (nI 0), .ref q]) rfl ?_
    refine x_last (j := 0) hx hb hK hP hD hS 6 5 rfl rfl (by decide) (by decide) dL_finish_7 (fun H locs hP hD hS => ?_)
    have hP : va_P D vwCl (wX a k ((fin n K V kd SK SV slot).2.2.1) ((fin n K V kd SK SV slot).2.2.2.1) ((fin n K V kd SK SV slot).2.2.2.2.1) ((fin n K V kd SK SV slot).2.2.2.2.2) SK SV ++ wO q z (vp_updL o 0 ((fin n K V kd SK SV slot).2.1))) H := hP
    have hD : va_D A (wX a k ((fin n K V kd SK SV slot).2.2.1) ((fin n K V kd SK SV slot).2.2.2.1) ((fin n K V kd SK SV slot).2.2.2.2.1) ((fin n K V kd SK SV slot).2.2.2.2.2) SK SV ++ wO q z (vp_updL o 0 ((fin n K V kd SK SV slot).2.1))) := hD
    refine lv_goto (tgt := 20) hx hb dL_finish_8 (by decide) ?_
    refine lv_iconst (v := 0) hx hb dL_finish_20 (by decide) ?_
    rw [oS_0 hc]
    exact fn_i hx hb hr hlocks (by decide) (by decide) hc.symm hP hK hD hS dL_finish_21
set_option maxHeartbeats 1000000 in
set_option maxRecDepth 100000 in
theorem h_drop (l : Launch) (hl9 : l.stackTraces = false) (D : va_G) (a : Nat → Nat) (k : Nat → ClassId) (n : Nat) (K V : Nat → Int64) (kd : Nat → Int32) (SK SV : Nat → Int64) (slot : Int32) (q : Nat) (z : ClassId) (o : Nat → Int64) (sz : Nat)  : Met l yL_drop wsL_drop ({ frames := 9, cells := 1, slots := 6, locals := 150 }) (cP D (tX k ++ tO z) (wX a k n K V kd SK SV ++ wO q z o) [.ref (a 0), .int slot, .ref q] sz) (cQi D (tX k ++ tO z) (fun r => r = cdD slot) (wX a k n K V (kdD slot kd) SK SV ++ wO q z (oS (cdD slot) (if kd (ix slot) = -1 then 0 else 1) o)) (va_A (wX a k n K V kd SK SV ++ wO q z o) sz)) 1 6 (va_A (wX a k n K V kd SK SV ++ wO q z o) sz) := by
  refine mk_h (cc := cL_drop) (maxL := 4) (ret := (some .int)) (hh := [(0, 16, 19, 13)]) (fun A => cQi D (tX k ++ tO z) (fun r => r = cdD slot) (wX a k n K V (kdD slot kd) SK SV ++ wO q z (oS (cdD slot) (if kd (ix slot) = -1 then 0 else 1) o)) A) (by decide) rfl (Nat.le_of_ble_eq_true rfl) ?_
  intro p e s m below meth c ls A hx hb hr hml ht9 hlocks hnm hown hts hP hK hD hZ hA hS hl
  have hown : s.vm.findClass RL = some m.cls := hown
  have hl : lv_has ls 4 [(0, .ref (a 0)), (1, .int slot), (2, .ref q)] := hl
  refine lv_aload_n hx hb dL_drop_0 rfl (lv_at hl 2 rfl) ?_
  refine lv_iconst (v := 0) hx hb dL_drop_1 (by decide) ?_
  refine lv_aload_n hx hb dL_drop_2 rfl (lv_at hl 0 rfl) ?_
  refine lv_iload_n hx hb dL_drop_3 rfl (lv_at hl 1 rfl) ?_
  refine kx_i (wc := (wX a k n K V kd SK SV)) (wr := (wO q z o)) (w1 := (wX a k n K V (upd kd (ix slot) (-1)) SK SV)) (w2 := (wX a k n K V kd SK SV)) (vx_runV (As := [.int slot]) (rest := [.int 0, .ref q]) ⟨hx, hb, hml, hown, hts⟩ (c_drop l hl9 D a k n K V kd SK SV slot s.heap.size) (cwV 1 hts (gd_up (gd_V mb_85 mb_86 mb_87 mb_12 mb_88)) rfl rfl rfl (by decide +kernel) ⟨by decide, by decide⟩) ⟨cP_blind, va_recv (q0 := 0) (ci := 0) (q := (RX0, TX0, 6)) hK hP rfl rfl, cPre hP hD hK hS hA hZ [0, 1, 2, 3, 4, 5] rfl (by decide) [0, 1, 2, 3, 4] rfl⟩ rfl rfl hl.1 rfl (lv_room (Nat.le_of_ble_eq_true rfl)) dL_drop_4 ⟨by decide, by decide⟩) hP hD hS hA [0, 1, 2, 3, 4, 5] [6] rfl rfl (by decide) (by decide) (fun E ce q9 H locs hE hP hD hS hce hcv hcl => ?_) (fun r9 H locs hp hP hD hS => ?_)
  · skip
    have hP := hP.sub (ws' := wX a k n K V kd SK SV ++ wO q z o) [1, 2, 3, 4, 5, 6, 0] rfl
    have hD := hD.sub (ws' := wX a k n K V kd SK SV ++ wO q z o) [1, 2, 3, 4, 5, 6, 0] (by decide) rfl
    have hP : va_P D vwCl (wX a k n K V kd SK SV ++ wO q z o) H := hP
    have hD : va_D A (wX a k n K V kd SK SV ++ wO q z o) := hD
    obtain ⟨rfl, hc⟩ := hE
    refine vx_catch (own := RL) (name := "java/lang/IllegalArgumentException") (E := "java/lang/IllegalArgumentException") hown [] ⟨0, 16, 19, 13⟩ [] (by rw [ht9]; rfl) (fun z hz => nomatch hz) (by decide) (by decide) (hts (.classLink RL 13 "java/lang/IllegalArgumentException") (wm mb_74)) (va_Nw.use rfl (hZ.2.2.2.1 "java/lang/IllegalArgumentException" (by decide))) hce hcv hcl ?_
    refine lv_astore_n (lv' := [(3, .ref q9), (0, .ref (a 0)), (1, .int slot), (2, .ref q)]) hx hb dL_drop_19 rfl hl (by decide) rfl (fun ls hl => ?_)
    refine lv_iconst (v := 1) hx hb dL_drop_20 (by decide) ?_
    rw [oS_n (show ¬ cdD slot = 0 by rw [show cdD slot = 1 from if_neg hc]; decide), show kdD slot kd = kd from if_neg hc]
    exact fn_i hx hb hr hlocks (by decide) (by decide) (show (1 : Int32) = cdD slot from (if_neg hc).symm) hP hK hD hS dL_drop_21
  · skip
    have hP := hP.sub (ws' := wX a k n K V (upd kd (ix slot) (-1)) SK SV ++ wO q z o) [1, 2, 3, 4, 5, 6, 0] rfl
    have hD := hD.sub (ws' := wX a k n K V (upd kd (ix slot) (-1)) SK SV ++ wO q z o) [1, 2, 3, 4, 5, 6, 0] (by decide) rfl
    have hP : va_P D vwCl (wX a k n K V (upd kd (ix slot) (-1)) SK SV ++ wO q z o) H := hP
    have hD : va_D A (wX a k n K V (upd kd (ix slot) (-1)) SK SV ++ wO q z o) := hD
    obtain ⟨hc, hp⟩ := hp
    rw [oS_0 (show cdD slot = 0 from if_pos hc), show kdD slot kd = upd kd (ix slot) (-1) from if_pos hc]
    by_cases h4 : kd (ix slot) = -1
    · skip
      rw [if_pos h4] at hp ⊢
      subst hp
      refine lv_if_eq (tgt := 14) hx hb dL_drop_7 (by decide) (fun h5 => ?_) (fun h5 => ?_)
      · skip
        refine lv_lconst (v := 0) hx hb dL_drop_14 (by decide) ?_
        refine W.eq (g2 := F0 m 15 ls [.long 0, .int (nI 0), .ref q]) rfl ?_
        refine x_last (j := 0) hx hb hK hP hD hS 6 5 rfl rfl (by decide) (by decide) dL_drop_15 (fun H locs hP hD hS => ?_)
        have hP : va_P D vwCl (wX a k n K V (upd kd (ix slot) (-1)) SK SV ++ wO q z (vp_updL o 0 0)) H := hP
        have hD : va_D A (wX a k n K V (upd kd (ix slot) (-1)) SK SV ++ wO q z (vp_updL o 0 0)) := hD
        refine lv_goto (tgt := 22) hx hb dL_drop_16 (by decide) ?_
        refine lv_iconst (v := 0) hx hb dL_drop_22 (by decide) ?_
        exact fn_i hx hb hr hlocks (by decide) (by decide) (show (0 : Int32) = cdD slot from (if_pos hc).symm) hP hK hD hS dL_drop_23
      · skip
        first | exact absurd h5 (by decide) | exact (h5 rfl).elim
    · skip
      rw [if_neg h4] at hp ⊢
      subst hp
      refine lv_if_eq (tgt := 14) hx hb dL_drop_7 (by decide) (fun h5 => ?_) (fun h5 => ?_)
      · skip
        first | exact absurd h5 (by decide) | exact (h5 rfl).elim
      · skip
        refine lv_lconst (v := 1) hx hb dL_drop_10 (by decide) ?_
        refine lv_goto (tgt := 15) hx hb dL_drop_11 (by decide) ?_
        refine W.eq (g2 := F0 m 15 ls [.long 1, .int (nI 0), .ref q]) rfl ?_
        refine x_last (j := 0) hx hb hK hP hD hS 6 5 rfl rfl (by decide) (by decide) dL_drop_15 (fun H locs hP hD hS => ?_)
        have hP : va_P D vwCl (wX a k n K V (upd kd (ix slot) (-1)) SK SV ++ wO q z (vp_updL o 0 1)) H := hP
        have hD : va_D A (wX a k n K V (upd kd (ix slot) (-1)) SK SV ++ wO q z (vp_updL o 0 1)) := hD
        refine lv_goto (tgt := 22) hx hb dL_drop_16 (by decide) ?_
        refine lv_iconst (v := 0) hx hb dL_drop_22 (by decide) ?_
        exact fn_i hx hb hr hlocks (by decide) (by decide) (show (0 : Int32) = cdD slot from (if_pos hc).symm) hP hK hD hS dL_drop_23
set_option maxHeartbeats 1000000 in
set_option maxRecDepth 100000 in
theorem h_tidy (l : Launch) (hl9 : l.stackTraces = false) (D : va_G) (a : Nat → Nat) (k : Nat → ClassId) (n : Nat) (K V : Nat → Int64) (kd : Nat → Int32) (SK SV : Nat → Int64) (x : Int32) (sz : Nat)  : Met l yL_tidy wsL_tidy ({ frames := 9, cells := 1, slots := 6, locals := 150 }) (cP D (tX k) (wX a k n K V kd SK SV) [.ref (a 0), .int x] sz) (cQi D (tX k) (fun r => r = cdY x) (wX a k n K V kd SK SV) (va_A (wX a k n K V kd SK SV) sz)) 1 6 (va_A (wX a k n K V kd SK SV) sz) := by
  refine mk_h (cc := cL_tidy) (maxL := 3) (ret := (some .int)) (hh := [(0, 5, 8, 13)]) (fun A => cQi D (tX k) (fun r => r = cdY x) (wX a k n K V kd SK SV) A) (by decide) rfl (Nat.le_of_ble_eq_true rfl) ?_
  intro p e s m below meth c ls A hx hb hr hml ht9 hlocks hnm hown hts hP hK hD hZ hA hS hl
  have hown : s.vm.findClass RL = some m.cls := hown
  have hl : lv_has ls 3 [(0, .ref (a 0)), (1, .int x)] := hl
  refine lv_aload_n hx hb dL_tidy_0 rfl (lv_at hl 0 rfl) ?_
  refine lv_iload_n hx hb dL_tidy_1 rfl (lv_at hl 1 rfl) ?_
  refine kx_v (wc := (wX a k n K V kd SK SV)) (wr := []) (w1 := (wX a k n K V kd SK SV)) (w2 := (wX a k n K V kd SK SV)) (vx_runV (As := [.int x]) (rest := []) ⟨hx, hb, hml, hown, hts⟩ (c_tidy l hl9 D a k n K V kd SK SV x s.heap.size) (cwV 1 hts (gd_up (gd_V mb_89 mb_90 mb_91 mb_12 mb_92)) rfl rfl rfl (by decide +kernel) ⟨by decide, by decide⟩) ⟨cP_blind, va_recv (q0 := 0) (ci := 0) (q := (RX0, TX0, 6)) hK hP rfl rfl, cPre hP hD hK hS hA hZ [0, 1, 2, 3, 4, 5] rfl (by decide) [0, 1, 2, 3, 4] rfl⟩ rfl rfl hl.1 rfl (lv_room (Nat.le_of_ble_eq_true rfl)) dL_tidy_2 ⟨by decide, by decide⟩) hP hD hS hA [0, 1, 2, 3, 4, 5] [] rfl rfl (by decide) (by decide) (fun E ce q9 H locs hE hP hD hS hce hcv hcl => ?_) (fun H locs hp hP hD hS => ?_)
  · skip
    have hP : va_P D vwCl (wX a k n K V kd SK SV) H := hP
    have hD : va_D A (wX a k n K V kd SK SV) := hD
    obtain ⟨rfl, hc⟩ := hE
    refine vx_catch (own := RL) (name := "java/lang/IllegalArgumentException") (E := "java/lang/IllegalArgumentException") hown [] ⟨0, 5, 8, 13⟩ [] (by rw [ht9]; rfl) (fun z hz => nomatch hz) (by decide) (by decide) (hts (.classLink RL 13 "java/lang/IllegalArgumentException") (wm mb_74)) (va_Nw.use rfl (hZ.2.2.2.1 "java/lang/IllegalArgumentException" (by decide))) hce hcv hcl ?_
    refine lv_astore_n (lv' := [(2, .ref q9), (0, .ref (a 0)), (1, .int x)]) hx hb dL_tidy_8 rfl hl (by decide) rfl (fun ls hl => ?_)
    refine lv_iconst (v := 1) hx hb dL_tidy_9 (by decide) ?_
    exact fn_i hx hb hr hlocks (by decide) (by decide) (show (1 : Int32) = cdY x from (if_neg hc).symm) hP hK hD hS dL_tidy_10
  · skip
    have hP : va_P D vwCl (wX a k n K V kd SK SV) H := hP
    have hD : va_D A (wX a k n K V kd SK SV) := hD
    refine lv_goto (tgt := 11) hx hb dL_tidy_5 (by decide) ?_
    refine lv_iconst (v := 0) hx hb dL_tidy_11 (by decide) ?_
    exact fn_i hx hb hr hlocks (by decide) (by decide) (show (0 : Int32) = cdY x from (if_pos hp).symm) hP hK hD hS dL_tidy_12
set_option maxHeartbeats 1000000 in
set_option maxRecDepth 100000 in
theorem h_kind (l : Launch) (hl9 : l.stackTraces = false) (D : va_G) (a : Nat → Nat) (k : Nat → ClassId) (n : Nat) (K V : Nat → Int64) (kd : Nat → Int32) (SK SV : Nat → Int64) (slot : Int32) (q : Nat) (z : ClassId) (o : Nat → Int64) (sz : Nat)  : Met l yL_kind wsL_kind ({ frames := 9, cells := 1, slots := 6, locals := 150 }) (cP D (tX k ++ tO z) (wX a k n K V kd SK SV ++ wO q z o) [.ref (a 0), .int slot, .ref q] sz) (cQi D (tX k ++ tO z) (fun r => r = cdD slot) (wX a k n K V kd SK SV ++ wO q z (oS (cdD slot) (kd (ix slot)).toInt64 o)) (va_A (wX a k n K V kd SK SV ++ wO q z o) sz)) 1 6 (va_A (wX a k n K V kd SK SV ++ wO q z o) sz) := by
  refine mk_h (cc := cL_kind) (maxL := 4) (ret := (some .int)) (hh := [(0, 9, 12, 13)]) (fun A => cQi D (tX k ++ tO z) (fun r => r = cdD slot) (wX a k n K V kd SK SV ++ wO q z (oS (cdD slot) (kd (ix slot)).toInt64 o)) A) (by decide) rfl (Nat.le_of_ble_eq_true rfl) ?_
  intro p e s m below meth c ls A hx hb hr hml ht9 hlocks hnm hown hts hP hK hD hZ hA hS hl
  have hown : s.vm.findClass RL = some m.cls := hown
  have hl : lv_has ls 4 [(0, .ref (a 0)), (1, .int slot), (2, .ref q)] := hl
  refine lv_aload_n hx hb dL_kind_0 rfl (lv_at hl 2 rfl) ?_
  refine lv_iconst (v := 0) hx hb dL_kind_1 (by decide) ?_
  refine lv_aload_n hx hb dL_kind_2 rfl (lv_at hl 0 rfl) ?_
  refine lv_iload_n hx hb dL_kind_3 rfl (lv_at hl 1 rfl) ?_
  refine kx_i (wc := (wX a k n K V kd SK SV)) (wr := (wO q z o)) (w1 := (wX a k n K V kd SK SV)) (w2 := (wX a k n K V kd SK SV)) (vx_runV (As := [.int slot]) (rest := [.int 0, .ref q]) ⟨hx, hb, hml, hown, hts⟩ (c_kind l hl9 D a k n K V kd SK SV slot s.heap.size) (cwV 1 hts (gd_up (gd_V mb_93 mb_94 mb_95 mb_12 mb_96)) rfl rfl rfl (by decide +kernel) ⟨by decide, by decide⟩) ⟨cP_blind, va_recv (q0 := 0) (ci := 0) (q := (RX0, TX0, 6)) hK hP rfl rfl, cPre hP hD hK hS hA hZ [0, 1, 2, 3, 4, 5] rfl (by decide) [0, 1, 2, 3, 4] rfl⟩ rfl rfl hl.1 rfl (lv_room (Nat.le_of_ble_eq_true rfl)) dL_kind_4 ⟨by decide, by decide⟩) hP hD hS hA [0, 1, 2, 3, 4, 5] [6] rfl rfl (by decide) (by decide) (fun E ce q9 H locs hE hP hD hS hce hcv hcl => ?_) (fun r9 H locs hp hP hD hS => ?_)
  · skip
    have hP := hP.sub (ws' := wX a k n K V kd SK SV ++ wO q z o) [1, 2, 3, 4, 5, 6, 0] rfl
    have hD := hD.sub (ws' := wX a k n K V kd SK SV ++ wO q z o) [1, 2, 3, 4, 5, 6, 0] (by decide) rfl
    have hP : va_P D vwCl (wX a k n K V kd SK SV ++ wO q z o) H := hP
    have hD : va_D A (wX a k n K V kd SK SV ++ wO q z o) := hD
    obtain ⟨rfl, hc⟩ := hE
    refine vx_catch (own := RL) (name := "java/lang/IllegalArgumentException") (E := "java/lang/IllegalArgumentException") hown [] ⟨0, 9, 12, 13⟩ [] (by rw [ht9]; rfl) (fun z hz => nomatch hz) (by decide) (by decide) (hts (.classLink RL 13 "java/lang/IllegalArgumentException") (wm mb_74)) (va_Nw.use rfl (hZ.2.2.2.1 "java/lang/IllegalArgumentException" (by decide))) hce hcv hcl ?_
    refine lv_astore_n (lv' := [(3, .ref q9), (0, .ref (a 0)), (1, .int slot), (2, .ref q)]) hx hb dL_kind_12 rfl hl (by decide) rfl (fun ls hl => ?_)
    refine lv_iconst (v := 1) hx hb dL_kind_13 (by decide) ?_
    rw [oS_n (show ¬ cdD slot = 0 by rw [show cdD slot = 1 from if_neg hc]; decide)]
    exact fn_i hx hb hr hlocks (by decide) (by decide) (show (1 : Int32) = cdD slot from (if_neg hc).symm) hP hK hD hS dL_kind_14
  · skip
    have hP := hP.sub (ws' := wX a k n K V kd SK SV ++ wO q z o) [1, 2, 3, 4, 5, 6, 0] rfl
    have hD := hD.sub (ws' := wX a k n K V kd SK SV ++ wO q z o) [1, 2, 3, 4, 5, 6, 0] (by decide) rfl
    have hP : va_P D vwCl (wX a k n K V kd SK SV ++ wO q z o) H := hP
    have hD : va_D A (wX a k n K V kd SK SV ++ wO q z o) := hD
    obtain ⟨hc, rfl⟩ := hp
    rw [oS_0 (show cdD slot = 0 from if_pos hc)]
    refine lv_i2l (v := (kd (ix slot)).toInt64) hx hb dL_kind_7 rfl ?_
    refine W.eq (g2 := F0 m 8 ls [.long ((kd (ix slot)).toInt64), .int (nI 0), .ref q]) rfl ?_
    refine x_last (j := 0) hx hb hK hP hD hS 6 5 rfl rfl (by decide) (by decide) dL_kind_8 (fun H locs hP hD hS => ?_)
    have hP : va_P D vwCl (wX a k n K V kd SK SV ++ wO q z (vp_updL o 0 ((kd (ix slot)).toInt64))) H := hP
    have hD : va_D A (wX a k n K V kd SK SV ++ wO q z (vp_updL o 0 ((kd (ix slot)).toInt64))) := hD
    refine lv_goto (tgt := 15) hx hb dL_kind_9 (by decide) ?_
    refine lv_iconst (v := 0) hx hb dL_kind_15 (by decide) ?_
    exact fn_i hx hb hr hlocks (by decide) (by decide) (show (0 : Int32) = cdD slot from (if_pos hc).symm) hP hK hD hS dL_kind_16
set_option maxHeartbeats 1000000 in
set_option maxRecDepth 100000 in
theorem h_key (l : Launch) (hl9 : l.stackTraces = false) (D : va_G) (a : Nat → Nat) (k : Nat → ClassId) (n : Nat) (K V : Nat → Int64) (kd : Nat → Int32) (SK SV : Nat → Int64) (x : Int32) (q : Nat) (z : ClassId) (o : Nat → Int64) (sz : Nat) (hn : n ≤ 100) : Met l yL_key wsL_key ({ frames := 9, cells := 1, slots := 6, locals := 150 }) (cP D (tX k ++ tO z) (wX a k n K V kd SK SV ++ wO q z o) [.ref (a 0), .int x, .ref q] sz) (cQi D (tX k ++ tO z) (fun r => r = cdP x n) (wX a k n K V kd SK SV ++ wO q z (oS (cdP x n) (K (ix x)) o)) (va_A (wX a k n K V kd SK SV ++ wO q z o) sz)) 1 6 (va_A (wX a k n K V kd SK SV ++ wO q z o) sz) := by
  refine mk_h (cc := cL_key) (maxL := 4) (ret := (some .int)) (hh := [(0, 8, 11, 42)]) (fun A => cQi D (tX k ++ tO z) (fun r => r = cdP x n) (wX a k n K V kd SK SV ++ wO q z (oS (cdP x n) (K (ix x)) o)) A) (by decide) rfl (Nat.le_of_ble_eq_true rfl) ?_
  intro p e s m below meth c ls A hx hb hr hml ht9 hlocks hnm hown hts hP hK hD hZ hA hS hl
  have hown : s.vm.findClass RL = some m.cls := hown
  have hl : lv_has ls 4 [(0, .ref (a 0)), (1, .int x), (2, .ref q)] := hl
  refine lv_aload_n hx hb dL_key_0 rfl (lv_at hl 2 rfl) ?_
  refine lv_iconst (v := 0) hx hb dL_key_1 (by decide) ?_
  refine lv_aload_n hx hb dL_key_2 rfl (lv_at hl 0 rfl) ?_
  refine lv_iload_n hx hb dL_key_3 rfl (lv_at hl 1 rfl) ?_
  refine kx_l (wc := (wX a k n K V kd SK SV)) (wr := (wO q z o)) (w1 := (wX a k n K V kd SK SV)) (w2 := (wX a k n K V kd SK SV)) (vx_runV (As := [.int x]) (rest := [.int 0, .ref q]) ⟨hx, hb, hml, hown, hts⟩ (c_key l hl9 D a k n K V kd SK SV x s.heap.size hn) (cwV 1 hts (gd_up (gd_V mb_97 mb_98 mb_99 mb_12 mb_100)) rfl rfl rfl (by decide +kernel) ⟨by decide, by decide⟩) ⟨cP_blind, va_recv (q0 := 0) (ci := 0) (q := (RX0, TX0, 6)) hK hP rfl rfl, cPre hP hD hK hS hA hZ [0, 1, 2, 3, 4, 5] rfl (by decide) [0, 1, 2, 3, 4] rfl⟩ rfl rfl hl.1 rfl (lv_room (Nat.le_of_ble_eq_true rfl)) dL_key_4 ⟨by decide, by decide⟩) hP hD hS hA [0, 1, 2, 3, 4, 5] [6] rfl rfl (by decide) (by decide) (fun E ce q9 H locs hE hP hD hS hce hcv hcl => ?_) (fun r9 H locs hp hP hD hS => ?_)
  · skip
    have hP := hP.sub (ws' := wX a k n K V kd SK SV ++ wO q z o) [1, 2, 3, 4, 5, 6, 0] rfl
    have hD := hD.sub (ws' := wX a k n K V kd SK SV ++ wO q z o) [1, 2, 3, 4, 5, 6, 0] (by decide) rfl
    have hP : va_P D vwCl (wX a k n K V kd SK SV ++ wO q z o) H := hP
    have hD : va_D A (wX a k n K V kd SK SV ++ wO q z o) := hD
    obtain ⟨rfl, hc⟩ := hE
    refine vx_catch (own := RL) (name := "java/lang/IndexOutOfBoundsException") (E := "java/lang/IndexOutOfBoundsException") hown [] ⟨0, 8, 11, 42⟩ [] (by rw [ht9]; rfl) (fun z hz => nomatch hz) (by decide) (by decide) (hts (.classLink RL 42 "java/lang/IndexOutOfBoundsException") (wm mb_101)) (va_Nw.use rfl (hZ.2.2.2.1 "java/lang/IndexOutOfBoundsException" (by decide))) hce hcv hcl ?_
    refine lv_astore_n (lv' := [(3, .ref q9), (0, .ref (a 0)), (1, .int x), (2, .ref q)]) hx hb dL_key_11 rfl hl (by decide) rfl (fun ls hl => ?_)
    refine lv_iconst (v := 1) hx hb dL_key_12 (by decide) ?_
    rw [oS_n (show ¬ cdP x n = 0 by rw [show cdP x n = 1 from if_neg hc]; decide)]
    exact fn_i hx hb hr hlocks (by decide) (by decide) (show (1 : Int32) = cdP x n from (if_neg hc).symm) hP hK hD hS dL_key_13
  · skip
    have hP := hP.sub (ws' := wX a k n K V kd SK SV ++ wO q z o) [1, 2, 3, 4, 5, 6, 0] rfl
    have hD := hD.sub (ws' := wX a k n K V kd SK SV ++ wO q z o) [1, 2, 3, 4, 5, 6, 0] (by decide) rfl
    have hP : va_P D vwCl (wX a k n K V kd SK SV ++ wO q z o) H := hP
    have hD : va_D A (wX a k n K V kd SK SV ++ wO q z o) := hD
    obtain ⟨hc, rfl⟩ := hp
    rw [oS_0 (show cdP x n = 0 from if_pos hc)]
    refine W.eq (g2 := F0 m 7 ls [.long (K (ix x)), .int (nI 0), .ref q]) rfl ?_
    refine x_last (j := 0) hx hb hK hP hD hS 6 5 rfl rfl (by decide) (by decide) dL_key_7 (fun H locs hP hD hS => ?_)
    have hP : va_P D vwCl (wX a k n K V kd SK SV ++ wO q z (vp_updL o 0 (K (ix x)))) H := hP
    have hD : va_D A (wX a k n K V kd SK SV ++ wO q z (vp_updL o 0 (K (ix x)))) := hD
    refine lv_goto (tgt := 14) hx hb dL_key_8 (by decide) ?_
    refine lv_iconst (v := 0) hx hb dL_key_14 (by decide) ?_
    exact fn_i hx hb hr hlocks (by decide) (by decide) (show (0 : Int32) = cdP x n from (if_pos hc).symm) hP hK hD hS dL_key_15
set_option maxHeartbeats 1000000 in
set_option maxRecDepth 100000 in
theorem h_value (l : Launch) (hl9 : l.stackTraces = false) (D : va_G) (a : Nat → Nat) (k : Nat → ClassId) (n : Nat) (K V : Nat → Int64) (kd : Nat → Int32) (SK SV : Nat → Int64) (x : Int32) (q : Nat) (z : ClassId) (o : Nat → Int64) (sz : Nat) (hn : n ≤ 100) : Met l yL_value wsL_value ({ frames := 9, cells := 1, slots := 6, locals := 150 }) (cP D (tX k ++ tO z) (wX a k n K V kd SK SV ++ wO q z o) [.ref (a 0), .int x, .ref q] sz) (cQi D (tX k ++ tO z) (fun r => r = cdP x n) (wX a k n K V kd SK SV ++ wO q z (oS (cdP x n) (V (ix x)) o)) (va_A (wX a k n K V kd SK SV ++ wO q z o) sz)) 1 6 (va_A (wX a k n K V kd SK SV ++ wO q z o) sz) := by
  refine mk_h (cc := cL_value) (maxL := 4) (ret := (some .int)) (hh := [(0, 8, 11, 42)]) (fun A => cQi D (tX k ++ tO z) (fun r => r = cdP x n) (wX a k n K V kd SK SV ++ wO q z (oS (cdP x n) (V (ix x)) o)) A) (by decide) rfl (Nat.le_of_ble_eq_true rfl) ?_
  intro p e s m below meth c ls A hx hb hr hml ht9 hlocks hnm hown hts hP hK hD hZ hA hS hl
  have hown : s.vm.findClass RL = some m.cls := hown
  have hl : lv_has ls 4 [(0, .ref (a 0)), (1, .int x), (2, .ref q)] := hl
  refine lv_aload_n hx hb dL_value_0 rfl (lv_at hl 2 rfl) ?_
  refine lv_iconst (v := 0) hx hb dL_value_1 (by decide) ?_
  refine lv_aload_n hx hb dL_value_2 rfl (lv_at hl 0 rfl) ?_
  refine lv_iload_n hx hb dL_value_3 rfl (lv_at hl 1 rfl) ?_
  refine kx_l (wc := (wX a k n K V kd SK SV)) (wr := (wO q z o)) (w1 := (wX a k n K V kd SK SV)) (w2 := (wX a k n K V kd SK SV)) (vx_runV (As := [.int x]) (rest := [.int 0, .ref q]) ⟨hx, hb, hml, hown, hts⟩ (c_value l hl9 D a k n K V kd SK SV x s.heap.size hn) (cwV 1 hts (gd_up (gd_V mb_102 mb_103 mb_104 mb_12 mb_105)) rfl rfl rfl (by decide +kernel) ⟨by decide, by decide⟩) ⟨cP_blind, va_recv (q0 := 0) (ci := 0) (q := (RX0, TX0, 6)) hK hP rfl rfl, cPre hP hD hK hS hA hZ [0, 1, 2, 3, 4, 5] rfl (by decide) [0, 1, 2, 3, 4] rfl⟩ rfl rfl hl.1 rfl (lv_room (Nat.le_of_ble_eq_true rfl)) dL_value_4 ⟨by decide, by decide⟩) hP hD hS hA [0, 1, 2, 3, 4, 5] [6] rfl rfl (by decide) (by decide) (fun E ce q9 H locs hE hP hD hS hce hcv hcl => ?_) (fun r9 H locs hp hP hD hS => ?_)
  · skip
    have hP := hP.sub (ws' := wX a k n K V kd SK SV ++ wO q z o) [1, 2, 3, 4, 5, 6, 0] rfl
    have hD := hD.sub (ws' := wX a k n K V kd SK SV ++ wO q z o) [1, 2, 3, 4, 5, 6, 0] (by decide) rfl
    have hP : va_P D vwCl (wX a k n K V kd SK SV ++ wO q z o) H := hP
    have hD : va_D A (wX a k n K V kd SK SV ++ wO q z o) := hD
    obtain ⟨rfl, hc⟩ := hE
    refine vx_catch (own := RL) (name := "java/lang/IndexOutOfBoundsException") (E := "java/lang/IndexOutOfBoundsException") hown [] ⟨0, 8, 11, 42⟩ [] (by rw [ht9]; rfl) (fun z hz => nomatch hz) (by decide) (by decide) (hts (.classLink RL 42 "java/lang/IndexOutOfBoundsException") (wm mb_101)) (va_Nw.use rfl (hZ.2.2.2.1 "java/lang/IndexOutOfBoundsException" (by decide))) hce hcv hcl ?_
    refine lv_astore_n (lv' := [(3, .ref q9), (0, .ref (a 0)), (1, .int x), (2, .ref q)]) hx hb dL_value_11 rfl hl (by decide) rfl (fun ls hl => ?_)
    refine lv_iconst (v := 1) hx hb dL_value_12 (by decide) ?_
    rw [oS_n (show ¬ cdP x n = 0 by rw [show cdP x n = 1 from if_neg hc]; decide)]
    exact fn_i hx hb hr hlocks (by decide) (by decide) (show (1 : Int32) = cdP x n from (if_neg hc).symm) hP hK hD hS dL_value_13
  · skip
    have hP := hP.sub (ws' := wX a k n K V kd SK SV ++ wO q z o) [1, 2, 3, 4, 5, 6, 0] rfl
    have hD := hD.sub (ws' := wX a k n K V kd SK SV ++ wO q z o) [1, 2, 3, 4, 5, 6, 0] (by decide) rfl
    have hP : va_P D vwCl (wX a k n K V kd SK SV ++ wO q z o) H := hP
    have hD : va_D A (wX a k n K V kd SK SV ++ wO q z o) := hD
    obtain ⟨hc, rfl⟩ := hp
    rw [oS_0 (show cdP x n = 0 from if_pos hc)]
    refine W.eq (g2 := F0 m 7 ls [.long (V (ix x)), .int (nI 0), .ref q]) rfl ?_
    refine x_last (j := 0) hx hb hK hP hD hS 6 5 rfl rfl (by decide) (by decide) dL_value_7 (fun H locs hP hD hS => ?_)
    have hP : va_P D vwCl (wX a k n K V kd SK SV ++ wO q z (vp_updL o 0 (V (ix x)))) H := hP
    have hD : va_D A (wX a k n K V kd SK SV ++ wO q z (vp_updL o 0 (V (ix x)))) := hD
    refine lv_goto (tgt := 14) hx hb dL_value_8 (by decide) ?_
    refine lv_iconst (v := 0) hx hb dL_value_14 (by decide) ?_
    exact fn_i hx hb hr hlocks (by decide) (by decide) (show (0 : Int32) = cdP x n from (if_pos hc).symm) hP hK hD hS dL_value_15
end
section
/-! THE CLAIM OUT OF ONE WALK OF THE LAW'S BODY. Your part is whole_start (and what it stands on); all else here is the same for every law, but numbers. -/
def R_law : String := "LinkedIndexLaw"
def lw_P (b : Addr) (xs : List Int32) (args : Array Value) (s : State) : Prop := args = #[.ref b] ∧ s.IntsAt b xs ∧ xs.length ≤ 3584 ∧ (Jvm.Cond.and given_1 narrow_1).before args s = true
def lw_Q (_ : Array Value) (s : State) (o : Outcome) (t : State) : Prop := o = .returned (some (.int 1)) ∧ Framed s o t [] 1045 8702
def lw_Z (below : List Frame) (a : Array Value) (s : State) : State → Prop := fun t => ∃ o, t.status = .running ∧ Ended t below o ∧ lw_Q a s o t
/-- the law's own end, with 1 on the stack, nothing written that was there before, its room as the claim has it -/
theorem lw_ret {p : Program} {l : Launch} {e : Env} {s : State} {m : MethodId} {below : List Frame} {meth : Method} {c : Code} {b : Nat} (hx : p.tables.exec = Jvm.exec) (hb : c.code = code) (hr : meth.sig.returnType = ret) (hlocks : meth.locks = false) {pc : Nat} {H : Heap} {ls : Array Slot} (hdg : decode code pc = .ok (.ireturn, 1)) : W p l e room_1 s m #[Value.ref b] below meth c H [] 1045 8702 (lw_Z below #[Value.ref b] s) (F0 m pc ls [.int 1]) := by
  intro T hT X
  obtain ⟨fs, hret, hrun, hended, hW, hframe⟩ := X.leave (v := some (.int 1)) (hlocks := hlocks) (fun h => by rw [hr] at h; cases h)
  have hmeth' : T.vm.method? m = some meth := X.method'
  refine ⟨T.setFrames fs, ?_, .returned (some (.int 1)), hrun, hended, rfl, ⟨_, rfl⟩, hW, hframe⟩
  jvm_step X.here [X.here.top, hx, hb, hdg, hmeth', hr, ret, narrow_b1]
  (try refine ⟨rfl, ?_⟩); (try refine ⟨rfl, ?_⟩)
  first | (intro acts; rw [hret _ acts rfl rfl rfl]) | rw [hret _ _ rfl rfl rfl]
  exact Steps.refl _
/-- what holds at the law's entry: the machine, the code, the tables' words (any of lw_tbl by 'hts w (by decide +kernel)'), the script of L ints xs at the cell b, what the Statement gives of the start (any of its parts by flat_of_before) -/
def lw_At (p : Program) (s : State) (m : MethodId) (meth : Method) (c : Code) (b L : Nat) (xs : Nat → Int32) : Prop :=
  p.tables.exec = Jvm.exec ∧ c.code = code ∧ meth.sig.returnType = ret ∧ c.maxLocals = 8 ∧ s.vm.findClass R_law = some m.cls ∧ (∀ w ∈ lw_tbl, w.before #[Value.ref b] s = true) ∧ va_X b L xs s s.heap ∧ b < s.heap.size ∧ meth.locks = false ∧ (Jvm.Cond.and given_1 narrow_1).before #[Value.ref b] s = true
end
section
theorem dL_law_0 : decode cL_law 0 = .ok (.new 8, 3) := by decide +kernel
theorem dL_law_3 : decode cL_law 3 = .ok (.dup, 1) := by decide +kernel
theorem dL_law_4 : decode cL_law 4 = .ok (.invokespecial 47, 3) := by decide +kernel
theorem dL_law_7 : decode cL_law 7 = .ok (.astore_n 1, 1) := by decide +kernel
theorem dL_law_8 : decode cL_law 8 = .ok (.new 48, 3) := by decide +kernel
theorem dL_law_11 : decode cL_law 11 = .ok (.dup, 1) := by decide +kernel
theorem dL_law_12 : decode cL_law 12 = .ok (.invokespecial 50, 3) := by decide +kernel
theorem dL_law_15 : decode cL_law 15 = .ok (.astore_n 2, 1) := by decide +kernel
theorem dL_law_16 : decode cL_law 16 = .ok (.iconst 1, 1) := by decide +kernel
theorem dL_law_17 : decode cL_law 17 = .ok (.newarray .long, 2) := by decide +kernel
theorem dL_law_19 : decode cL_law 19 = .ok (.astore_n 3, 1) := by decide +kernel
theorem dL_law_20 : decode cL_law 20 = .ok (.iconst 0, 1) := by decide +kernel
theorem dL_law_21 : decode cL_law 21 = .ok (.istore 4, 2) := by decide +kernel
theorem dL_law_23 : decode cL_law 23 = .ok (.iload 4, 2) := by decide +kernel
theorem dL_law_25 : decode cL_law 25 = .ok (.aload_n 0, 1) := by decide +kernel
theorem dL_law_26 : decode cL_law 26 = .ok (.arraylength, 1) := by decide +kernel
theorem dL_law_27 : decode cL_law 27 = .ok (.bipush 7, 2) := by decide +kernel
theorem dL_law_29 : decode cL_law 29 = .ok (.isub, 1) := by decide +kernel
theorem dL_law_30 : decode cL_law 30 = .ok (.if_icmp .gt 815, 3) := by decide +kernel
theorem dL_law_33 : decode cL_law 33 = .ok (.aload_n 0, 1) := by decide +kernel
theorem dL_law_34 : decode cL_law 34 = .ok (.iload 4, 2) := by decide +kernel
theorem dL_law_36 : decode cL_law 36 = .ok (.iaload, 1) := by decide +kernel
theorem dL_law_37 : decode cL_law 37 = .ok (.bipush 15, 2) := by decide +kernel
theorem dL_law_39 : decode cL_law 39 = .ok (.iand, 1) := by decide +kernel
theorem dL_law_40 : decode cL_law 40 = .ok (.tableswitch 799 0 11 #[64, 202, 250, 305, 368, 404, 417, 473, 486, 541, 596, 697], 64) := by decide +kernel
theorem dL_law_104 : decode cL_law 104 = .ok (.aload_n 1, 1) := by decide +kernel
theorem dL_law_105 : decode cL_law 105 = .ok (.aload_n 0, 1) := by decide +kernel
theorem dL_law_106 : decode cL_law 106 = .ok (.iload 4, 2) := by decide +kernel
theorem dL_law_108 : decode cL_law 108 = .ok (.iconst 1, 1) := by decide +kernel
theorem dL_law_109 : decode cL_law 109 = .ok (.iadd, 1) := by decide +kernel
theorem dL_law_110 : decode cL_law 110 = .ok (.iaload, 1) := by decide +kernel
theorem dL_law_111 : decode cL_law 111 = .ok (.aload_n 0, 1) := by decide +kernel
theorem dL_law_112 : decode cL_law 112 = .ok (.iload 4, 2) := by decide +kernel
theorem dL_law_114 : decode cL_law 114 = .ok (.iconst 2, 1) := by decide +kernel
theorem dL_law_115 : decode cL_law 115 = .ok (.iadd, 1) := by decide +kernel
theorem dL_law_116 : decode cL_law 116 = .ok (.iaload, 1) := by decide +kernel
theorem dL_law_117 : decode cL_law 117 = .ok (.aload_n 0, 1) := by decide +kernel
theorem dL_law_118 : decode cL_law 118 = .ok (.iload 4, 2) := by decide +kernel
theorem dL_law_120 : decode cL_law 120 = .ok (.iconst 3, 1) := by decide +kernel
theorem dL_law_121 : decode cL_law 121 = .ok (.iadd, 1) := by decide +kernel
theorem dL_law_122 : decode cL_law 122 = .ok (.iaload, 1) := by decide +kernel
theorem dL_law_123 : decode cL_law 123 = .ok (.i2l, 1) := by decide +kernel
theorem dL_law_124 : decode cL_law 124 = .ok (.bipush 32, 2) := by decide +kernel
theorem dL_law_126 : decode cL_law 126 = .ok (.lshl, 1) := by decide +kernel
theorem dL_law_127 : decode cL_law 127 = .ok (.aload_n 0, 1) := by decide +kernel
theorem dL_law_128 : decode cL_law 128 = .ok (.iload 4, 2) := by decide +kernel
theorem dL_law_130 : decode cL_law 130 = .ok (.iconst 4, 1) := by decide +kernel
theorem dL_law_131 : decode cL_law 131 = .ok (.iadd, 1) := by decide +kernel
theorem dL_law_132 : decode cL_law 132 = .ok (.iaload, 1) := by decide +kernel
theorem dL_law_133 : decode cL_law 133 = .ok (.i2l, 1) := by decide +kernel
theorem dL_law_134 : decode cL_law 134 = .ok (.ldc2_w 51, 3) := by decide +kernel
theorem dL_law_137 : decode cL_law 137 = .ok (.land, 1) := by decide +kernel
theorem dL_law_138 : decode cL_law 138 = .ok (.lor, 1) := by decide +kernel
theorem dL_law_139 : decode cL_law 139 = .ok (.aload_n 0, 1) := by decide +kernel
theorem dL_law_140 : decode cL_law 140 = .ok (.iload 4, 2) := by decide +kernel
theorem dL_law_142 : decode cL_law 142 = .ok (.iconst 5, 1) := by decide +kernel
theorem dL_law_143 : decode cL_law 143 = .ok (.iadd, 1) := by decide +kernel
theorem dL_law_144 : decode cL_law 144 = .ok (.iaload, 1) := by decide +kernel
theorem dL_law_145 : decode cL_law 145 = .ok (.i2l, 1) := by decide +kernel
theorem dL_law_146 : decode cL_law 146 = .ok (.bipush 32, 2) := by decide +kernel
theorem dL_law_148 : decode cL_law 148 = .ok (.lshl, 1) := by decide +kernel
theorem dL_law_149 : decode cL_law 149 = .ok (.aload_n 0, 1) := by decide +kernel
theorem dL_law_150 : decode cL_law 150 = .ok (.iload 4, 2) := by decide +kernel
theorem dL_law_152 : decode cL_law 152 = .ok (.bipush 6, 2) := by decide +kernel
theorem dL_law_154 : decode cL_law 154 = .ok (.iadd, 1) := by decide +kernel
theorem dL_law_155 : decode cL_law 155 = .ok (.iaload, 1) := by decide +kernel
theorem dL_law_156 : decode cL_law 156 = .ok (.i2l, 1) := by decide +kernel
theorem dL_law_157 : decode cL_law 157 = .ok (.ldc2_w 51, 3) := by decide +kernel
theorem dL_law_160 : decode cL_law 160 = .ok (.land, 1) := by decide +kernel
theorem dL_law_161 : decode cL_law 161 = .ok (.lor, 1) := by decide +kernel
theorem dL_law_162 : decode cL_law 162 = .ok (.invokestatic 53, 3) := by decide +kernel
theorem dL_law_165 : decode cL_law 165 = .ok (.istore 5, 2) := by decide +kernel
theorem dL_law_167 : decode cL_law 167 = .ok (.aload_n 2, 1) := by decide +kernel
theorem dL_law_168 : decode cL_law 168 = .ok (.aload_n 0, 1) := by decide +kernel
theorem dL_law_169 : decode cL_law 169 = .ok (.iload 4, 2) := by decide +kernel
theorem dL_law_171 : decode cL_law 171 = .ok (.iconst 1, 1) := by decide +kernel
theorem dL_law_172 : decode cL_law 172 = .ok (.iadd, 1) := by decide +kernel
theorem dL_law_173 : decode cL_law 173 = .ok (.iaload, 1) := by decide +kernel
theorem dL_law_174 : decode cL_law 174 = .ok (.aload_n 0, 1) := by decide +kernel
theorem dL_law_175 : decode cL_law 175 = .ok (.iload 4, 2) := by decide +kernel
theorem dL_law_177 : decode cL_law 177 = .ok (.iconst 2, 1) := by decide +kernel
theorem dL_law_178 : decode cL_law 178 = .ok (.iadd, 1) := by decide +kernel
theorem dL_law_179 : decode cL_law 179 = .ok (.iaload, 1) := by decide +kernel
theorem dL_law_180 : decode cL_law 180 = .ok (.aload_n 0, 1) := by decide +kernel
theorem dL_law_181 : decode cL_law 181 = .ok (.iload 4, 2) := by decide +kernel
theorem dL_law_183 : decode cL_law 183 = .ok (.iconst 3, 1) := by decide +kernel
theorem dL_law_184 : decode cL_law 184 = .ok (.iadd, 1) := by decide +kernel
theorem dL_law_185 : decode cL_law 185 = .ok (.iaload, 1) := by decide +kernel
theorem dL_law_186 : decode cL_law 186 = .ok (.i2l, 1) := by decide +kernel
theorem dL_law_187 : decode cL_law 187 = .ok (.bipush 32, 2) := by decide +kernel
theorem dL_law_189 : decode cL_law 189 = .ok (.lshl, 1) := by decide +kernel
theorem dL_law_190 : decode cL_law 190 = .ok (.aload_n 0, 1) := by decide +kernel
theorem dL_law_191 : decode cL_law 191 = .ok (.iload 4, 2) := by decide +kernel
theorem dL_law_193 : decode cL_law 193 = .ok (.iconst 4, 1) := by decide +kernel
theorem dL_law_194 : decode cL_law 194 = .ok (.iadd, 1) := by decide +kernel
theorem dL_law_195 : decode cL_law 195 = .ok (.iaload, 1) := by decide +kernel
theorem dL_law_196 : decode cL_law 196 = .ok (.i2l, 1) := by decide +kernel
theorem dL_law_197 : decode cL_law 197 = .ok (.ldc2_w 51, 3) := by decide +kernel
theorem dL_law_200 : decode cL_law 200 = .ok (.land, 1) := by decide +kernel
theorem dL_law_201 : decode cL_law 201 = .ok (.lor, 1) := by decide +kernel
theorem dL_law_202 : decode cL_law 202 = .ok (.aload_n 0, 1) := by decide +kernel
theorem dL_law_203 : decode cL_law 203 = .ok (.iload 4, 2) := by decide +kernel
theorem dL_law_205 : decode cL_law 205 = .ok (.iconst 5, 1) := by decide +kernel
theorem dL_law_206 : decode cL_law 206 = .ok (.iadd, 1) := by decide +kernel
theorem dL_law_207 : decode cL_law 207 = .ok (.iaload, 1) := by decide +kernel
theorem dL_law_208 : decode cL_law 208 = .ok (.i2l, 1) := by decide +kernel
theorem dL_law_209 : decode cL_law 209 = .ok (.bipush 32, 2) := by decide +kernel
theorem dL_law_211 : decode cL_law 211 = .ok (.lshl, 1) := by decide +kernel
theorem dL_law_212 : decode cL_law 212 = .ok (.aload_n 0, 1) := by decide +kernel
theorem dL_law_213 : decode cL_law 213 = .ok (.iload 4, 2) := by decide +kernel
theorem dL_law_215 : decode cL_law 215 = .ok (.bipush 6, 2) := by decide +kernel
theorem dL_law_217 : decode cL_law 217 = .ok (.iadd, 1) := by decide +kernel
theorem dL_law_218 : decode cL_law 218 = .ok (.iaload, 1) := by decide +kernel
theorem dL_law_219 : decode cL_law 219 = .ok (.i2l, 1) := by decide +kernel
theorem dL_law_220 : decode cL_law 220 = .ok (.ldc2_w 51, 3) := by decide +kernel
theorem dL_law_223 : decode cL_law 223 = .ok (.land, 1) := by decide +kernel
theorem dL_law_224 : decode cL_law 224 = .ok (.lor, 1) := by decide +kernel
theorem dL_law_225 : decode cL_law 225 = .ok (.invokevirtual 58, 3) := by decide +kernel
theorem dL_law_228 : decode cL_law 228 = .ok (.aload_n 2, 1) := by decide +kernel
theorem dL_law_229 : decode cL_law 229 = .ok (.invokevirtual 59, 3) := by decide +kernel
theorem dL_law_232 : decode cL_law 232 = .ok (.iload 5, 2) := by decide +kernel
theorem dL_law_234 : decode cL_law 234 = .ok (.if_icmp .eq 5, 3) := by decide +kernel
theorem dL_law_237 : decode cL_law 237 = .ok (.iconst 0, 1) := by decide +kernel
theorem dL_law_238 : decode cL_law 238 = .ok (.ireturn, 1) := by decide +kernel
theorem dL_law_239 : decode cL_law 239 = .ok (.goto 600, 3) := by decide +kernel
theorem dL_law_242 : decode cL_law 242 = .ok (.aload_n 1, 1) := by decide +kernel
theorem dL_law_243 : decode cL_law 243 = .ok (.aload_n 0, 1) := by decide +kernel
theorem dL_law_244 : decode cL_law 244 = .ok (.iload 4, 2) := by decide +kernel
theorem dL_law_246 : decode cL_law 246 = .ok (.iconst 1, 1) := by decide +kernel
theorem dL_law_247 : decode cL_law 247 = .ok (.iadd, 1) := by decide +kernel
end
section
theorem dL_law_248 : decode cL_law 248 = .ok (.iaload, 1) := by decide +kernel
theorem dL_law_249 : decode cL_law 249 = .ok (.aload_n 0, 1) := by decide +kernel
theorem dL_law_250 : decode cL_law 250 = .ok (.iload 4, 2) := by decide +kernel
theorem dL_law_252 : decode cL_law 252 = .ok (.iconst 2, 1) := by decide +kernel
theorem dL_law_253 : decode cL_law 253 = .ok (.iadd, 1) := by decide +kernel
theorem dL_law_254 : decode cL_law 254 = .ok (.iaload, 1) := by decide +kernel
theorem dL_law_255 : decode cL_law 255 = .ok (.invokestatic 63, 3) := by decide +kernel
theorem dL_law_258 : decode cL_law 258 = .ok (.istore 5, 2) := by decide +kernel
theorem dL_law_260 : decode cL_law 260 = .ok (.aload_n 2, 1) := by decide +kernel
theorem dL_law_261 : decode cL_law 261 = .ok (.aload_n 0, 1) := by decide +kernel
theorem dL_law_262 : decode cL_law 262 = .ok (.iload 4, 2) := by decide +kernel
theorem dL_law_264 : decode cL_law 264 = .ok (.iconst 1, 1) := by decide +kernel
theorem dL_law_265 : decode cL_law 265 = .ok (.iadd, 1) := by decide +kernel
theorem dL_law_266 : decode cL_law 266 = .ok (.iaload, 1) := by decide +kernel
theorem dL_law_267 : decode cL_law 267 = .ok (.aload_n 0, 1) := by decide +kernel
theorem dL_law_268 : decode cL_law 268 = .ok (.iload 4, 2) := by decide +kernel
theorem dL_law_270 : decode cL_law 270 = .ok (.iconst 2, 1) := by decide +kernel
theorem dL_law_271 : decode cL_law 271 = .ok (.iadd, 1) := by decide +kernel
theorem dL_law_272 : decode cL_law 272 = .ok (.iaload, 1) := by decide +kernel
theorem dL_law_273 : decode cL_law 273 = .ok (.invokevirtual 66, 3) := by decide +kernel
theorem dL_law_276 : decode cL_law 276 = .ok (.aload_n 2, 1) := by decide +kernel
theorem dL_law_277 : decode cL_law 277 = .ok (.invokevirtual 59, 3) := by decide +kernel
theorem dL_law_280 : decode cL_law 280 = .ok (.iload 5, 2) := by decide +kernel
theorem dL_law_282 : decode cL_law 282 = .ok (.if_icmp .eq 5, 3) := by decide +kernel
theorem dL_law_285 : decode cL_law 285 = .ok (.iconst 0, 1) := by decide +kernel
theorem dL_law_286 : decode cL_law 286 = .ok (.ireturn, 1) := by decide +kernel
theorem dL_law_287 : decode cL_law 287 = .ok (.goto 552, 3) := by decide +kernel
theorem dL_law_290 : decode cL_law 290 = .ok (.aload_n 1, 1) := by decide +kernel
theorem dL_law_291 : decode cL_law 291 = .ok (.aload_n 0, 1) := by decide +kernel
theorem dL_law_292 : decode cL_law 292 = .ok (.iload 4, 2) := by decide +kernel
theorem dL_law_294 : decode cL_law 294 = .ok (.iconst 1, 1) := by decide +kernel
theorem dL_law_295 : decode cL_law 295 = .ok (.iadd, 1) := by decide +kernel
theorem dL_law_296 : decode cL_law 296 = .ok (.iaload, 1) := by decide +kernel
theorem dL_law_297 : decode cL_law 297 = .ok (.aload_n 3, 1) := by decide +kernel
theorem dL_law_298 : decode cL_law 298 = .ok (.invokestatic 67, 3) := by decide +kernel
theorem dL_law_301 : decode cL_law 301 = .ok (.istore 5, 2) := by decide +kernel
theorem dL_law_303 : decode cL_law 303 = .ok (.aload_n 2, 1) := by decide +kernel
theorem dL_law_304 : decode cL_law 304 = .ok (.aload_n 0, 1) := by decide +kernel
theorem dL_law_305 : decode cL_law 305 = .ok (.iload 4, 2) := by decide +kernel
theorem dL_law_307 : decode cL_law 307 = .ok (.iconst 1, 1) := by decide +kernel
theorem dL_law_308 : decode cL_law 308 = .ok (.iadd, 1) := by decide +kernel
theorem dL_law_309 : decode cL_law 309 = .ok (.iaload, 1) := by decide +kernel
theorem dL_law_310 : decode cL_law 310 = .ok (.invokevirtual 70, 3) := by decide +kernel
theorem dL_law_313 : decode cL_law 313 = .ok (.lstore 6, 2) := by decide +kernel
theorem dL_law_315 : decode cL_law 315 = .ok (.aload_n 2, 1) := by decide +kernel
theorem dL_law_316 : decode cL_law 316 = .ok (.invokevirtual 59, 3) := by decide +kernel
theorem dL_law_319 : decode cL_law 319 = .ok (.iload 5, 2) := by decide +kernel
theorem dL_law_321 : decode cL_law 321 = .ok (.if_icmp .eq 5, 3) := by decide +kernel
theorem dL_law_324 : decode cL_law 324 = .ok (.iconst 0, 1) := by decide +kernel
theorem dL_law_325 : decode cL_law 325 = .ok (.ireturn, 1) := by decide +kernel
theorem dL_law_326 : decode cL_law 326 = .ok (.iload 5, 2) := by decide +kernel
theorem dL_law_328 : decode cL_law 328 = .ok (.ifCond .ne 14, 3) := by decide +kernel
theorem dL_law_331 : decode cL_law 331 = .ok (.aload_n 3, 1) := by decide +kernel
theorem dL_law_332 : decode cL_law 332 = .ok (.iconst 0, 1) := by decide +kernel
theorem dL_law_333 : decode cL_law 333 = .ok (.laload, 1) := by decide +kernel
theorem dL_law_334 : decode cL_law 334 = .ok (.lload 6, 2) := by decide +kernel
theorem dL_law_336 : decode cL_law 336 = .ok (.lcmp, 1) := by decide +kernel
theorem dL_law_337 : decode cL_law 337 = .ok (.ifCond .eq 5, 3) := by decide +kernel
theorem dL_law_340 : decode cL_law 340 = .ok (.iconst 0, 1) := by decide +kernel
theorem dL_law_341 : decode cL_law 341 = .ok (.ireturn, 1) := by decide +kernel
theorem dL_law_342 : decode cL_law 342 = .ok (.goto 497, 3) := by decide +kernel
theorem dL_law_345 : decode cL_law 345 = .ok (.aload_n 1, 1) := by decide +kernel
theorem dL_law_346 : decode cL_law 346 = .ok (.aload_n 0, 1) := by decide +kernel
theorem dL_law_347 : decode cL_law 347 = .ok (.iload 4, 2) := by decide +kernel
theorem dL_law_349 : decode cL_law 349 = .ok (.iconst 1, 1) := by decide +kernel
theorem dL_law_350 : decode cL_law 350 = .ok (.iadd, 1) := by decide +kernel
theorem dL_law_351 : decode cL_law 351 = .ok (.iaload, 1) := by decide +kernel
theorem dL_law_352 : decode cL_law 352 = .ok (.aload_n 3, 1) := by decide +kernel
theorem dL_law_353 : decode cL_law 353 = .ok (.invokestatic 71, 3) := by decide +kernel
theorem dL_law_356 : decode cL_law 356 = .ok (.istore 5, 2) := by decide +kernel
theorem dL_law_358 : decode cL_law 358 = .ok (.aload_n 2, 1) := by decide +kernel
theorem dL_law_359 : decode cL_law 359 = .ok (.aload_n 0, 1) := by decide +kernel
theorem dL_law_360 : decode cL_law 360 = .ok (.iload 4, 2) := by decide +kernel
theorem dL_law_362 : decode cL_law 362 = .ok (.iconst 1, 1) := by decide +kernel
theorem dL_law_363 : decode cL_law 363 = .ok (.iadd, 1) := by decide +kernel
theorem dL_law_364 : decode cL_law 364 = .ok (.iaload, 1) := by decide +kernel
theorem dL_law_365 : decode cL_law 365 = .ok (.invokevirtual 73, 3) := by decide +kernel
theorem dL_law_368 : decode cL_law 368 = .ok (.istore 6, 2) := by decide +kernel
theorem dL_law_370 : decode cL_law 370 = .ok (.aload_n 2, 1) := by decide +kernel
theorem dL_law_371 : decode cL_law 371 = .ok (.invokevirtual 59, 3) := by decide +kernel
theorem dL_law_374 : decode cL_law 374 = .ok (.iload 5, 2) := by decide +kernel
theorem dL_law_376 : decode cL_law 376 = .ok (.if_icmp .eq 5, 3) := by decide +kernel
theorem dL_law_379 : decode cL_law 379 = .ok (.iconst 0, 1) := by decide +kernel
theorem dL_law_380 : decode cL_law 380 = .ok (.ireturn, 1) := by decide +kernel
theorem dL_law_381 : decode cL_law 381 = .ok (.iload 5, 2) := by decide +kernel
theorem dL_law_383 : decode cL_law 383 = .ok (.ifCond .ne 22, 3) := by decide +kernel
theorem dL_law_386 : decode cL_law 386 = .ok (.aload_n 3, 1) := by decide +kernel
theorem dL_law_387 : decode cL_law 387 = .ok (.iconst 0, 1) := by decide +kernel
theorem dL_law_388 : decode cL_law 388 = .ok (.laload, 1) := by decide +kernel
theorem dL_law_389 : decode cL_law 389 = .ok (.iload 6, 2) := by decide +kernel
theorem dL_law_391 : decode cL_law 391 = .ok (.ifCond .eq 7, 3) := by decide +kernel
theorem dL_law_394 : decode cL_law 394 = .ok (.lconst 1, 1) := by decide +kernel
theorem dL_law_395 : decode cL_law 395 = .ok (.goto 4, 3) := by decide +kernel
theorem dL_law_398 : decode cL_law 398 = .ok (.lconst 0, 1) := by decide +kernel
theorem dL_law_399 : decode cL_law 399 = .ok (.lcmp, 1) := by decide +kernel
theorem dL_law_400 : decode cL_law 400 = .ok (.ifCond .eq 5, 3) := by decide +kernel
theorem dL_law_403 : decode cL_law 403 = .ok (.iconst 0, 1) := by decide +kernel
theorem dL_law_404 : decode cL_law 404 = .ok (.ireturn, 1) := by decide +kernel
theorem dL_law_405 : decode cL_law 405 = .ok (.goto 434, 3) := by decide +kernel
theorem dL_law_408 : decode cL_law 408 = .ok (.aload_n 1, 1) := by decide +kernel
theorem dL_law_409 : decode cL_law 409 = .ok (.aload_n 0, 1) := by decide +kernel
theorem dL_law_410 : decode cL_law 410 = .ok (.iload 4, 2) := by decide +kernel
theorem dL_law_412 : decode cL_law 412 = .ok (.iconst 1, 1) := by decide +kernel
theorem dL_law_413 : decode cL_law 413 = .ok (.iadd, 1) := by decide +kernel
theorem dL_law_414 : decode cL_law 414 = .ok (.iaload, 1) := by decide +kernel
theorem dL_law_415 : decode cL_law 415 = .ok (.invokestatic 74, 3) := by decide +kernel
theorem dL_law_418 : decode cL_law 418 = .ok (.istore 5, 2) := by decide +kernel
theorem dL_law_420 : decode cL_law 420 = .ok (.aload_n 2, 1) := by decide +kernel
theorem dL_law_421 : decode cL_law 421 = .ok (.aload_n 0, 1) := by decide +kernel
theorem dL_law_422 : decode cL_law 422 = .ok (.iload 4, 2) := by decide +kernel
theorem dL_law_424 : decode cL_law 424 = .ok (.iconst 1, 1) := by decide +kernel
theorem dL_law_425 : decode cL_law 425 = .ok (.iadd, 1) := by decide +kernel
theorem dL_law_426 : decode cL_law 426 = .ok (.iaload, 1) := by decide +kernel
theorem dL_law_427 : decode cL_law 427 = .ok (.invokevirtual 77, 3) := by decide +kernel
theorem dL_law_430 : decode cL_law 430 = .ok (.aload_n 2, 1) := by decide +kernel
theorem dL_law_431 : decode cL_law 431 = .ok (.invokevirtual 59, 3) := by decide +kernel
theorem dL_law_434 : decode cL_law 434 = .ok (.iload 5, 2) := by decide +kernel
theorem dL_law_436 : decode cL_law 436 = .ok (.if_icmp .eq 5, 3) := by decide +kernel
theorem dL_law_439 : decode cL_law 439 = .ok (.iconst 0, 1) := by decide +kernel
theorem dL_law_440 : decode cL_law 440 = .ok (.ireturn, 1) := by decide +kernel
theorem dL_law_441 : decode cL_law 441 = .ok (.goto 398, 3) := by decide +kernel
theorem dL_law_444 : decode cL_law 444 = .ok (.aload_n 1, 1) := by decide +kernel
theorem dL_law_445 : decode cL_law 445 = .ok (.invokevirtual 78, 3) := by decide +kernel
theorem dL_law_448 : decode cL_law 448 = .ok (.aload_n 2, 1) := by decide +kernel
theorem dL_law_449 : decode cL_law 449 = .ok (.invokevirtual 81, 3) := by decide +kernel
theorem dL_law_452 : decode cL_law 452 = .ok (.if_icmp .eq 387, 3) := by decide +kernel
theorem dL_law_455 : decode cL_law 455 = .ok (.iconst 0, 1) := by decide +kernel
theorem dL_law_456 : decode cL_law 456 = .ok (.ireturn, 1) := by decide +kernel
theorem dL_law_457 : decode cL_law 457 = .ok (.aload_n 1, 1) := by decide +kernel
theorem dL_law_458 : decode cL_law 458 = .ok (.aload_n 0, 1) := by decide +kernel
end
section
theorem dL_law_459 : decode cL_law 459 = .ok (.iload 4, 2) := by decide +kernel
theorem dL_law_461 : decode cL_law 461 = .ok (.iconst 1, 1) := by decide +kernel
theorem dL_law_462 : decode cL_law 462 = .ok (.iadd, 1) := by decide +kernel
theorem dL_law_463 : decode cL_law 463 = .ok (.iaload, 1) := by decide +kernel
theorem dL_law_464 : decode cL_law 464 = .ok (.aload_n 3, 1) := by decide +kernel
theorem dL_law_465 : decode cL_law 465 = .ok (.invokestatic 82, 3) := by decide +kernel
theorem dL_law_468 : decode cL_law 468 = .ok (.istore 5, 2) := by decide +kernel
theorem dL_law_470 : decode cL_law 470 = .ok (.aload_n 2, 1) := by decide +kernel
theorem dL_law_471 : decode cL_law 471 = .ok (.aload_n 0, 1) := by decide +kernel
theorem dL_law_472 : decode cL_law 472 = .ok (.iload 4, 2) := by decide +kernel
theorem dL_law_474 : decode cL_law 474 = .ok (.iconst 1, 1) := by decide +kernel
theorem dL_law_475 : decode cL_law 475 = .ok (.iadd, 1) := by decide +kernel
theorem dL_law_476 : decode cL_law 476 = .ok (.iaload, 1) := by decide +kernel
theorem dL_law_477 : decode cL_law 477 = .ok (.invokevirtual 84, 3) := by decide +kernel
theorem dL_law_480 : decode cL_law 480 = .ok (.istore 6, 2) := by decide +kernel
theorem dL_law_482 : decode cL_law 482 = .ok (.aload_n 2, 1) := by decide +kernel
theorem dL_law_483 : decode cL_law 483 = .ok (.invokevirtual 59, 3) := by decide +kernel
theorem dL_law_486 : decode cL_law 486 = .ok (.iload 5, 2) := by decide +kernel
theorem dL_law_488 : decode cL_law 488 = .ok (.if_icmp .eq 5, 3) := by decide +kernel
theorem dL_law_491 : decode cL_law 491 = .ok (.iconst 0, 1) := by decide +kernel
theorem dL_law_492 : decode cL_law 492 = .ok (.ireturn, 1) := by decide +kernel
theorem dL_law_493 : decode cL_law 493 = .ok (.iload 5, 2) := by decide +kernel
theorem dL_law_495 : decode cL_law 495 = .ok (.ifCond .ne 15, 3) := by decide +kernel
theorem dL_law_498 : decode cL_law 498 = .ok (.aload_n 3, 1) := by decide +kernel
theorem dL_law_499 : decode cL_law 499 = .ok (.iconst 0, 1) := by decide +kernel
theorem dL_law_500 : decode cL_law 500 = .ok (.laload, 1) := by decide +kernel
theorem dL_law_501 : decode cL_law 501 = .ok (.iload 6, 2) := by decide +kernel
theorem dL_law_503 : decode cL_law 503 = .ok (.i2l, 1) := by decide +kernel
theorem dL_law_504 : decode cL_law 504 = .ok (.lcmp, 1) := by decide +kernel
theorem dL_law_505 : decode cL_law 505 = .ok (.ifCond .eq 5, 3) := by decide +kernel
theorem dL_law_508 : decode cL_law 508 = .ok (.iconst 0, 1) := by decide +kernel
theorem dL_law_509 : decode cL_law 509 = .ok (.ireturn, 1) := by decide +kernel
theorem dL_law_510 : decode cL_law 510 = .ok (.goto 329, 3) := by decide +kernel
theorem dL_law_513 : decode cL_law 513 = .ok (.aload_n 1, 1) := by decide +kernel
theorem dL_law_514 : decode cL_law 514 = .ok (.invokevirtual 85, 3) := by decide +kernel
theorem dL_law_517 : decode cL_law 517 = .ok (.aload_n 2, 1) := by decide +kernel
theorem dL_law_518 : decode cL_law 518 = .ok (.invokevirtual 88, 3) := by decide +kernel
theorem dL_law_521 : decode cL_law 521 = .ok (.if_icmp .eq 318, 3) := by decide +kernel
theorem dL_law_524 : decode cL_law 524 = .ok (.iconst 0, 1) := by decide +kernel
theorem dL_law_525 : decode cL_law 525 = .ok (.ireturn, 1) := by decide +kernel
theorem dL_law_526 : decode cL_law 526 = .ok (.aload_n 1, 1) := by decide +kernel
theorem dL_law_527 : decode cL_law 527 = .ok (.aload_n 0, 1) := by decide +kernel
theorem dL_law_528 : decode cL_law 528 = .ok (.iload 4, 2) := by decide +kernel
theorem dL_law_530 : decode cL_law 530 = .ok (.iconst 1, 1) := by decide +kernel
theorem dL_law_531 : decode cL_law 531 = .ok (.iadd, 1) := by decide +kernel
theorem dL_law_532 : decode cL_law 532 = .ok (.iaload, 1) := by decide +kernel
theorem dL_law_533 : decode cL_law 533 = .ok (.aload_n 3, 1) := by decide +kernel
theorem dL_law_534 : decode cL_law 534 = .ok (.invokestatic 89, 3) := by decide +kernel
theorem dL_law_537 : decode cL_law 537 = .ok (.istore 5, 2) := by decide +kernel
theorem dL_law_539 : decode cL_law 539 = .ok (.aload_n 2, 1) := by decide +kernel
theorem dL_law_540 : decode cL_law 540 = .ok (.aload_n 0, 1) := by decide +kernel
theorem dL_law_541 : decode cL_law 541 = .ok (.iload 4, 2) := by decide +kernel
theorem dL_law_543 : decode cL_law 543 = .ok (.iconst 1, 1) := by decide +kernel
theorem dL_law_544 : decode cL_law 544 = .ok (.iadd, 1) := by decide +kernel
theorem dL_law_545 : decode cL_law 545 = .ok (.iaload, 1) := by decide +kernel
theorem dL_law_546 : decode cL_law 546 = .ok (.invokevirtual 91, 3) := by decide +kernel
theorem dL_law_549 : decode cL_law 549 = .ok (.lstore 6, 2) := by decide +kernel
theorem dL_law_551 : decode cL_law 551 = .ok (.aload_n 2, 1) := by decide +kernel
theorem dL_law_552 : decode cL_law 552 = .ok (.invokevirtual 59, 3) := by decide +kernel
theorem dL_law_555 : decode cL_law 555 = .ok (.iload 5, 2) := by decide +kernel
theorem dL_law_557 : decode cL_law 557 = .ok (.if_icmp .eq 5, 3) := by decide +kernel
theorem dL_law_560 : decode cL_law 560 = .ok (.iconst 0, 1) := by decide +kernel
theorem dL_law_561 : decode cL_law 561 = .ok (.ireturn, 1) := by decide +kernel
theorem dL_law_562 : decode cL_law 562 = .ok (.iload 5, 2) := by decide +kernel
theorem dL_law_564 : decode cL_law 564 = .ok (.ifCond .ne 14, 3) := by decide +kernel
theorem dL_law_567 : decode cL_law 567 = .ok (.aload_n 3, 1) := by decide +kernel
theorem dL_law_568 : decode cL_law 568 = .ok (.iconst 0, 1) := by decide +kernel
theorem dL_law_569 : decode cL_law 569 = .ok (.laload, 1) := by decide +kernel
theorem dL_law_570 : decode cL_law 570 = .ok (.lload 6, 2) := by decide +kernel
theorem dL_law_572 : decode cL_law 572 = .ok (.lcmp, 1) := by decide +kernel
theorem dL_law_573 : decode cL_law 573 = .ok (.ifCond .eq 5, 3) := by decide +kernel
theorem dL_law_576 : decode cL_law 576 = .ok (.iconst 0, 1) := by decide +kernel
theorem dL_law_577 : decode cL_law 577 = .ok (.ireturn, 1) := by decide +kernel
theorem dL_law_578 : decode cL_law 578 = .ok (.goto 261, 3) := by decide +kernel
theorem dL_law_581 : decode cL_law 581 = .ok (.aload_n 1, 1) := by decide +kernel
theorem dL_law_582 : decode cL_law 582 = .ok (.aload_n 0, 1) := by decide +kernel
theorem dL_law_583 : decode cL_law 583 = .ok (.iload 4, 2) := by decide +kernel
theorem dL_law_585 : decode cL_law 585 = .ok (.iconst 1, 1) := by decide +kernel
theorem dL_law_586 : decode cL_law 586 = .ok (.iadd, 1) := by decide +kernel
theorem dL_law_587 : decode cL_law 587 = .ok (.iaload, 1) := by decide +kernel
theorem dL_law_588 : decode cL_law 588 = .ok (.aload_n 3, 1) := by decide +kernel
theorem dL_law_589 : decode cL_law 589 = .ok (.invokestatic 92, 3) := by decide +kernel
theorem dL_law_592 : decode cL_law 592 = .ok (.istore 5, 2) := by decide +kernel
theorem dL_law_594 : decode cL_law 594 = .ok (.aload_n 2, 1) := by decide +kernel
theorem dL_law_595 : decode cL_law 595 = .ok (.aload_n 0, 1) := by decide +kernel
theorem dL_law_596 : decode cL_law 596 = .ok (.iload 4, 2) := by decide +kernel
theorem dL_law_598 : decode cL_law 598 = .ok (.iconst 1, 1) := by decide +kernel
theorem dL_law_599 : decode cL_law 599 = .ok (.iadd, 1) := by decide +kernel
theorem dL_law_600 : decode cL_law 600 = .ok (.iaload, 1) := by decide +kernel
theorem dL_law_601 : decode cL_law 601 = .ok (.invokevirtual 94, 3) := by decide +kernel
theorem dL_law_604 : decode cL_law 604 = .ok (.lstore 6, 2) := by decide +kernel
theorem dL_law_606 : decode cL_law 606 = .ok (.aload_n 2, 1) := by decide +kernel
theorem dL_law_607 : decode cL_law 607 = .ok (.invokevirtual 59, 3) := by decide +kernel
theorem dL_law_610 : decode cL_law 610 = .ok (.iload 5, 2) := by decide +kernel
theorem dL_law_612 : decode cL_law 612 = .ok (.if_icmp .eq 5, 3) := by decide +kernel
theorem dL_law_615 : decode cL_law 615 = .ok (.iconst 0, 1) := by decide +kernel
theorem dL_law_616 : decode cL_law 616 = .ok (.ireturn, 1) := by decide +kernel
theorem dL_law_617 : decode cL_law 617 = .ok (.iload 5, 2) := by decide +kernel
theorem dL_law_619 : decode cL_law 619 = .ok (.ifCond .ne 14, 3) := by decide +kernel
theorem dL_law_622 : decode cL_law 622 = .ok (.aload_n 3, 1) := by decide +kernel
theorem dL_law_623 : decode cL_law 623 = .ok (.iconst 0, 1) := by decide +kernel
theorem dL_law_624 : decode cL_law 624 = .ok (.laload, 1) := by decide +kernel
theorem dL_law_625 : decode cL_law 625 = .ok (.lload 6, 2) := by decide +kernel
theorem dL_law_627 : decode cL_law 627 = .ok (.lcmp, 1) := by decide +kernel
theorem dL_law_628 : decode cL_law 628 = .ok (.ifCond .eq 5, 3) := by decide +kernel
theorem dL_law_631 : decode cL_law 631 = .ok (.iconst 0, 1) := by decide +kernel
theorem dL_law_632 : decode cL_law 632 = .ok (.ireturn, 1) := by decide +kernel
theorem dL_law_633 : decode cL_law 633 = .ok (.goto 206, 3) := by decide +kernel
theorem dL_law_636 : decode cL_law 636 = .ok (.aload_n 1, 1) := by decide +kernel
theorem dL_law_637 : decode cL_law 637 = .ok (.aload_n 0, 1) := by decide +kernel
theorem dL_law_638 : decode cL_law 638 = .ok (.iload 4, 2) := by decide +kernel
theorem dL_law_640 : decode cL_law 640 = .ok (.iconst 1, 1) := by decide +kernel
theorem dL_law_641 : decode cL_law 641 = .ok (.iadd, 1) := by decide +kernel
theorem dL_law_642 : decode cL_law 642 = .ok (.iaload, 1) := by decide +kernel
theorem dL_law_643 : decode cL_law 643 = .ok (.i2l, 1) := by decide +kernel
theorem dL_law_644 : decode cL_law 644 = .ok (.bipush 32, 2) := by decide +kernel
theorem dL_law_646 : decode cL_law 646 = .ok (.lshl, 1) := by decide +kernel
theorem dL_law_647 : decode cL_law 647 = .ok (.aload_n 0, 1) := by decide +kernel
theorem dL_law_648 : decode cL_law 648 = .ok (.iload 4, 2) := by decide +kernel
theorem dL_law_650 : decode cL_law 650 = .ok (.iconst 2, 1) := by decide +kernel
theorem dL_law_651 : decode cL_law 651 = .ok (.iadd, 1) := by decide +kernel
theorem dL_law_652 : decode cL_law 652 = .ok (.iaload, 1) := by decide +kernel
theorem dL_law_653 : decode cL_law 653 = .ok (.i2l, 1) := by decide +kernel
theorem dL_law_654 : decode cL_law 654 = .ok (.ldc2_w 51, 3) := by decide +kernel
theorem dL_law_657 : decode cL_law 657 = .ok (.land, 1) := by decide +kernel
theorem dL_law_658 : decode cL_law 658 = .ok (.lor, 1) := by decide +kernel
theorem dL_law_659 : decode cL_law 659 = .ok (.aload_n 0, 1) := by decide +kernel
theorem dL_law_660 : decode cL_law 660 = .ok (.iload 4, 2) := by decide +kernel
theorem dL_law_662 : decode cL_law 662 = .ok (.iconst 3, 1) := by decide +kernel
theorem dL_law_663 : decode cL_law 663 = .ok (.iadd, 1) := by decide +kernel
end
section
theorem dL_law_664 : decode cL_law 664 = .ok (.iaload, 1) := by decide +kernel
theorem dL_law_665 : decode cL_law 665 = .ok (.i2l, 1) := by decide +kernel
theorem dL_law_666 : decode cL_law 666 = .ok (.bipush 32, 2) := by decide +kernel
theorem dL_law_668 : decode cL_law 668 = .ok (.lshl, 1) := by decide +kernel
theorem dL_law_669 : decode cL_law 669 = .ok (.aload_n 0, 1) := by decide +kernel
theorem dL_law_670 : decode cL_law 670 = .ok (.iload 4, 2) := by decide +kernel
theorem dL_law_672 : decode cL_law 672 = .ok (.iconst 4, 1) := by decide +kernel
theorem dL_law_673 : decode cL_law 673 = .ok (.iadd, 1) := by decide +kernel
theorem dL_law_674 : decode cL_law 674 = .ok (.iaload, 1) := by decide +kernel
theorem dL_law_675 : decode cL_law 675 = .ok (.i2l, 1) := by decide +kernel
theorem dL_law_676 : decode cL_law 676 = .ok (.ldc2_w 51, 3) := by decide +kernel
theorem dL_law_679 : decode cL_law 679 = .ok (.land, 1) := by decide +kernel
theorem dL_law_680 : decode cL_law 680 = .ok (.lor, 1) := by decide +kernel
theorem dL_law_681 : decode cL_law 681 = .ok (.invokevirtual 95, 3) := by decide +kernel
theorem dL_law_684 : decode cL_law 684 = .ok (.aload_n 2, 1) := by decide +kernel
theorem dL_law_685 : decode cL_law 685 = .ok (.aload_n 0, 1) := by decide +kernel
theorem dL_law_686 : decode cL_law 686 = .ok (.iload 4, 2) := by decide +kernel
theorem dL_law_688 : decode cL_law 688 = .ok (.iconst 1, 1) := by decide +kernel
theorem dL_law_689 : decode cL_law 689 = .ok (.iadd, 1) := by decide +kernel
theorem dL_law_690 : decode cL_law 690 = .ok (.iaload, 1) := by decide +kernel
theorem dL_law_691 : decode cL_law 691 = .ok (.i2l, 1) := by decide +kernel
theorem dL_law_692 : decode cL_law 692 = .ok (.bipush 32, 2) := by decide +kernel
theorem dL_law_694 : decode cL_law 694 = .ok (.lshl, 1) := by decide +kernel
theorem dL_law_695 : decode cL_law 695 = .ok (.aload_n 0, 1) := by decide +kernel
theorem dL_law_696 : decode cL_law 696 = .ok (.iload 4, 2) := by decide +kernel
theorem dL_law_698 : decode cL_law 698 = .ok (.iconst 2, 1) := by decide +kernel
theorem dL_law_699 : decode cL_law 699 = .ok (.iadd, 1) := by decide +kernel
theorem dL_law_700 : decode cL_law 700 = .ok (.iaload, 1) := by decide +kernel
theorem dL_law_701 : decode cL_law 701 = .ok (.i2l, 1) := by decide +kernel
theorem dL_law_702 : decode cL_law 702 = .ok (.ldc2_w 51, 3) := by decide +kernel
theorem dL_law_705 : decode cL_law 705 = .ok (.land, 1) := by decide +kernel
theorem dL_law_706 : decode cL_law 706 = .ok (.lor, 1) := by decide +kernel
theorem dL_law_707 : decode cL_law 707 = .ok (.aload_n 0, 1) := by decide +kernel
theorem dL_law_708 : decode cL_law 708 = .ok (.iload 4, 2) := by decide +kernel
theorem dL_law_710 : decode cL_law 710 = .ok (.iconst 3, 1) := by decide +kernel
theorem dL_law_711 : decode cL_law 711 = .ok (.iadd, 1) := by decide +kernel
theorem dL_law_712 : decode cL_law 712 = .ok (.iaload, 1) := by decide +kernel
theorem dL_law_713 : decode cL_law 713 = .ok (.i2l, 1) := by decide +kernel
theorem dL_law_714 : decode cL_law 714 = .ok (.bipush 32, 2) := by decide +kernel
theorem dL_law_716 : decode cL_law 716 = .ok (.lshl, 1) := by decide +kernel
theorem dL_law_717 : decode cL_law 717 = .ok (.aload_n 0, 1) := by decide +kernel
theorem dL_law_718 : decode cL_law 718 = .ok (.iload 4, 2) := by decide +kernel
theorem dL_law_720 : decode cL_law 720 = .ok (.iconst 4, 1) := by decide +kernel
theorem dL_law_721 : decode cL_law 721 = .ok (.iadd, 1) := by decide +kernel
theorem dL_law_722 : decode cL_law 722 = .ok (.iaload, 1) := by decide +kernel
theorem dL_law_723 : decode cL_law 723 = .ok (.i2l, 1) := by decide +kernel
theorem dL_law_724 : decode cL_law 724 = .ok (.ldc2_w 51, 3) := by decide +kernel
theorem dL_law_727 : decode cL_law 727 = .ok (.land, 1) := by decide +kernel
theorem dL_law_728 : decode cL_law 728 = .ok (.lor, 1) := by decide +kernel
theorem dL_law_729 : decode cL_law 729 = .ok (.invokevirtual 99, 3) := by decide +kernel
theorem dL_law_732 : decode cL_law 732 = .ok (.if_icmp .eq 107, 3) := by decide +kernel
theorem dL_law_735 : decode cL_law 735 = .ok (.iconst 0, 1) := by decide +kernel
theorem dL_law_736 : decode cL_law 736 = .ok (.ireturn, 1) := by decide +kernel
theorem dL_law_737 : decode cL_law 737 = .ok (.aload_n 1, 1) := by decide +kernel
theorem dL_law_738 : decode cL_law 738 = .ok (.aload_n 0, 1) := by decide +kernel
theorem dL_law_739 : decode cL_law 739 = .ok (.iload 4, 2) := by decide +kernel
theorem dL_law_741 : decode cL_law 741 = .ok (.iconst 1, 1) := by decide +kernel
theorem dL_law_742 : decode cL_law 742 = .ok (.iadd, 1) := by decide +kernel
theorem dL_law_743 : decode cL_law 743 = .ok (.iaload, 1) := by decide +kernel
theorem dL_law_744 : decode cL_law 744 = .ok (.i2l, 1) := by decide +kernel
theorem dL_law_745 : decode cL_law 745 = .ok (.bipush 32, 2) := by decide +kernel
theorem dL_law_747 : decode cL_law 747 = .ok (.lshl, 1) := by decide +kernel
theorem dL_law_748 : decode cL_law 748 = .ok (.aload_n 0, 1) := by decide +kernel
theorem dL_law_749 : decode cL_law 749 = .ok (.iload 4, 2) := by decide +kernel
theorem dL_law_751 : decode cL_law 751 = .ok (.iconst 2, 1) := by decide +kernel
theorem dL_law_752 : decode cL_law 752 = .ok (.iadd, 1) := by decide +kernel
theorem dL_law_753 : decode cL_law 753 = .ok (.iaload, 1) := by decide +kernel
theorem dL_law_754 : decode cL_law 754 = .ok (.i2l, 1) := by decide +kernel
theorem dL_law_755 : decode cL_law 755 = .ok (.ldc2_w 51, 3) := by decide +kernel
theorem dL_law_758 : decode cL_law 758 = .ok (.land, 1) := by decide +kernel
theorem dL_law_759 : decode cL_law 759 = .ok (.lor, 1) := by decide +kernel
theorem dL_law_760 : decode cL_law 760 = .ok (.aload_n 0, 1) := by decide +kernel
theorem dL_law_761 : decode cL_law 761 = .ok (.iload 4, 2) := by decide +kernel
theorem dL_law_763 : decode cL_law 763 = .ok (.iconst 3, 1) := by decide +kernel
theorem dL_law_764 : decode cL_law 764 = .ok (.iadd, 1) := by decide +kernel
theorem dL_law_765 : decode cL_law 765 = .ok (.iaload, 1) := by decide +kernel
theorem dL_law_766 : decode cL_law 766 = .ok (.i2l, 1) := by decide +kernel
theorem dL_law_767 : decode cL_law 767 = .ok (.bipush 32, 2) := by decide +kernel
theorem dL_law_769 : decode cL_law 769 = .ok (.lshl, 1) := by decide +kernel
theorem dL_law_770 : decode cL_law 770 = .ok (.aload_n 0, 1) := by decide +kernel
theorem dL_law_771 : decode cL_law 771 = .ok (.iload 4, 2) := by decide +kernel
theorem dL_law_773 : decode cL_law 773 = .ok (.iconst 4, 1) := by decide +kernel
theorem dL_law_774 : decode cL_law 774 = .ok (.iadd, 1) := by decide +kernel
theorem dL_law_775 : decode cL_law 775 = .ok (.iaload, 1) := by decide +kernel
theorem dL_law_776 : decode cL_law 776 = .ok (.i2l, 1) := by decide +kernel
theorem dL_law_777 : decode cL_law 777 = .ok (.ldc2_w 51, 3) := by decide +kernel
theorem dL_law_780 : decode cL_law 780 = .ok (.land, 1) := by decide +kernel
theorem dL_law_781 : decode cL_law 781 = .ok (.lor, 1) := by decide +kernel
theorem dL_law_782 : decode cL_law 782 = .ok (.invokevirtual 100, 3) := by decide +kernel
theorem dL_law_785 : decode cL_law 785 = .ok (.aload_n 2, 1) := by decide +kernel
theorem dL_law_786 : decode cL_law 786 = .ok (.aload_n 0, 1) := by decide +kernel
theorem dL_law_787 : decode cL_law 787 = .ok (.iload 4, 2) := by decide +kernel
theorem dL_law_789 : decode cL_law 789 = .ok (.iconst 1, 1) := by decide +kernel
theorem dL_law_790 : decode cL_law 790 = .ok (.iadd, 1) := by decide +kernel
theorem dL_law_791 : decode cL_law 791 = .ok (.iaload, 1) := by decide +kernel
theorem dL_law_792 : decode cL_law 792 = .ok (.i2l, 1) := by decide +kernel
theorem dL_law_793 : decode cL_law 793 = .ok (.bipush 32, 2) := by decide +kernel
theorem dL_law_795 : decode cL_law 795 = .ok (.lshl, 1) := by decide +kernel
theorem dL_law_796 : decode cL_law 796 = .ok (.aload_n 0, 1) := by decide +kernel
theorem dL_law_797 : decode cL_law 797 = .ok (.iload 4, 2) := by decide +kernel
theorem dL_law_799 : decode cL_law 799 = .ok (.iconst 2, 1) := by decide +kernel
theorem dL_law_800 : decode cL_law 800 = .ok (.iadd, 1) := by decide +kernel
theorem dL_law_801 : decode cL_law 801 = .ok (.iaload, 1) := by decide +kernel
theorem dL_law_802 : decode cL_law 802 = .ok (.i2l, 1) := by decide +kernel
theorem dL_law_803 : decode cL_law 803 = .ok (.ldc2_w 51, 3) := by decide +kernel
theorem dL_law_806 : decode cL_law 806 = .ok (.land, 1) := by decide +kernel
theorem dL_law_807 : decode cL_law 807 = .ok (.lor, 1) := by decide +kernel
theorem dL_law_808 : decode cL_law 808 = .ok (.aload_n 0, 1) := by decide +kernel
theorem dL_law_809 : decode cL_law 809 = .ok (.iload 4, 2) := by decide +kernel
theorem dL_law_811 : decode cL_law 811 = .ok (.iconst 3, 1) := by decide +kernel
theorem dL_law_812 : decode cL_law 812 = .ok (.iadd, 1) := by decide +kernel
theorem dL_law_813 : decode cL_law 813 = .ok (.iaload, 1) := by decide +kernel
theorem dL_law_814 : decode cL_law 814 = .ok (.i2l, 1) := by decide +kernel
theorem dL_law_815 : decode cL_law 815 = .ok (.bipush 32, 2) := by decide +kernel
theorem dL_law_817 : decode cL_law 817 = .ok (.lshl, 1) := by decide +kernel
theorem dL_law_818 : decode cL_law 818 = .ok (.aload_n 0, 1) := by decide +kernel
theorem dL_law_819 : decode cL_law 819 = .ok (.iload 4, 2) := by decide +kernel
theorem dL_law_821 : decode cL_law 821 = .ok (.iconst 4, 1) := by decide +kernel
theorem dL_law_822 : decode cL_law 822 = .ok (.iadd, 1) := by decide +kernel
theorem dL_law_823 : decode cL_law 823 = .ok (.iaload, 1) := by decide +kernel
theorem dL_law_824 : decode cL_law 824 = .ok (.i2l, 1) := by decide +kernel
theorem dL_law_825 : decode cL_law 825 = .ok (.ldc2_w 51, 3) := by decide +kernel
theorem dL_law_828 : decode cL_law 828 = .ok (.land, 1) := by decide +kernel
theorem dL_law_829 : decode cL_law 829 = .ok (.lor, 1) := by decide +kernel
theorem dL_law_830 : decode cL_law 830 = .ok (.invokevirtual 104, 3) := by decide +kernel
theorem dL_law_833 : decode cL_law 833 = .ok (.lcmp, 1) := by decide +kernel
theorem dL_law_834 : decode cL_law 834 = .ok (.ifCond .eq 5, 3) := by decide +kernel
theorem dL_law_837 : decode cL_law 837 = .ok (.iconst 0, 1) := by decide +kernel
theorem dL_law_838 : decode cL_law 838 = .ok (.ireturn, 1) := by decide +kernel
theorem dL_law_839 : decode cL_law 839 = .ok (.iinc 4 7, 3) := by decide +kernel
end
section
theorem dL_law_842 : decode cL_law 842 = .ok (.goto (-819), 3) := by decide +kernel
theorem dL_law_845 : decode cL_law 845 = .ok (.iconst 1, 1) := by decide +kernel
theorem dL_law_846 : decode cL_law 846 = .ok (.ireturn, 1) := by decide +kernel
end
section
theorem rm_c : room_1.cells = 1045 := rfl
theorem rm_s : room_1.slots = 8702 := rfl
set_option maxHeartbeats 1000000 in
set_option maxRecDepth 100000 in
theorem law_0 {p : Program} {e : Env} {s : State} {m : MethodId} {below : List Frame} {meth : Method} {c : Code} {l : Launch} {b L : Nat} {xs : Nat → Int32} {D : va_G} {A : Nat → Prop} {a : Nat → Nat} {k : Nat → ClassId} {bb : Nat → Nat} {g : Nat → ClassId} {q : Nat} {z : ClassId} (hl9 : l.stackTraces = false) (hx : p.tables.exec = Jvm.exec) (hb : c.code = cL_law) (hr : meth.sig.returnType = some .boolean) (hml : c.maxLocals = 8) (hlocks : meth.locks = false) (hown : s.vm.findClass RL = some m.cls) (hts : ∀ w ∈ ALL, w.before #[Value.ref b] s = true) (hX : va_X b L xs s s.heap) (hbl : b < s.heap.size) (hbA : ¬ A b) (hK : va_K D vwCl (tX k ++ tM g ++ tO z) s) (hZ : zx A s s.heap) (hA : ∀ q : Nat, s.heap.size ≤ q → A q) (hL : L ≤ 3584) (t : Nat) (ht : 7 * t + 7 ≤ L) (n : Nat) (K V : Nat → Int64) (kd : Nat → Int32) (SK SV : Nat → Int64) (cd : Int32) (o : Nat → Int64) (H : Heap) (locs : List Loc) (ls : Array Slot) (hI : inv n K kd) (hP : va_P D vwCl (wX a k n K V kd SK SV ++ wM bb g cd n K V (fun i9 => kd i9 + 1) SK SV ++ wO q z o) H) (hD : va_D A (wX a k n K V kd SK SV ++ wM bb g cd n K V (fun i9 => kd i9 + 1) SK SV ++ wO q z o)) (hS : va_S A s.heap H locs) (hl : lv_has ls 8 [(4, .int (nI (7 * t))), (0, .ref b), (1, .ref (a 0)), (2, .ref (bb 0)), (3, .ref q)])
    (nx : ∀ (n : Nat) (K V : Nat → Int64) (kd : Nat → Int32) (SK SV : Nat → Int64) (cd : Int32) (o : Nat → Int64) (H : Heap) (locs : List Loc) (ls : Array Slot), inv n K kd → va_P D vwCl (wX a k n K V kd SK SV ++ wM bb g cd n K V (fun i9 => kd i9 + 1) SK SV ++ wO q z o) H → va_D A (wX a k n K V kd SK SV ++ wM bb g cd n K V (fun i9 => kd i9 + 1) SK SV ++ wO q z o) → va_S A s.heap H locs → lv_has ls 8 [(4, .int (nI (7 * t))), (0, .ref b), (1, .ref (a 0)), (2, .ref (bb 0)), (3, .ref q)] → W p l e room_1 s m #[Value.ref b] below meth c H locs (13 + 1 * (t + 1)) (462 + 6 * (t + 1)) (lw_Z below #[Value.ref b] s) (F0 m 839 ls [])) :
    W p l e room_1 s m #[Value.ref b] below meth c H locs (13 + 1 * t) (462 + 6 * t) (lw_Z below #[Value.ref b] s) (F0 m 104 ls []) := by
  have hn := hI.1
  have hk := hI.2.2
  refine lv_aload_n hx hb dL_law_104 rfl (lv_at hl 2 rfl) ?_
  refine lv_aload_n hx hb dL_law_105 rfl (lv_at hl 1 rfl) ?_
  refine lv_iload hx hb dL_law_106 (lv_at hl 0 rfl) ?_
  refine lv_iconst (v := 1) hx hb dL_law_108 (by decide) ?_
  refine lv_iadd hx hb dL_law_109 ?_
  refine xi (y := nI (7 * t + 1)) (nI_add (7 * t) 1) ?_
  refine x_sld (j := (7 * t + 1)) hx hb hX hbl hbA hS (by omega) (by omega) dL_law_110 ?_
  refine lv_aload_n hx hb dL_law_111 rfl (lv_at hl 1 rfl) ?_
  refine lv_iload hx hb dL_law_112 (lv_at hl 0 rfl) ?_
  refine lv_iconst (v := 2) hx hb dL_law_114 (by decide) ?_
  refine lv_iadd hx hb dL_law_115 ?_
  refine xi (y := nI (7 * t + 2)) (nI_add (7 * t) 2) ?_
  refine x_sld (j := (7 * t + 2)) hx hb hX hbl hbA hS (by omega) (by omega) dL_law_116 ?_
  refine lv_aload_n hx hb dL_law_117 rfl (lv_at hl 1 rfl) ?_
  refine lv_iload hx hb dL_law_118 (lv_at hl 0 rfl) ?_
  refine lv_iconst (v := 3) hx hb dL_law_120 (by decide) ?_
  refine lv_iadd hx hb dL_law_121 ?_
  refine xi (y := nI (7 * t + 3)) (nI_add (7 * t) 3) ?_
  refine x_sld (j := (7 * t + 3)) hx hb hX hbl hbA hS (by omega) (by omega) dL_law_122 ?_
  refine lv_i2l (v := (xs (7 * t + 3)).toInt64) hx hb dL_law_123 rfl ?_
  refine lv_bipush (v := 32) hx hb dL_law_124 (by decide) ?_
  refine lv_lshl (v := ((xs (7 * t + 3)).toInt64) <<< ((32 : Int32).toInt64 &&& 63)) hx hb dL_law_126 rfl ?_
  refine lv_aload_n hx hb dL_law_127 rfl (lv_at hl 1 rfl) ?_
  refine lv_iload hx hb dL_law_128 (lv_at hl 0 rfl) ?_
  refine lv_iconst (v := 4) hx hb dL_law_130 (by decide) ?_
  refine lv_iadd hx hb dL_law_131 ?_
  refine xi (y := nI (7 * t + 4)) (nI_add (7 * t) 4) ?_
  refine x_sld (j := (7 * t + 4)) hx hb hX hbl hbA hS (by omega) (by omega) dL_law_132 ?_
  refine lv_i2l (v := (xs (7 * t + 4)).toInt64) hx hb dL_law_133 rfl ?_
  refine lv_ldc2 (v := 4294967295) hx hb hown (hts (.constantLong RL 51 (4294967295)) mb_112) dL_law_134 ?_
  refine lv_land hx hb dL_law_137 ?_
  refine lv_lor hx hb dL_law_138 ?_
  refine lv_aload_n hx hb dL_law_139 rfl (lv_at hl 1 rfl) ?_
  refine lv_iload hx hb dL_law_140 (lv_at hl 0 rfl) ?_
  refine lv_iconst (v := 5) hx hb dL_law_142 (by decide) ?_
  refine lv_iadd hx hb dL_law_143 ?_
  refine xi (y := nI (7 * t + 5)) (nI_add (7 * t) 5) ?_
  refine x_sld (j := (7 * t + 5)) hx hb hX hbl hbA hS (by omega) (by omega) dL_law_144 ?_
  refine lv_i2l (v := (xs (7 * t + 5)).toInt64) hx hb dL_law_145 rfl ?_
  refine lv_bipush (v := 32) hx hb dL_law_146 (by decide) ?_
  refine lv_lshl (v := ((xs (7 * t + 5)).toInt64) <<< ((32 : Int32).toInt64 &&& 63)) hx hb dL_law_148 rfl ?_
  refine lv_aload_n hx hb dL_law_149 rfl (lv_at hl 1 rfl) ?_
  refine lv_iload hx hb dL_law_150 (lv_at hl 0 rfl) ?_
  refine lv_bipush (v := 6) hx hb dL_law_152 (by decide) ?_
  refine lv_iadd hx hb dL_law_154 ?_
  refine xi (y := nI (7 * t + 6)) (nI_add (7 * t) 6) ?_
  refine x_sld (j := (7 * t + 6)) hx hb hX hbl hbA hS (by omega) (by omega) dL_law_155 ?_
  refine lv_i2l (v := (xs (7 * t + 6)).toInt64) hx hb dL_law_156 rfl ?_
  refine lv_ldc2 (v := 4294967295) hx hb hown (hts (.constantLong RL 51 (4294967295)) mb_112) dL_law_157 ?_
  refine lv_land hx hb dL_law_160 ?_
  refine lv_lor hx hb dL_law_161 ?_
  refine kn_i (wc := (wX a k n K V kd SK SV)) (wr := (wM bb g cd n K V (fun i9 => kd i9 + 1) SK SV ++ wO q z o)) (w1 := (wX a k n K V (kdB (xs (7 * t + 1)) (xs (7 * t + 2)) kd) (svB (xs (7 * t + 1)) (xs (7 * t + 2)) kd (lwL (xs (7 * t + 3)) (xs (7 * t + 4))) SK) (svB (xs (7 * t + 1)) (xs (7 * t + 2)) kd (lwL (xs (7 * t + 5)) (xs (7 * t + 6))) SV))) (vx_runSW (As := [.ref (a 0), .int (xs (7 * t + 1)), .int (xs (7 * t + 2)), .long ((((xs (7 * t + 3)).toInt64) <<< ((32 : Int32).toInt64 &&& 63)) ||| (((xs (7 * t + 4)).toInt64) &&& 4294967295)), .long ((((xs (7 * t + 5)).toInt64) <<< ((32 : Int32).toInt64 &&& 63)) ||| (((xs (7 * t + 6)).toInt64) &&& 4294967295))]) (rest := []) ⟨hx, hb, hml, hown, hts⟩ (h_begin l hl9 D a k n K V kd SK SV (xs (7 * t + 1)) (xs (7 * t + 2)) (lwL (xs (7 * t + 3)) (xs (7 * t + 4))) (lwL (xs (7 * t + 5)) (xs (7 * t + 6))) H.size) (vx_cwSW (hh := [(0, 9, 12, 13), (0, 9, 16, 15)]) 5 hts (gd_S mb_113 mb_114 mb_115 mb_116) rfl rfl rfl (by decide +kernel) ⟨by decide, by decide⟩) ⟨cP_blind, cPre hP hD hK hS hA hZ [0, 1, 2, 3, 4, 5] rfl (by decide) [0, 1, 2, 3, 4] rfl⟩ rfl rfl hl.1 rfl (lv_room (Nat.le_of_ble_eq_true rfl)) dL_law_162 ⟨by rw [rm_c]; omega, by rw [rm_s]; omega⟩) hP hD hS hA [0, 1, 2, 3, 4, 5] [6, 7, 8, 9, 10, 11, 12] rfl rfl (by decide) (by decide) (fun r9 H locs hp hP hD hS => ?_)
  have hP := hP.sub (ws' := wX a k n K V (kdB (xs (7 * t + 1)) (xs (7 * t + 2)) kd) (svB (xs (7 * t + 1)) (xs (7 * t + 2)) kd (lwL (xs (7 * t + 3)) (xs (7 * t + 4))) SK) (svB (xs (7 * t + 1)) (xs (7 * t + 2)) kd (lwL (xs (7 * t + 5)) (xs (7 * t + 6))) SV) ++ wM bb g cd n K V (fun i9 => kd i9 + 1) SK SV ++ wO q z o) [7, 8, 9, 10, 11, 12, 0, 1, 2, 3, 4, 5, 6] rfl
  have hD := hD.sub (ws' := wX a k n K V (kdB (xs (7 * t + 1)) (xs (7 * t + 2)) kd) (svB (xs (7 * t + 1)) (xs (7 * t + 2)) kd (lwL (xs (7 * t + 3)) (xs (7 * t + 4))) SK) (svB (xs (7 * t + 1)) (xs (7 * t + 2)) kd (lwL (xs (7 * t + 5)) (xs (7 * t + 6))) SV) ++ wM bb g cd n K V (fun i9 => kd i9 + 1) SK SV ++ wO q z o) [7, 8, 9, 10, 11, 12, 0, 1, 2, 3, 4, 5, 6] (by decide) rfl
  have hP : va_P D vwCl (wX a k n K V (kdB (xs (7 * t + 1)) (xs (7 * t + 2)) kd) (svB (xs (7 * t + 1)) (xs (7 * t + 2)) kd (lwL (xs (7 * t + 3)) (xs (7 * t + 4))) SK) (svB (xs (7 * t + 1)) (xs (7 * t + 2)) kd (lwL (xs (7 * t + 5)) (xs (7 * t + 6))) SV) ++ wM bb g cd n K V (fun i9 => kd i9 + 1) SK SV ++ wO q z o) H := hP
  have hD : va_D A (wX a k n K V (kdB (xs (7 * t + 1)) (xs (7 * t + 2)) kd) (svB (xs (7 * t + 1)) (xs (7 * t + 2)) kd (lwL (xs (7 * t + 3)) (xs (7 * t + 4))) SK) (svB (xs (7 * t + 1)) (xs (7 * t + 2)) kd (lwL (xs (7 * t + 5)) (xs (7 * t + 6))) SV) ++ wM bb g cd n K V (fun i9 => kd i9 + 1) SK SV ++ wO q z o) := hD
  have hp : r9 = cdB (xs (7 * t + 1)) (xs (7 * t + 2)) kd := hp
  subst hp
  refine lv_istore (lv' := [(5, .int (cdB (xs (7 * t + 1)) (xs (7 * t + 2)) kd)), (4, .int (nI (7 * t))), (0, .ref b), (1, .ref (a 0)), (2, .ref (bb 0)), (3, .ref q)]) hx hb dL_law_165 hl (by decide) rfl (fun ls hl => ?_)
  refine lv_aload_n hx hb dL_law_167 rfl (lv_at hl 4 rfl) ?_
  refine lv_aload_n hx hb dL_law_168 rfl (lv_at hl 2 rfl) ?_
  refine lv_iload hx hb dL_law_169 (lv_at hl 1 rfl) ?_
  refine lv_iconst (v := 1) hx hb dL_law_171 (by decide) ?_
  refine lv_iadd hx hb dL_law_172 ?_
  refine xi (y := nI (7 * t + 1)) (nI_add (7 * t) 1) ?_
  refine x_sld (j := (7 * t + 1)) hx hb hX hbl hbA hS (by omega) (by omega) dL_law_173 ?_
  refine lv_aload_n hx hb dL_law_174 rfl (lv_at hl 2 rfl) ?_
  refine lv_iload hx hb dL_law_175 (lv_at hl 1 rfl) ?_
  refine lv_iconst (v := 2) hx hb dL_law_177 (by decide) ?_
  refine lv_iadd hx hb dL_law_178 ?_
  refine xi (y := nI (7 * t + 2)) (nI_add (7 * t) 2) ?_
  refine x_sld (j := (7 * t + 2)) hx hb hX hbl hbA hS (by omega) (by omega) dL_law_179 ?_
  refine lv_aload_n hx hb dL_law_180 rfl (lv_at hl 2 rfl) ?_
  refine lv_iload hx hb dL_law_181 (lv_at hl 1 rfl) ?_
  refine lv_iconst (v := 3) hx hb dL_law_183 (by decide) ?_
  refine lv_iadd hx hb dL_law_184 ?_
  refine xi (y := nI (7 * t + 3)) (nI_add (7 * t) 3) ?_
  refine x_sld (j := (7 * t + 3)) hx hb hX hbl hbA hS (by omega) (by omega) dL_law_185 ?_
  refine lv_i2l (v := (xs (7 * t + 3)).toInt64) hx hb dL_law_186 rfl ?_
  refine lv_bipush (v := 32) hx hb dL_law_187 (by decide) ?_
  refine lv_lshl (v := ((xs (7 * t + 3)).toInt64) <<< ((32 : Int32).toInt64 &&& 63)) hx hb dL_law_189 rfl ?_
  refine lv_aload_n hx hb dL_law_190 rfl (lv_at hl 2 rfl) ?_
  refine lv_iload hx hb dL_law_191 (lv_at hl 1 rfl) ?_
  refine lv_iconst (v := 4) hx hb dL_law_193 (by decide) ?_
  refine lv_iadd hx hb dL_law_194 ?_
  refine xi (y := nI (7 * t + 4)) (nI_add (7 * t) 4) ?_
  refine x_sld (j := (7 * t + 4)) hx hb hX hbl hbA hS (by omega) (by omega) dL_law_195 ?_
  refine lv_i2l (v := (xs (7 * t + 4)).toInt64) hx hb dL_law_196 rfl ?_
  refine lv_ldc2 (v := 4294967295) hx hb hown (hts (.constantLong RL 51 (4294967295)) mb_112) dL_law_197 ?_
  refine lv_land hx hb dL_law_200 ?_
  refine lv_lor hx hb dL_law_201 ?_
  refine lv_aload_n hx hb dL_law_202 rfl (lv_at hl 2 rfl) ?_
  refine lv_iload hx hb dL_law_203 (lv_at hl 1 rfl) ?_
  refine lv_iconst (v := 5) hx hb dL_law_205 (by decide) ?_
  refine lv_iadd hx hb dL_law_206 ?_
  refine xi (y := nI (7 * t + 5)) (nI_add (7 * t) 5) ?_
  refine x_sld (j := (7 * t + 5)) hx hb hX hbl hbA hS (by omega) (by omega) dL_law_207 ?_
  refine lv_i2l (v := (xs (7 * t + 5)).toInt64) hx hb dL_law_208 rfl ?_
  refine lv_bipush (v := 32) hx hb dL_law_209 (by decide) ?_
  refine lv_lshl (v := ((xs (7 * t + 5)).toInt64) <<< ((32 : Int32).toInt64 &&& 63)) hx hb dL_law_211 rfl ?_
  refine lv_aload_n hx hb dL_law_212 rfl (lv_at hl 2 rfl) ?_
  refine lv_iload hx hb dL_law_213 (lv_at hl 1 rfl) ?_
  refine lv_bipush (v := 6) hx hb dL_law_215 (by decide) ?_
  refine lv_iadd hx hb dL_law_217 ?_
  refine xi (y := nI (7 * t + 6)) (nI_add (7 * t) 6) ?_
  refine x_sld (j := (7 * t + 6)) hx hb hX hbl hbA hS (by omega) (by omega) dL_law_218 ?_
  refine lv_i2l (v := (xs (7 * t + 6)).toInt64) hx hb dL_law_219 rfl ?_
  refine lv_ldc2 (v := 4294967295) hx hb hown (hts (.constantLong RL 51 (4294967295)) mb_112) dL_law_220 ?_
  refine lv_land hx hb dL_law_223 ?_
  refine lv_lor hx hb dL_law_224 ?_
  refine kn_v (wc := (wM bb g cd n K V (fun i9 => kd i9 + 1) SK SV)) (wr := (wX a k n K V (kdB (xs (7 * t + 1)) (xs (7 * t + 2)) kd) (svB (xs (7 * t + 1)) (xs (7 * t + 2)) kd (lwL (xs (7 * t + 3)) (xs (7 * t + 4))) SK) (svB (xs (7 * t + 1)) (xs (7 * t + 2)) kd (lwL (xs (7 * t + 5)) (xs (7 * t + 6))) SV) ++ wO q z o)) (w1 := (wM bb g (cdB (xs (7 * t + 1)) (xs (7 * t + 2)) kd) n K V (fun i9 => kdB (xs (7 * t + 1)) (xs (7 * t + 2)) kd i9 + 1) (svB (xs (7 * t + 1)) (xs (7 * t + 2)) kd (lwL (xs (7 * t + 3)) (xs (7 * t + 4))) SK) (svB (xs (7 * t + 1)) (xs (7 * t + 2)) kd (lwL (xs (7 * t + 5)) (xs (7 * t + 6))) SV))) (va_runV (As := [.int (xs (7 * t + 1)), .int (xs (7 * t + 2)), .long ((((xs (7 * t + 3)).toInt64) <<< ((32 : Int32).toInt64 &&& 63)) ||| (((xs (7 * t + 4)).toInt64) &&& 4294967295)), .long ((((xs (7 * t + 5)).toInt64) <<< ((32 : Int32).toInt64 &&& 63)) ||| (((xs (7 * t + 6)).toInt64) &&& 4294967295))]) (rest := []) ⟨hx, hb, hml, hown, hts⟩ (m_begin l hl9 D bb g cd n K V kd SK SV (xs (7 * t + 1)) (xs (7 * t + 2)) (lwL (xs (7 * t + 3)) (xs (7 * t + 4))) (lwL (xs (7 * t + 5)) (xs (7 * t + 6))) H.size hk) (cwV 4 hts (gd_V mb_117 mb_118 mb_119 mb_50 mb_120) rfl rfl rfl (by decide +kernel) ⟨by decide, by decide⟩) ⟨cP_blind, va_recv (q0 := 6) (ci := 1) (q := (RX1, TX1, 7)) hK hP rfl rfl, cPre hP hD hK hS hA hZ [6, 7, 8, 9, 10, 11] rfl (by decide) [5, 6, 7, 8, 9] rfl⟩ rfl rfl hl.1 rfl (lv_room (Nat.le_of_ble_eq_true rfl)) dL_law_225 ⟨by rw [rm_c]; omega, by rw [rm_s]; omega⟩) hP hD hS hA [6, 7, 8, 9, 10, 11] [0, 1, 2, 3, 4, 5, 12] rfl rfl (by decide) (by decide) (fun H locs hp hP hD hS => ?_)
  have hP := hP.sub (ws' := wX a k n K V (kdB (xs (7 * t + 1)) (xs (7 * t + 2)) kd) (svB (xs (7 * t + 1)) (xs (7 * t + 2)) kd (lwL (xs (7 * t + 3)) (xs (7 * t + 4))) SK) (svB (xs (7 * t + 1)) (xs (7 * t + 2)) kd (lwL (xs (7 * t + 5)) (xs (7 * t + 6))) SV) ++ wM bb g (cdB (xs (7 * t + 1)) (xs (7 * t + 2)) kd) n K V (fun i9 => kdB (xs (7 * t + 1)) (xs (7 * t + 2)) kd i9 + 1) (svB (xs (7 * t + 1)) (xs (7 * t + 2)) kd (lwL (xs (7 * t + 3)) (xs (7 * t + 4))) SK) (svB (xs (7 * t + 1)) (xs (7 * t + 2)) kd (lwL (xs (7 * t + 5)) (xs (7 * t + 6))) SV) ++ wO q z o) [0, 1, 2, 3, 4, 5, 7, 8, 9, 10, 11, 12, 6] rfl
  have hD := hD.sub (ws' := wX a k n K V (kdB (xs (7 * t + 1)) (xs (7 * t + 2)) kd) (svB (xs (7 * t + 1)) (xs (7 * t + 2)) kd (lwL (xs (7 * t + 3)) (xs (7 * t + 4))) SK) (svB (xs (7 * t + 1)) (xs (7 * t + 2)) kd (lwL (xs (7 * t + 5)) (xs (7 * t + 6))) SV) ++ wM bb g (cdB (xs (7 * t + 1)) (xs (7 * t + 2)) kd) n K V (fun i9 => kdB (xs (7 * t + 1)) (xs (7 * t + 2)) kd i9 + 1) (svB (xs (7 * t + 1)) (xs (7 * t + 2)) kd (lwL (xs (7 * t + 3)) (xs (7 * t + 4))) SK) (svB (xs (7 * t + 1)) (xs (7 * t + 2)) kd (lwL (xs (7 * t + 5)) (xs (7 * t + 6))) SV) ++ wO q z o) [0, 1, 2, 3, 4, 5, 7, 8, 9, 10, 11, 12, 6] (by decide) rfl
  have hP : va_P D vwCl (wX a k n K V (kdB (xs (7 * t + 1)) (xs (7 * t + 2)) kd) (svB (xs (7 * t + 1)) (xs (7 * t + 2)) kd (lwL (xs (7 * t + 3)) (xs (7 * t + 4))) SK) (svB (xs (7 * t + 1)) (xs (7 * t + 2)) kd (lwL (xs (7 * t + 5)) (xs (7 * t + 6))) SV) ++ wM bb g (cdB (xs (7 * t + 1)) (xs (7 * t + 2)) kd) n K V (fun i9 => kdB (xs (7 * t + 1)) (xs (7 * t + 2)) kd i9 + 1) (svB (xs (7 * t + 1)) (xs (7 * t + 2)) kd (lwL (xs (7 * t + 3)) (xs (7 * t + 4))) SK) (svB (xs (7 * t + 1)) (xs (7 * t + 2)) kd (lwL (xs (7 * t + 5)) (xs (7 * t + 6))) SV) ++ wO q z o) H := hP
  have hD : va_D A (wX a k n K V (kdB (xs (7 * t + 1)) (xs (7 * t + 2)) kd) (svB (xs (7 * t + 1)) (xs (7 * t + 2)) kd (lwL (xs (7 * t + 3)) (xs (7 * t + 4))) SK) (svB (xs (7 * t + 1)) (xs (7 * t + 2)) kd (lwL (xs (7 * t + 5)) (xs (7 * t + 6))) SV) ++ wM bb g (cdB (xs (7 * t + 1)) (xs (7 * t + 2)) kd) n K V (fun i9 => kdB (xs (7 * t + 1)) (xs (7 * t + 2)) kd i9 + 1) (svB (xs (7 * t + 1)) (xs (7 * t + 2)) kd (lwL (xs (7 * t + 3)) (xs (7 * t + 4))) SK) (svB (xs (7 * t + 1)) (xs (7 * t + 2)) kd (lwL (xs (7 * t + 5)) (xs (7 * t + 6))) SV) ++ wO q z o) := hD
  refine lv_aload_n hx hb dL_law_228 rfl (lv_at hl 4 rfl) ?_
  refine kn_i (wc := (wM bb g (cdB (xs (7 * t + 1)) (xs (7 * t + 2)) kd) n K V (fun i9 => kdB (xs (7 * t + 1)) (xs (7 * t + 2)) kd i9 + 1) (svB (xs (7 * t + 1)) (xs (7 * t + 2)) kd (lwL (xs (7 * t + 3)) (xs (7 * t + 4))) SK) (svB (xs (7 * t + 1)) (xs (7 * t + 2)) kd (lwL (xs (7 * t + 5)) (xs (7 * t + 6))) SV))) (wr := (wX a k n K V (kdB (xs (7 * t + 1)) (xs (7 * t + 2)) kd) (svB (xs (7 * t + 1)) (xs (7 * t + 2)) kd (lwL (xs (7 * t + 3)) (xs (7 * t + 4))) SK) (svB (xs (7 * t + 1)) (xs (7 * t + 2)) kd (lwL (xs (7 * t + 5)) (xs (7 * t + 6))) SV) ++ wO q z o)) (w1 := (wM bb g (cdB (xs (7 * t + 1)) (xs (7 * t + 2)) kd) n K V (fun i9 => kdB (xs (7 * t + 1)) (xs (7 * t + 2)) kd i9 + 1) (svB (xs (7 * t + 1)) (xs (7 * t + 2)) kd (lwL (xs (7 * t + 3)) (xs (7 * t + 4))) SK) (svB (xs (7 * t + 1)) (xs (7 * t + 2)) kd (lwL (xs (7 * t + 5)) (xs (7 * t + 6))) SV))) (va_runV (As := []) (rest := []) ⟨hx, hb, hml, hown, hts⟩ (m_thrown l hl9 D bb g (cdB (xs (7 * t + 1)) (xs (7 * t + 2)) kd) n K V (kdB (xs (7 * t + 1)) (xs (7 * t + 2)) kd) (svB (xs (7 * t + 1)) (xs (7 * t + 2)) kd (lwL (xs (7 * t + 3)) (xs (7 * t + 4))) SK) (svB (xs (7 * t + 1)) (xs (7 * t + 2)) kd (lwL (xs (7 * t + 5)) (xs (7 * t + 6))) SV) H.size) (cwV 0 hts (gd_V mb_121 mb_122 mb_123 mb_50 mb_124) rfl rfl rfl (by decide +kernel) ⟨by decide, by decide⟩) ⟨cP_blind, va_recv (q0 := 6) (ci := 1) (q := (RX1, TX1, 7)) hK hP rfl rfl, cPre hP hD hK hS hA hZ [6, 7, 8, 9, 10, 11] rfl (by decide) [5, 6, 7, 8, 9] rfl⟩ rfl rfl hl.1 rfl (lv_room (Nat.le_of_ble_eq_true rfl)) dL_law_229 ⟨by rw [rm_c]; omega, by rw [rm_s]; omega⟩) hP hD hS hA [6, 7, 8, 9, 10, 11] [0, 1, 2, 3, 4, 5, 12] rfl rfl (by decide) (by decide) (fun r9 H locs hp hP hD hS => ?_)
  have hP := hP.sub (ws' := wX a k n K V (kdB (xs (7 * t + 1)) (xs (7 * t + 2)) kd) (svB (xs (7 * t + 1)) (xs (7 * t + 2)) kd (lwL (xs (7 * t + 3)) (xs (7 * t + 4))) SK) (svB (xs (7 * t + 1)) (xs (7 * t + 2)) kd (lwL (xs (7 * t + 5)) (xs (7 * t + 6))) SV) ++ wM bb g (cdB (xs (7 * t + 1)) (xs (7 * t + 2)) kd) n K V (fun i9 => kdB (xs (7 * t + 1)) (xs (7 * t + 2)) kd i9 + 1) (svB (xs (7 * t + 1)) (xs (7 * t + 2)) kd (lwL (xs (7 * t + 3)) (xs (7 * t + 4))) SK) (svB (xs (7 * t + 1)) (xs (7 * t + 2)) kd (lwL (xs (7 * t + 5)) (xs (7 * t + 6))) SV) ++ wO q z o) [0, 1, 2, 3, 4, 5, 7, 8, 9, 10, 11, 12, 6] rfl
  have hD := hD.sub (ws' := wX a k n K V (kdB (xs (7 * t + 1)) (xs (7 * t + 2)) kd) (svB (xs (7 * t + 1)) (xs (7 * t + 2)) kd (lwL (xs (7 * t + 3)) (xs (7 * t + 4))) SK) (svB (xs (7 * t + 1)) (xs (7 * t + 2)) kd (lwL (xs (7 * t + 5)) (xs (7 * t + 6))) SV) ++ wM bb g (cdB (xs (7 * t + 1)) (xs (7 * t + 2)) kd) n K V (fun i9 => kdB (xs (7 * t + 1)) (xs (7 * t + 2)) kd i9 + 1) (svB (xs (7 * t + 1)) (xs (7 * t + 2)) kd (lwL (xs (7 * t + 3)) (xs (7 * t + 4))) SK) (svB (xs (7 * t + 1)) (xs (7 * t + 2)) kd (lwL (xs (7 * t + 5)) (xs (7 * t + 6))) SV) ++ wO q z o) [0, 1, 2, 3, 4, 5, 7, 8, 9, 10, 11, 12, 6] (by decide) rfl
  have hP : va_P D vwCl (wX a k n K V (kdB (xs (7 * t + 1)) (xs (7 * t + 2)) kd) (svB (xs (7 * t + 1)) (xs (7 * t + 2)) kd (lwL (xs (7 * t + 3)) (xs (7 * t + 4))) SK) (svB (xs (7 * t + 1)) (xs (7 * t + 2)) kd (lwL (xs (7 * t + 5)) (xs (7 * t + 6))) SV) ++ wM bb g (cdB (xs (7 * t + 1)) (xs (7 * t + 2)) kd) n K V (fun i9 => kdB (xs (7 * t + 1)) (xs (7 * t + 2)) kd i9 + 1) (svB (xs (7 * t + 1)) (xs (7 * t + 2)) kd (lwL (xs (7 * t + 3)) (xs (7 * t + 4))) SK) (svB (xs (7 * t + 1)) (xs (7 * t + 2)) kd (lwL (xs (7 * t + 5)) (xs (7 * t + 6))) SV) ++ wO q z o) H := hP
  have hD : va_D A (wX a k n K V (kdB (xs (7 * t + 1)) (xs (7 * t + 2)) kd) (svB (xs (7 * t + 1)) (xs (7 * t + 2)) kd (lwL (xs (7 * t + 3)) (xs (7 * t + 4))) SK) (svB (xs (7 * t + 1)) (xs (7 * t + 2)) kd (lwL (xs (7 * t + 5)) (xs (7 * t + 6))) SV) ++ wM bb g (cdB (xs (7 * t + 1)) (xs (7 * t + 2)) kd) n K V (fun i9 => kdB (xs (7 * t + 1)) (xs (7 * t + 2)) kd i9 + 1) (svB (xs (7 * t + 1)) (xs (7 * t + 2)) kd (lwL (xs (7 * t + 3)) (xs (7 * t + 4))) SK) (svB (xs (7 * t + 1)) (xs (7 * t + 2)) kd (lwL (xs (7 * t + 5)) (xs (7 * t + 6))) SV) ++ wO q z o) := hD
  have hp : r9 = cdB (xs (7 * t + 1)) (xs (7 * t + 2)) kd := hp
  subst hp
  refine lv_iload hx hb dL_law_232 (lv_at hl 0 rfl) ?_
  refine lv_icmp_eq (tgt := 239) hx hb dL_law_234 (by decide) (fun h1 => ?_) (fun h1 => ?_)
  · skip
    refine lv_goto (tgt := 839) hx hb dL_law_239 (by decide) ?_
    refine W.widen (k := 13 + 1 * (t + 1)) (n := 462 + 6 * (t + 1)) (by omega) (by omega) ?_
    exact nx n K V (kdB (xs (7 * t + 1)) (xs (7 * t + 2)) kd) (svB (xs (7 * t + 1)) (xs (7 * t + 2)) kd (lwL (xs (7 * t + 3)) (xs (7 * t + 4))) SK) (svB (xs (7 * t + 1)) (xs (7 * t + 2)) kd (lwL (xs (7 * t + 5)) (xs (7 * t + 6))) SV) (cdB (xs (7 * t + 1)) (xs (7 * t + 2)) kd) o H locs ls (inv_B _ _ hI) hP hD hS (lv_sub hl [1, 2, 3, 4, 5] rfl)
  · skip
    exact absurd rfl h1
set_option maxHeartbeats 1000000 in
set_option maxRecDepth 100000 in
theorem law_1 {p : Program} {e : Env} {s : State} {m : MethodId} {below : List Frame} {meth : Method} {c : Code} {l : Launch} {b L : Nat} {xs : Nat → Int32} {D : va_G} {A : Nat → Prop} {a : Nat → Nat} {k : Nat → ClassId} {bb : Nat → Nat} {g : Nat → ClassId} {q : Nat} {z : ClassId} (hl9 : l.stackTraces = false) (hx : p.tables.exec = Jvm.exec) (hb : c.code = cL_law) (hr : meth.sig.returnType = some .boolean) (hml : c.maxLocals = 8) (hlocks : meth.locks = false) (hown : s.vm.findClass RL = some m.cls) (hts : ∀ w ∈ ALL, w.before #[Value.ref b] s = true) (hX : va_X b L xs s s.heap) (hbl : b < s.heap.size) (hbA : ¬ A b) (hK : va_K D vwCl (tX k ++ tM g ++ tO z) s) (hZ : zx A s s.heap) (hA : ∀ q : Nat, s.heap.size ≤ q → A q) (hL : L ≤ 3584) (t : Nat) (ht : 7 * t + 7 ≤ L) (n : Nat) (K V : Nat → Int64) (kd : Nat → Int32) (SK SV : Nat → Int64) (cd : Int32) (o : Nat → Int64) (H : Heap) (locs : List Loc) (ls : Array Slot) (hI : inv n K kd) (hP : va_P D vwCl (wX a k n K V kd SK SV ++ wM bb g cd n K V (fun i9 => kd i9 + 1) SK SV ++ wO q z o) H) (hD : va_D A (wX a k n K V kd SK SV ++ wM bb g cd n K V (fun i9 => kd i9 + 1) SK SV ++ wO q z o)) (hS : va_S A s.heap H locs) (hl : lv_has ls 8 [(4, .int (nI (7 * t))), (0, .ref b), (1, .ref (a 0)), (2, .ref (bb 0)), (3, .ref q)])
    (nx : ∀ (n : Nat) (K V : Nat → Int64) (kd : Nat → Int32) (SK SV : Nat → Int64) (cd : Int32) (o : Nat → Int64) (H : Heap) (locs : List Loc) (ls : Array Slot), inv n K kd → va_P D vwCl (wX a k n K V kd SK SV ++ wM bb g cd n K V (fun i9 => kd i9 + 1) SK SV ++ wO q z o) H → va_D A (wX a k n K V kd SK SV ++ wM bb g cd n K V (fun i9 => kd i9 + 1) SK SV ++ wO q z o) → va_S A s.heap H locs → lv_has ls 8 [(4, .int (nI (7 * t))), (0, .ref b), (1, .ref (a 0)), (2, .ref (bb 0)), (3, .ref q)] → W p l e room_1 s m #[Value.ref b] below meth c H locs (13 + 1 * (t + 1)) (462 + 6 * (t + 1)) (lw_Z below #[Value.ref b] s) (F0 m 839 ls [])) :
    W p l e room_1 s m #[Value.ref b] below meth c H locs (13 + 1 * t) (462 + 6 * t) (lw_Z below #[Value.ref b] s) (F0 m 242 ls []) := by
  have hn := hI.1
  have hk := hI.2.2
  refine lv_aload_n hx hb dL_law_242 rfl (lv_at hl 2 rfl) ?_
  refine lv_aload_n hx hb dL_law_243 rfl (lv_at hl 1 rfl) ?_
  refine lv_iload hx hb dL_law_244 (lv_at hl 0 rfl) ?_
  refine lv_iconst (v := 1) hx hb dL_law_246 (by decide) ?_
  refine lv_iadd hx hb dL_law_247 ?_
  refine xi (y := nI (7 * t + 1)) (nI_add (7 * t) 1) ?_
  refine x_sld (j := (7 * t + 1)) hx hb hX hbl hbA hS (by omega) (by omega) dL_law_248 ?_
  refine lv_aload_n hx hb dL_law_249 rfl (lv_at hl 1 rfl) ?_
  refine lv_iload hx hb dL_law_250 (lv_at hl 0 rfl) ?_
  refine lv_iconst (v := 2) hx hb dL_law_252 (by decide) ?_
  refine lv_iadd hx hb dL_law_253 ?_
  refine xi (y := nI (7 * t + 2)) (nI_add (7 * t) 2) ?_
  refine x_sld (j := (7 * t + 2)) hx hb hX hbl hbA hS (by omega) (by omega) dL_law_254 ?_
  refine kn_i (wc := (wX a k n K V kd SK SV)) (wr := (wM bb g cd n K V (fun i9 => kd i9 + 1) SK SV ++ wO q z o)) (w1 := (wX a k n K V kd SK SV)) (vx_runSW (As := [.ref (a 0), .int (xs (7 * t + 1)), .int (xs (7 * t + 2))]) (rest := []) ⟨hx, hb, hml, hown, hts⟩ (h_step l hl9 D a k n K V kd SK SV (xs (7 * t + 1)) (xs (7 * t + 2)) H.size) (vx_cwSW (hh := [(0, 6, 9, 13), (0, 6, 12, 15)]) 3 hts (gd_S mb_125 mb_126 mb_115 mb_127) rfl rfl rfl (by decide +kernel) ⟨by decide, by decide⟩) ⟨cP_blind, cPre hP hD hK hS hA hZ [0, 1, 2, 3, 4, 5] rfl (by decide) [0, 1, 2, 3, 4] rfl⟩ rfl rfl hl.1 rfl (lv_room (Nat.le_of_ble_eq_true rfl)) dL_law_255 ⟨by rw [rm_c]; omega, by rw [rm_s]; omega⟩) hP hD hS hA [0, 1, 2, 3, 4, 5] [6, 7, 8, 9, 10, 11, 12] rfl rfl (by decide) (by decide) (fun r9 H locs hp hP hD hS => ?_)
  have hP := hP.sub (ws' := wX a k n K V kd SK SV ++ wM bb g cd n K V (fun i9 => kd i9 + 1) SK SV ++ wO q z o) [7, 8, 9, 10, 11, 12, 0, 1, 2, 3, 4, 5, 6] rfl
  have hD := hD.sub (ws' := wX a k n K V kd SK SV ++ wM bb g cd n K V (fun i9 => kd i9 + 1) SK SV ++ wO q z o) [7, 8, 9, 10, 11, 12, 0, 1, 2, 3, 4, 5, 6] (by decide) rfl
  have hP : va_P D vwCl (wX a k n K V kd SK SV ++ wM bb g cd n K V (fun i9 => kd i9 + 1) SK SV ++ wO q z o) H := hP
  have hD : va_D A (wX a k n K V kd SK SV ++ wM bb g cd n K V (fun i9 => kd i9 + 1) SK SV ++ wO q z o) := hD
  have hp : r9 = cdT (xs (7 * t + 1)) (xs (7 * t + 2)) kd := hp
  subst hp
  refine lv_istore (lv' := [(5, .int (cdT (xs (7 * t + 1)) (xs (7 * t + 2)) kd)), (4, .int (nI (7 * t))), (0, .ref b), (1, .ref (a 0)), (2, .ref (bb 0)), (3, .ref q)]) hx hb dL_law_258 hl (by decide) rfl (fun ls hl => ?_)
  refine lv_aload_n hx hb dL_law_260 rfl (lv_at hl 4 rfl) ?_
  refine lv_aload_n hx hb dL_law_261 rfl (lv_at hl 2 rfl) ?_
  refine lv_iload hx hb dL_law_262 (lv_at hl 1 rfl) ?_
  refine lv_iconst (v := 1) hx hb dL_law_264 (by decide) ?_
  refine lv_iadd hx hb dL_law_265 ?_
  refine xi (y := nI (7 * t + 1)) (nI_add (7 * t) 1) ?_
  refine x_sld (j := (7 * t + 1)) hx hb hX hbl hbA hS (by omega) (by omega) dL_law_266 ?_
  refine lv_aload_n hx hb dL_law_267 rfl (lv_at hl 2 rfl) ?_
  refine lv_iload hx hb dL_law_268 (lv_at hl 1 rfl) ?_
  refine lv_iconst (v := 2) hx hb dL_law_270 (by decide) ?_
  refine lv_iadd hx hb dL_law_271 ?_
  refine xi (y := nI (7 * t + 2)) (nI_add (7 * t) 2) ?_
  refine x_sld (j := (7 * t + 2)) hx hb hX hbl hbA hS (by omega) (by omega) dL_law_272 ?_
  refine kn_v (wc := (wM bb g cd n K V (fun i9 => kd i9 + 1) SK SV)) (wr := (wX a k n K V kd SK SV ++ wO q z o)) (w1 := (wM bb g (cdT (xs (7 * t + 1)) (xs (7 * t + 2)) kd) n K V (fun i9 => kd i9 + 1) SK SV)) (va_runV (As := [.int (xs (7 * t + 1)), .int (xs (7 * t + 2))]) (rest := []) ⟨hx, hb, hml, hown, hts⟩ (m_step l hl9 D bb g cd n K V kd SK SV (xs (7 * t + 1)) (xs (7 * t + 2)) H.size hk) (cwV 2 hts (gd_V mb_128 mb_129 mb_130 mb_50 mb_131) rfl rfl rfl (by decide +kernel) ⟨by decide, by decide⟩) ⟨cP_blind, va_recv (q0 := 6) (ci := 1) (q := (RX1, TX1, 7)) hK hP rfl rfl, cPre hP hD hK hS hA hZ [6, 7, 8, 9, 10, 11] rfl (by decide) [5, 6, 7, 8, 9] rfl⟩ rfl rfl hl.1 rfl (lv_room (Nat.le_of_ble_eq_true rfl)) dL_law_273 ⟨by rw [rm_c]; omega, by rw [rm_s]; omega⟩) hP hD hS hA [6, 7, 8, 9, 10, 11] [0, 1, 2, 3, 4, 5, 12] rfl rfl (by decide) (by decide) (fun H locs hp hP hD hS => ?_)
  have hP := hP.sub (ws' := wX a k n K V kd SK SV ++ wM bb g (cdT (xs (7 * t + 1)) (xs (7 * t + 2)) kd) n K V (fun i9 => kd i9 + 1) SK SV ++ wO q z o) [0, 1, 2, 3, 4, 5, 7, 8, 9, 10, 11, 12, 6] rfl
  have hD := hD.sub (ws' := wX a k n K V kd SK SV ++ wM bb g (cdT (xs (7 * t + 1)) (xs (7 * t + 2)) kd) n K V (fun i9 => kd i9 + 1) SK SV ++ wO q z o) [0, 1, 2, 3, 4, 5, 7, 8, 9, 10, 11, 12, 6] (by decide) rfl
  have hP : va_P D vwCl (wX a k n K V kd SK SV ++ wM bb g (cdT (xs (7 * t + 1)) (xs (7 * t + 2)) kd) n K V (fun i9 => kd i9 + 1) SK SV ++ wO q z o) H := hP
  have hD : va_D A (wX a k n K V kd SK SV ++ wM bb g (cdT (xs (7 * t + 1)) (xs (7 * t + 2)) kd) n K V (fun i9 => kd i9 + 1) SK SV ++ wO q z o) := hD
  refine lv_aload_n hx hb dL_law_276 rfl (lv_at hl 4 rfl) ?_
  refine kn_i (wc := (wM bb g (cdT (xs (7 * t + 1)) (xs (7 * t + 2)) kd) n K V (fun i9 => kd i9 + 1) SK SV)) (wr := (wX a k n K V kd SK SV ++ wO q z o)) (w1 := (wM bb g (cdT (xs (7 * t + 1)) (xs (7 * t + 2)) kd) n K V (fun i9 => kd i9 + 1) SK SV)) (va_runV (As := []) (rest := []) ⟨hx, hb, hml, hown, hts⟩ (m_thrown l hl9 D bb g (cdT (xs (7 * t + 1)) (xs (7 * t + 2)) kd) n K V kd SK SV H.size) (cwV 0 hts (gd_V mb_121 mb_122 mb_123 mb_50 mb_124) rfl rfl rfl (by decide +kernel) ⟨by decide, by decide⟩) ⟨cP_blind, va_recv (q0 := 6) (ci := 1) (q := (RX1, TX1, 7)) hK hP rfl rfl, cPre hP hD hK hS hA hZ [6, 7, 8, 9, 10, 11] rfl (by decide) [5, 6, 7, 8, 9] rfl⟩ rfl rfl hl.1 rfl (lv_room (Nat.le_of_ble_eq_true rfl)) dL_law_277 ⟨by rw [rm_c]; omega, by rw [rm_s]; omega⟩) hP hD hS hA [6, 7, 8, 9, 10, 11] [0, 1, 2, 3, 4, 5, 12] rfl rfl (by decide) (by decide) (fun r9 H locs hp hP hD hS => ?_)
  have hP := hP.sub (ws' := wX a k n K V kd SK SV ++ wM bb g (cdT (xs (7 * t + 1)) (xs (7 * t + 2)) kd) n K V (fun i9 => kd i9 + 1) SK SV ++ wO q z o) [0, 1, 2, 3, 4, 5, 7, 8, 9, 10, 11, 12, 6] rfl
  have hD := hD.sub (ws' := wX a k n K V kd SK SV ++ wM bb g (cdT (xs (7 * t + 1)) (xs (7 * t + 2)) kd) n K V (fun i9 => kd i9 + 1) SK SV ++ wO q z o) [0, 1, 2, 3, 4, 5, 7, 8, 9, 10, 11, 12, 6] (by decide) rfl
  have hP : va_P D vwCl (wX a k n K V kd SK SV ++ wM bb g (cdT (xs (7 * t + 1)) (xs (7 * t + 2)) kd) n K V (fun i9 => kd i9 + 1) SK SV ++ wO q z o) H := hP
  have hD : va_D A (wX a k n K V kd SK SV ++ wM bb g (cdT (xs (7 * t + 1)) (xs (7 * t + 2)) kd) n K V (fun i9 => kd i9 + 1) SK SV ++ wO q z o) := hD
  have hp : r9 = cdT (xs (7 * t + 1)) (xs (7 * t + 2)) kd := hp
  subst hp
  refine lv_iload hx hb dL_law_280 (lv_at hl 0 rfl) ?_
  refine lv_icmp_eq (tgt := 287) hx hb dL_law_282 (by decide) (fun h1 => ?_) (fun h1 => ?_)
  · skip
    refine lv_goto (tgt := 839) hx hb dL_law_287 (by decide) ?_
    refine W.widen (k := 13 + 1 * (t + 1)) (n := 462 + 6 * (t + 1)) (by omega) (by omega) ?_
    exact nx n K V kd SK SV (cdT (xs (7 * t + 1)) (xs (7 * t + 2)) kd) o H locs ls hI hP hD hS (lv_sub hl [1, 2, 3, 4, 5] rfl)
  · skip
    exact absurd rfl h1
set_option maxHeartbeats 1000000 in
set_option maxRecDepth 100000 in
theorem law_2 {p : Program} {e : Env} {s : State} {m : MethodId} {below : List Frame} {meth : Method} {c : Code} {l : Launch} {b L : Nat} {xs : Nat → Int32} {D : va_G} {A : Nat → Prop} {a : Nat → Nat} {k : Nat → ClassId} {bb : Nat → Nat} {g : Nat → ClassId} {q : Nat} {z : ClassId} (hl9 : l.stackTraces = false) (hx : p.tables.exec = Jvm.exec) (hb : c.code = cL_law) (hr : meth.sig.returnType = some .boolean) (hml : c.maxLocals = 8) (hlocks : meth.locks = false) (hown : s.vm.findClass RL = some m.cls) (hts : ∀ w ∈ ALL, w.before #[Value.ref b] s = true) (hX : va_X b L xs s s.heap) (hbl : b < s.heap.size) (hbA : ¬ A b) (hK : va_K D vwCl (tX k ++ tM g ++ tO z) s) (hZ : zx A s s.heap) (hA : ∀ q : Nat, s.heap.size ≤ q → A q) (hL : L ≤ 3584) (t : Nat) (ht : 7 * t + 7 ≤ L) (n : Nat) (K V : Nat → Int64) (kd : Nat → Int32) (SK SV : Nat → Int64) (cd : Int32) (o : Nat → Int64) (H : Heap) (locs : List Loc) (ls : Array Slot) (hI : inv n K kd) (hP : va_P D vwCl (wX a k n K V kd SK SV ++ wM bb g cd n K V (fun i9 => kd i9 + 1) SK SV ++ wO q z o) H) (hD : va_D A (wX a k n K V kd SK SV ++ wM bb g cd n K V (fun i9 => kd i9 + 1) SK SV ++ wO q z o)) (hS : va_S A s.heap H locs) (hl : lv_has ls 8 [(4, .int (nI (7 * t))), (0, .ref b), (1, .ref (a 0)), (2, .ref (bb 0)), (3, .ref q)])
    (nx : ∀ (n : Nat) (K V : Nat → Int64) (kd : Nat → Int32) (SK SV : Nat → Int64) (cd : Int32) (o : Nat → Int64) (H : Heap) (locs : List Loc) (ls : Array Slot), inv n K kd → va_P D vwCl (wX a k n K V kd SK SV ++ wM bb g cd n K V (fun i9 => kd i9 + 1) SK SV ++ wO q z o) H → va_D A (wX a k n K V kd SK SV ++ wM bb g cd n K V (fun i9 => kd i9 + 1) SK SV ++ wO q z o) → va_S A s.heap H locs → lv_has ls 8 [(4, .int (nI (7 * t))), (0, .ref b), (1, .ref (a 0)), (2, .ref (bb 0)), (3, .ref q)] → W p l e room_1 s m #[Value.ref b] below meth c H locs (13 + 1 * (t + 1)) (462 + 6 * (t + 1)) (lw_Z below #[Value.ref b] s) (F0 m 839 ls [])) :
    W p l e room_1 s m #[Value.ref b] below meth c H locs (13 + 1 * t) (462 + 6 * t) (lw_Z below #[Value.ref b] s) (F0 m 290 ls []) := by
  have hn := hI.1
  have hk := hI.2.2
  refine lv_aload_n hx hb dL_law_290 rfl (lv_at hl 2 rfl) ?_
  refine lv_aload_n hx hb dL_law_291 rfl (lv_at hl 1 rfl) ?_
  refine lv_iload hx hb dL_law_292 (lv_at hl 0 rfl) ?_
  refine lv_iconst (v := 1) hx hb dL_law_294 (by decide) ?_
  refine lv_iadd hx hb dL_law_295 ?_
  refine xi (y := nI (7 * t + 1)) (nI_add (7 * t) 1) ?_
  refine x_sld (j := (7 * t + 1)) hx hb hX hbl hbA hS (by omega) (by omega) dL_law_296 ?_
  refine lv_aload_n hx hb dL_law_297 rfl (lv_at hl 4 rfl) ?_
  refine kn_i (wc := (wX a k n K V kd SK SV ++ wO q z o)) (wr := (wM bb g cd n K V (fun i9 => kd i9 + 1) SK SV)) (w1 := (wX a k ((fin n K V kd SK SV (xs (7 * t + 1))).2.2.1) ((fin n K V kd SK SV (xs (7 * t + 1))).2.2.2.1) ((fin n K V kd SK SV (xs (7 * t + 1))).2.2.2.2.1) ((fin n K V kd SK SV (xs (7 * t + 1))).2.2.2.2.2) SK SV ++ wO q z (oS (fin n K V kd SK SV (xs (7 * t + 1))).1 (fin n K V kd SK SV (xs (7 * t + 1))).2.1 o))) (vx_runSW (As := [.ref (a 0), .int (xs (7 * t + 1)), .ref q]) (rest := []) ⟨hx, hb, hml, hown, hts⟩ (h_finish l hl9 D a k n K V kd SK SV (xs (7 * t + 1)) q z o H.size hn) (vx_cwSW (hh := [(0, 8, 11, 13), (0, 8, 14, 15), (0, 8, 17, 25)]) 3 hts (gd_S mb_132 mb_133 mb_115 mb_134) rfl rfl rfl (by decide +kernel) ⟨by decide, by decide⟩) ⟨cP_blind, cPre hP hD hK hS hA hZ [0, 1, 2, 3, 4, 5, 12] rfl (by decide) [0, 1, 2, 3, 4, 10] rfl⟩ rfl rfl hl.1 rfl (lv_room (Nat.le_of_ble_eq_true rfl)) dL_law_298 ⟨by rw [rm_c]; omega, by rw [rm_s]; omega⟩) hP hD hS hA [0, 1, 2, 3, 4, 5, 12] [6, 7, 8, 9, 10, 11] rfl rfl (by decide) (by decide) (fun r9 H locs hp hP hD hS => ?_)
  have hP := hP.sub (ws' := wX a k ((fin n K V kd SK SV (xs (7 * t + 1))).2.2.1) ((fin n K V kd SK SV (xs (7 * t + 1))).2.2.2.1) ((fin n K V kd SK SV (xs (7 * t + 1))).2.2.2.2.1) ((fin n K V kd SK SV (xs (7 * t + 1))).2.2.2.2.2) SK SV ++ wM bb g cd n K V (fun i9 => kd i9 + 1) SK SV ++ wO q z (oS (fin n K V kd SK SV (xs (7 * t + 1))).1 (fin n K V kd SK SV (xs (7 * t + 1))).2.1 o)) [6, 7, 8, 9, 10, 11, 0, 1, 2, 3, 4, 5, 12] rfl
  have hD := hD.sub (ws' := wX a k ((fin n K V kd SK SV (xs (7 * t + 1))).2.2.1) ((fin n K V kd SK SV (xs (7 * t + 1))).2.2.2.1) ((fin n K V kd SK SV (xs (7 * t + 1))).2.2.2.2.1) ((fin n K V kd SK SV (xs (7 * t + 1))).2.2.2.2.2) SK SV ++ wM bb g cd n K V (fun i9 => kd i9 + 1) SK SV ++ wO q z (oS (fin n K V kd SK SV (xs (7 * t + 1))).1 (fin n K V kd SK SV (xs (7 * t + 1))).2.1 o)) [6, 7, 8, 9, 10, 11, 0, 1, 2, 3, 4, 5, 12] (by decide) rfl
  have hP : va_P D vwCl (wX a k ((fin n K V kd SK SV (xs (7 * t + 1))).2.2.1) ((fin n K V kd SK SV (xs (7 * t + 1))).2.2.2.1) ((fin n K V kd SK SV (xs (7 * t + 1))).2.2.2.2.1) ((fin n K V kd SK SV (xs (7 * t + 1))).2.2.2.2.2) SK SV ++ wM bb g cd n K V (fun i9 => kd i9 + 1) SK SV ++ wO q z (oS (fin n K V kd SK SV (xs (7 * t + 1))).1 (fin n K V kd SK SV (xs (7 * t + 1))).2.1 o)) H := hP
  have hD : va_D A (wX a k ((fin n K V kd SK SV (xs (7 * t + 1))).2.2.1) ((fin n K V kd SK SV (xs (7 * t + 1))).2.2.2.1) ((fin n K V kd SK SV (xs (7 * t + 1))).2.2.2.2.1) ((fin n K V kd SK SV (xs (7 * t + 1))).2.2.2.2.2) SK SV ++ wM bb g cd n K V (fun i9 => kd i9 + 1) SK SV ++ wO q z (oS (fin n K V kd SK SV (xs (7 * t + 1))).1 (fin n K V kd SK SV (xs (7 * t + 1))).2.1 o)) := hD
  have hp : r9 = (fin n K V kd SK SV (xs (7 * t + 1))).1 := hp
  subst hp
  refine lv_istore (lv' := [(5, .int ((fin n K V kd SK SV (xs (7 * t + 1))).1)), (4, .int (nI (7 * t))), (0, .ref b), (1, .ref (a 0)), (2, .ref (bb 0)), (3, .ref q)]) hx hb dL_law_301 hl (by decide) rfl (fun ls hl => ?_)
  refine lv_aload_n hx hb dL_law_303 rfl (lv_at hl 4 rfl) ?_
  refine lv_aload_n hx hb dL_law_304 rfl (lv_at hl 2 rfl) ?_
  refine lv_iload hx hb dL_law_305 (lv_at hl 1 rfl) ?_
  refine lv_iconst (v := 1) hx hb dL_law_307 (by decide) ?_
  refine lv_iadd hx hb dL_law_308 ?_
  refine xi (y := nI (7 * t + 1)) (nI_add (7 * t) 1) ?_
  refine x_sld (j := (7 * t + 1)) hx hb hX hbl hbA hS (by omega) (by omega) dL_law_309 ?_
  refine kn_l (wc := (wM bb g cd n K V (fun i9 => kd i9 + 1) SK SV)) (wr := (wX a k ((fin n K V kd SK SV (xs (7 * t + 1))).2.2.1) ((fin n K V kd SK SV (xs (7 * t + 1))).2.2.2.1) ((fin n K V kd SK SV (xs (7 * t + 1))).2.2.2.2.1) ((fin n K V kd SK SV (xs (7 * t + 1))).2.2.2.2.2) SK SV ++ wO q z (oS (fin n K V kd SK SV (xs (7 * t + 1))).1 (fin n K V kd SK SV (xs (7 * t + 1))).2.1 o))) (w1 := (wM bb g ((fin n K V kd SK SV (xs (7 * t + 1))).1) ((fin n K V kd SK SV (xs (7 * t + 1))).2.2.1) ((fin n K V kd SK SV (xs (7 * t + 1))).2.2.2.1) ((fin n K V kd SK SV (xs (7 * t + 1))).2.2.2.2.1) (fun i9 => (fin n K V kd SK SV (xs (7 * t + 1))).2.2.2.2.2 i9 + 1) SK SV)) (va_runV (As := [.int (xs (7 * t + 1))]) (rest := []) ⟨hx, hb, hml, hown, hts⟩ (m_finish l hl9 D bb g cd n K V kd SK SV (xs (7 * t + 1)) H.size hn hk) (cwV 1 hts (gd_V mb_135 mb_136 mb_137 mb_50 mb_138) rfl rfl rfl (by decide +kernel) ⟨by decide, by decide⟩) ⟨cP_blind, va_recv (q0 := 6) (ci := 1) (q := (RX1, TX1, 7)) hK hP rfl rfl, cPre hP hD hK hS hA hZ [6, 7, 8, 9, 10, 11] rfl (by decide) [5, 6, 7, 8, 9] rfl⟩ rfl rfl hl.1 rfl (lv_room (Nat.le_of_ble_eq_true rfl)) dL_law_310 ⟨by rw [rm_c]; omega, by rw [rm_s]; omega⟩) hP hD hS hA [6, 7, 8, 9, 10, 11] [0, 1, 2, 3, 4, 5, 12] rfl rfl (by decide) (by decide) (fun r9 H locs hp hP hD hS => ?_)
  have hP := hP.sub (ws' := wX a k ((fin n K V kd SK SV (xs (7 * t + 1))).2.2.1) ((fin n K V kd SK SV (xs (7 * t + 1))).2.2.2.1) ((fin n K V kd SK SV (xs (7 * t + 1))).2.2.2.2.1) ((fin n K V kd SK SV (xs (7 * t + 1))).2.2.2.2.2) SK SV ++ wM bb g ((fin n K V kd SK SV (xs (7 * t + 1))).1) ((fin n K V kd SK SV (xs (7 * t + 1))).2.2.1) ((fin n K V kd SK SV (xs (7 * t + 1))).2.2.2.1) ((fin n K V kd SK SV (xs (7 * t + 1))).2.2.2.2.1) (fun i9 => (fin n K V kd SK SV (xs (7 * t + 1))).2.2.2.2.2 i9 + 1) SK SV ++ wO q z (oS (fin n K V kd SK SV (xs (7 * t + 1))).1 (fin n K V kd SK SV (xs (7 * t + 1))).2.1 o)) [0, 1, 2, 3, 4, 5, 7, 8, 9, 10, 11, 12, 6] rfl
  have hD := hD.sub (ws' := wX a k ((fin n K V kd SK SV (xs (7 * t + 1))).2.2.1) ((fin n K V kd SK SV (xs (7 * t + 1))).2.2.2.1) ((fin n K V kd SK SV (xs (7 * t + 1))).2.2.2.2.1) ((fin n K V kd SK SV (xs (7 * t + 1))).2.2.2.2.2) SK SV ++ wM bb g ((fin n K V kd SK SV (xs (7 * t + 1))).1) ((fin n K V kd SK SV (xs (7 * t + 1))).2.2.1) ((fin n K V kd SK SV (xs (7 * t + 1))).2.2.2.1) ((fin n K V kd SK SV (xs (7 * t + 1))).2.2.2.2.1) (fun i9 => (fin n K V kd SK SV (xs (7 * t + 1))).2.2.2.2.2 i9 + 1) SK SV ++ wO q z (oS (fin n K V kd SK SV (xs (7 * t + 1))).1 (fin n K V kd SK SV (xs (7 * t + 1))).2.1 o)) [0, 1, 2, 3, 4, 5, 7, 8, 9, 10, 11, 12, 6] (by decide) rfl
  have hP : va_P D vwCl (wX a k ((fin n K V kd SK SV (xs (7 * t + 1))).2.2.1) ((fin n K V kd SK SV (xs (7 * t + 1))).2.2.2.1) ((fin n K V kd SK SV (xs (7 * t + 1))).2.2.2.2.1) ((fin n K V kd SK SV (xs (7 * t + 1))).2.2.2.2.2) SK SV ++ wM bb g ((fin n K V kd SK SV (xs (7 * t + 1))).1) ((fin n K V kd SK SV (xs (7 * t + 1))).2.2.1) ((fin n K V kd SK SV (xs (7 * t + 1))).2.2.2.1) ((fin n K V kd SK SV (xs (7 * t + 1))).2.2.2.2.1) (fun i9 => (fin n K V kd SK SV (xs (7 * t + 1))).2.2.2.2.2 i9 + 1) SK SV ++ wO q z (oS (fin n K V kd SK SV (xs (7 * t + 1))).1 (fin n K V kd SK SV (xs (7 * t + 1))).2.1 o)) H := hP
  have hD : va_D A (wX a k ((fin n K V kd SK SV (xs (7 * t + 1))).2.2.1) ((fin n K V kd SK SV (xs (7 * t + 1))).2.2.2.1) ((fin n K V kd SK SV (xs (7 * t + 1))).2.2.2.2.1) ((fin n K V kd SK SV (xs (7 * t + 1))).2.2.2.2.2) SK SV ++ wM bb g ((fin n K V kd SK SV (xs (7 * t + 1))).1) ((fin n K V kd SK SV (xs (7 * t + 1))).2.2.1) ((fin n K V kd SK SV (xs (7 * t + 1))).2.2.2.1) ((fin n K V kd SK SV (xs (7 * t + 1))).2.2.2.2.1) (fun i9 => (fin n K V kd SK SV (xs (7 * t + 1))).2.2.2.2.2 i9 + 1) SK SV ++ wO q z (oS (fin n K V kd SK SV (xs (7 * t + 1))).1 (fin n K V kd SK SV (xs (7 * t + 1))).2.1 o)) := hD
  have hp0 := hp
  generalize r9 = v9 at hp0 ⊢
  refine lv_lstore (lv' := [(6, .long v9), (5, .int ((fin n K V kd SK SV (xs (7 * t + 1))).1)), (4, .int (nI (7 * t))), (0, .ref b), (1, .ref (a 0)), (2, .ref (bb 0)), (3, .ref q)]) hx hb dL_law_313 hl (by decide) rfl (fun ls hl => ?_)
  refine lv_aload_n hx hb dL_law_315 rfl (lv_at hl 5 rfl) ?_
  refine kn_i (wc := (wM bb g ((fin n K V kd SK SV (xs (7 * t + 1))).1) ((fin n K V kd SK SV (xs (7 * t + 1))).2.2.1) ((fin n K V kd SK SV (xs (7 * t + 1))).2.2.2.1) ((fin n K V kd SK SV (xs (7 * t + 1))).2.2.2.2.1) (fun i9 => (fin n K V kd SK SV (xs (7 * t + 1))).2.2.2.2.2 i9 + 1) SK SV)) (wr := (wX a k ((fin n K V kd SK SV (xs (7 * t + 1))).2.2.1) ((fin n K V kd SK SV (xs (7 * t + 1))).2.2.2.1) ((fin n K V kd SK SV (xs (7 * t + 1))).2.2.2.2.1) ((fin n K V kd SK SV (xs (7 * t + 1))).2.2.2.2.2) SK SV ++ wO q z (oS (fin n K V kd SK SV (xs (7 * t + 1))).1 (fin n K V kd SK SV (xs (7 * t + 1))).2.1 o))) (w1 := (wM bb g ((fin n K V kd SK SV (xs (7 * t + 1))).1) ((fin n K V kd SK SV (xs (7 * t + 1))).2.2.1) ((fin n K V kd SK SV (xs (7 * t + 1))).2.2.2.1) ((fin n K V kd SK SV (xs (7 * t + 1))).2.2.2.2.1) (fun i9 => (fin n K V kd SK SV (xs (7 * t + 1))).2.2.2.2.2 i9 + 1) SK SV)) (va_runV (As := []) (rest := []) ⟨hx, hb, hml, hown, hts⟩ (m_thrown l hl9 D bb g (fin n K V kd SK SV (xs (7 * t + 1))).1 (fin n K V kd SK SV (xs (7 * t + 1))).2.2.1 (fin n K V kd SK SV (xs (7 * t + 1))).2.2.2.1 (fin n K V kd SK SV (xs (7 * t + 1))).2.2.2.2.1 (fin n K V kd SK SV (xs (7 * t + 1))).2.2.2.2.2 SK SV H.size) (cwV 0 hts (gd_V mb_121 mb_122 mb_123 mb_50 mb_124) rfl rfl rfl (by decide +kernel) ⟨by decide, by decide⟩) ⟨cP_blind, va_recv (q0 := 6) (ci := 1) (q := (RX1, TX1, 7)) hK hP rfl rfl, cPre hP hD hK hS hA hZ [6, 7, 8, 9, 10, 11] rfl (by decide) [5, 6, 7, 8, 9] rfl⟩ rfl rfl hl.1 rfl (lv_room (Nat.le_of_ble_eq_true rfl)) dL_law_316 ⟨by rw [rm_c]; omega, by rw [rm_s]; omega⟩) hP hD hS hA [6, 7, 8, 9, 10, 11] [0, 1, 2, 3, 4, 5, 12] rfl rfl (by decide) (by decide) (fun r9 H locs hp hP hD hS => ?_)
  have hP := hP.sub (ws' := wX a k ((fin n K V kd SK SV (xs (7 * t + 1))).2.2.1) ((fin n K V kd SK SV (xs (7 * t + 1))).2.2.2.1) ((fin n K V kd SK SV (xs (7 * t + 1))).2.2.2.2.1) ((fin n K V kd SK SV (xs (7 * t + 1))).2.2.2.2.2) SK SV ++ wM bb g ((fin n K V kd SK SV (xs (7 * t + 1))).1) ((fin n K V kd SK SV (xs (7 * t + 1))).2.2.1) ((fin n K V kd SK SV (xs (7 * t + 1))).2.2.2.1) ((fin n K V kd SK SV (xs (7 * t + 1))).2.2.2.2.1) (fun i9 => (fin n K V kd SK SV (xs (7 * t + 1))).2.2.2.2.2 i9 + 1) SK SV ++ wO q z (oS (fin n K V kd SK SV (xs (7 * t + 1))).1 (fin n K V kd SK SV (xs (7 * t + 1))).2.1 o)) [0, 1, 2, 3, 4, 5, 7, 8, 9, 10, 11, 12, 6] rfl
  have hD := hD.sub (ws' := wX a k ((fin n K V kd SK SV (xs (7 * t + 1))).2.2.1) ((fin n K V kd SK SV (xs (7 * t + 1))).2.2.2.1) ((fin n K V kd SK SV (xs (7 * t + 1))).2.2.2.2.1) ((fin n K V kd SK SV (xs (7 * t + 1))).2.2.2.2.2) SK SV ++ wM bb g ((fin n K V kd SK SV (xs (7 * t + 1))).1) ((fin n K V kd SK SV (xs (7 * t + 1))).2.2.1) ((fin n K V kd SK SV (xs (7 * t + 1))).2.2.2.1) ((fin n K V kd SK SV (xs (7 * t + 1))).2.2.2.2.1) (fun i9 => (fin n K V kd SK SV (xs (7 * t + 1))).2.2.2.2.2 i9 + 1) SK SV ++ wO q z (oS (fin n K V kd SK SV (xs (7 * t + 1))).1 (fin n K V kd SK SV (xs (7 * t + 1))).2.1 o)) [0, 1, 2, 3, 4, 5, 7, 8, 9, 10, 11, 12, 6] (by decide) rfl
  have hP : va_P D vwCl (wX a k ((fin n K V kd SK SV (xs (7 * t + 1))).2.2.1) ((fin n K V kd SK SV (xs (7 * t + 1))).2.2.2.1) ((fin n K V kd SK SV (xs (7 * t + 1))).2.2.2.2.1) ((fin n K V kd SK SV (xs (7 * t + 1))).2.2.2.2.2) SK SV ++ wM bb g ((fin n K V kd SK SV (xs (7 * t + 1))).1) ((fin n K V kd SK SV (xs (7 * t + 1))).2.2.1) ((fin n K V kd SK SV (xs (7 * t + 1))).2.2.2.1) ((fin n K V kd SK SV (xs (7 * t + 1))).2.2.2.2.1) (fun i9 => (fin n K V kd SK SV (xs (7 * t + 1))).2.2.2.2.2 i9 + 1) SK SV ++ wO q z (oS (fin n K V kd SK SV (xs (7 * t + 1))).1 (fin n K V kd SK SV (xs (7 * t + 1))).2.1 o)) H := hP
  have hD : va_D A (wX a k ((fin n K V kd SK SV (xs (7 * t + 1))).2.2.1) ((fin n K V kd SK SV (xs (7 * t + 1))).2.2.2.1) ((fin n K V kd SK SV (xs (7 * t + 1))).2.2.2.2.1) ((fin n K V kd SK SV (xs (7 * t + 1))).2.2.2.2.2) SK SV ++ wM bb g ((fin n K V kd SK SV (xs (7 * t + 1))).1) ((fin n K V kd SK SV (xs (7 * t + 1))).2.2.1) ((fin n K V kd SK SV (xs (7 * t + 1))).2.2.2.1) ((fin n K V kd SK SV (xs (7 * t + 1))).2.2.2.2.1) (fun i9 => (fin n K V kd SK SV (xs (7 * t + 1))).2.2.2.2.2 i9 + 1) SK SV ++ wO q z (oS (fin n K V kd SK SV (xs (7 * t + 1))).1 (fin n K V kd SK SV (xs (7 * t + 1))).2.1 o)) := hD
  have hp : r9 = (fin n K V kd SK SV (xs (7 * t + 1))).1 := hp
  subst hp
  refine lv_iload hx hb dL_law_319 (lv_at hl 1 rfl) ?_
  refine lv_icmp_eq (tgt := 326) hx hb dL_law_321 (by decide) (fun h1 => ?_) (fun h1 => ?_)
  · skip
    refine lv_iload hx hb dL_law_326 (lv_at hl 1 rfl) ?_
    refine lv_if_ne (tgt := 342) hx hb dL_law_328 (by decide) (fun h2 => ?_) (fun h2 => ?_)
    · skip
      refine lv_goto (tgt := 839) hx hb dL_law_342 (by decide) ?_
      refine W.widen (k := 13 + 1 * (t + 1)) (n := 462 + 6 * (t + 1)) (by omega) (by omega) ?_
      exact nx ((fin n K V kd SK SV (xs (7 * t + 1))).2.2.1) ((fin n K V kd SK SV (xs (7 * t + 1))).2.2.2.1) ((fin n K V kd SK SV (xs (7 * t + 1))).2.2.2.2.1) ((fin n K V kd SK SV (xs (7 * t + 1))).2.2.2.2.2) SK SV ((fin n K V kd SK SV (xs (7 * t + 1))).1) (oS (fin n K V kd SK SV (xs (7 * t + 1))).1 (fin n K V kd SK SV (xs (7 * t + 1))).2.1 o) H locs ls (inv_F _ hI) hP hD hS (lv_sub hl [2, 3, 4, 5, 6] rfl)
    · skip
      have h3 : v9 = (fin n K V kd SK SV (xs (7 * t + 1))).2.1 := hp0 h2
      subst h3
      refine lv_aload_n hx hb dL_law_331 rfl (lv_at hl 6 rfl) ?_
      refine lv_iconst (v := 0) hx hb dL_law_332 (by decide) ?_
      refine xi (y := nI 0) rfl ?_
      refine x_lald (j := 0) hx hb hK hP 12 10 rfl rfl (by decide) (by decide) dL_law_333 ?_
      refine xl (y := (fin n K V kd SK SV (xs (7 * t + 1))).2.1) (oS_at h2) ?_
      refine lv_lload hx hb dL_law_334 (lv_at hl 0 rfl) ?_
      refine W.lcmp hx hb dL_law_336 ?_
      refine lv_if_eq (tgt := 342) hx hb dL_law_337 (by decide) (fun h4 => ?_) (fun h4 => ?_)
      · skip
        refine lv_goto (tgt := 839) hx hb dL_law_342 (by decide) ?_
        refine W.widen (k := 13 + 1 * (t + 1)) (n := 462 + 6 * (t + 1)) (by omega) (by omega) ?_
        exact nx ((fin n K V kd SK SV (xs (7 * t + 1))).2.2.1) ((fin n K V kd SK SV (xs (7 * t + 1))).2.2.2.1) ((fin n K V kd SK SV (xs (7 * t + 1))).2.2.2.2.1) ((fin n K V kd SK SV (xs (7 * t + 1))).2.2.2.2.2) SK SV ((fin n K V kd SK SV (xs (7 * t + 1))).1) (oS (fin n K V kd SK SV (xs (7 * t + 1))).1 (fin n K V kd SK SV (xs (7 * t + 1))).2.1 o) H locs ls (inv_F _ hI) hP hD hS (lv_sub hl [2, 3, 4, 5, 6] rfl)
      · skip
        exact absurd ((lg_cmp_eq _ _).mpr rfl) h4
  · skip
    exact absurd rfl h1
set_option maxHeartbeats 1000000 in
set_option maxRecDepth 100000 in
theorem law_3 {p : Program} {e : Env} {s : State} {m : MethodId} {below : List Frame} {meth : Method} {c : Code} {l : Launch} {b L : Nat} {xs : Nat → Int32} {D : va_G} {A : Nat → Prop} {a : Nat → Nat} {k : Nat → ClassId} {bb : Nat → Nat} {g : Nat → ClassId} {q : Nat} {z : ClassId} (hl9 : l.stackTraces = false) (hx : p.tables.exec = Jvm.exec) (hb : c.code = cL_law) (hr : meth.sig.returnType = some .boolean) (hml : c.maxLocals = 8) (hlocks : meth.locks = false) (hown : s.vm.findClass RL = some m.cls) (hts : ∀ w ∈ ALL, w.before #[Value.ref b] s = true) (hX : va_X b L xs s s.heap) (hbl : b < s.heap.size) (hbA : ¬ A b) (hK : va_K D vwCl (tX k ++ tM g ++ tO z) s) (hZ : zx A s s.heap) (hA : ∀ q : Nat, s.heap.size ≤ q → A q) (hL : L ≤ 3584) (t : Nat) (ht : 7 * t + 7 ≤ L) (n : Nat) (K V : Nat → Int64) (kd : Nat → Int32) (SK SV : Nat → Int64) (cd : Int32) (o : Nat → Int64) (H : Heap) (locs : List Loc) (ls : Array Slot) (hI : inv n K kd) (hP : va_P D vwCl (wX a k n K V kd SK SV ++ wM bb g cd n K V (fun i9 => kd i9 + 1) SK SV ++ wO q z o) H) (hD : va_D A (wX a k n K V kd SK SV ++ wM bb g cd n K V (fun i9 => kd i9 + 1) SK SV ++ wO q z o)) (hS : va_S A s.heap H locs) (hl : lv_has ls 8 [(4, .int (nI (7 * t))), (0, .ref b), (1, .ref (a 0)), (2, .ref (bb 0)), (3, .ref q)])
    (nx : ∀ (n : Nat) (K V : Nat → Int64) (kd : Nat → Int32) (SK SV : Nat → Int64) (cd : Int32) (o : Nat → Int64) (H : Heap) (locs : List Loc) (ls : Array Slot), inv n K kd → va_P D vwCl (wX a k n K V kd SK SV ++ wM bb g cd n K V (fun i9 => kd i9 + 1) SK SV ++ wO q z o) H → va_D A (wX a k n K V kd SK SV ++ wM bb g cd n K V (fun i9 => kd i9 + 1) SK SV ++ wO q z o) → va_S A s.heap H locs → lv_has ls 8 [(4, .int (nI (7 * t))), (0, .ref b), (1, .ref (a 0)), (2, .ref (bb 0)), (3, .ref q)] → W p l e room_1 s m #[Value.ref b] below meth c H locs (13 + 1 * (t + 1)) (462 + 6 * (t + 1)) (lw_Z below #[Value.ref b] s) (F0 m 839 ls [])) :
    W p l e room_1 s m #[Value.ref b] below meth c H locs (13 + 1 * t) (462 + 6 * t) (lw_Z below #[Value.ref b] s) (F0 m 345 ls []) := by
  have hn := hI.1
  have hk := hI.2.2
  refine lv_aload_n hx hb dL_law_345 rfl (lv_at hl 2 rfl) ?_
  refine lv_aload_n hx hb dL_law_346 rfl (lv_at hl 1 rfl) ?_
  refine lv_iload hx hb dL_law_347 (lv_at hl 0 rfl) ?_
  refine lv_iconst (v := 1) hx hb dL_law_349 (by decide) ?_
  refine lv_iadd hx hb dL_law_350 ?_
  refine xi (y := nI (7 * t + 1)) (nI_add (7 * t) 1) ?_
  refine x_sld (j := (7 * t + 1)) hx hb hX hbl hbA hS (by omega) (by omega) dL_law_351 ?_
  refine lv_aload_n hx hb dL_law_352 rfl (lv_at hl 4 rfl) ?_
  refine kn_i (wc := (wX a k n K V kd SK SV ++ wO q z o)) (wr := (wM bb g cd n K V (fun i9 => kd i9 + 1) SK SV)) (w1 := (wX a k n K V (kdD (xs (7 * t + 1)) kd) SK SV ++ wO q z (oS (cdD (xs (7 * t + 1))) (if kd (ix (xs (7 * t + 1))) = -1 then 0 else 1) o))) (vx_runSW (As := [.ref (a 0), .int (xs (7 * t + 1)), .ref q]) (rest := []) ⟨hx, hb, hml, hown, hts⟩ (h_drop l hl9 D a k n K V kd SK SV (xs (7 * t + 1)) q z o H.size) (vx_cwSW (hh := [(0, 16, 19, 13)]) 3 hts (gd_S mb_139 mb_140 mb_115 mb_141) rfl rfl rfl (by decide +kernel) ⟨by decide, by decide⟩) ⟨cP_blind, cPre hP hD hK hS hA hZ [0, 1, 2, 3, 4, 5, 12] rfl (by decide) [0, 1, 2, 3, 4, 10] rfl⟩ rfl rfl hl.1 rfl (lv_room (Nat.le_of_ble_eq_true rfl)) dL_law_353 ⟨by rw [rm_c]; omega, by rw [rm_s]; omega⟩) hP hD hS hA [0, 1, 2, 3, 4, 5, 12] [6, 7, 8, 9, 10, 11] rfl rfl (by decide) (by decide) (fun r9 H locs hp hP hD hS => ?_)
  have hP := hP.sub (ws' := wX a k n K V (kdD (xs (7 * t + 1)) kd) SK SV ++ wM bb g cd n K V (fun i9 => kd i9 + 1) SK SV ++ wO q z (oS (cdD (xs (7 * t + 1))) (if kd (ix (xs (7 * t + 1))) = -1 then 0 else 1) o)) [6, 7, 8, 9, 10, 11, 0, 1, 2, 3, 4, 5, 12] rfl
  have hD := hD.sub (ws' := wX a k n K V (kdD (xs (7 * t + 1)) kd) SK SV ++ wM bb g cd n K V (fun i9 => kd i9 + 1) SK SV ++ wO q z (oS (cdD (xs (7 * t + 1))) (if kd (ix (xs (7 * t + 1))) = -1 then 0 else 1) o)) [6, 7, 8, 9, 10, 11, 0, 1, 2, 3, 4, 5, 12] (by decide) rfl
  have hP : va_P D vwCl (wX a k n K V (kdD (xs (7 * t + 1)) kd) SK SV ++ wM bb g cd n K V (fun i9 => kd i9 + 1) SK SV ++ wO q z (oS (cdD (xs (7 * t + 1))) (if kd (ix (xs (7 * t + 1))) = -1 then 0 else 1) o)) H := hP
  have hD : va_D A (wX a k n K V (kdD (xs (7 * t + 1)) kd) SK SV ++ wM bb g cd n K V (fun i9 => kd i9 + 1) SK SV ++ wO q z (oS (cdD (xs (7 * t + 1))) (if kd (ix (xs (7 * t + 1))) = -1 then 0 else 1) o)) := hD
  have hp : r9 = cdD (xs (7 * t + 1)) := hp
  subst hp
  refine lv_istore (lv' := [(5, .int (cdD (xs (7 * t + 1)))), (4, .int (nI (7 * t))), (0, .ref b), (1, .ref (a 0)), (2, .ref (bb 0)), (3, .ref q)]) hx hb dL_law_356 hl (by decide) rfl (fun ls hl => ?_)
  refine lv_aload_n hx hb dL_law_358 rfl (lv_at hl 4 rfl) ?_
  refine lv_aload_n hx hb dL_law_359 rfl (lv_at hl 2 rfl) ?_
  refine lv_iload hx hb dL_law_360 (lv_at hl 1 rfl) ?_
  refine lv_iconst (v := 1) hx hb dL_law_362 (by decide) ?_
  refine lv_iadd hx hb dL_law_363 ?_
  refine xi (y := nI (7 * t + 1)) (nI_add (7 * t) 1) ?_
  refine x_sld (j := (7 * t + 1)) hx hb hX hbl hbA hS (by omega) (by omega) dL_law_364 ?_
  refine kn_i (wc := (wM bb g cd n K V (fun i9 => kd i9 + 1) SK SV)) (wr := (wX a k n K V (kdD (xs (7 * t + 1)) kd) SK SV ++ wO q z (oS (cdD (xs (7 * t + 1))) (if kd (ix (xs (7 * t + 1))) = -1 then 0 else 1) o))) (w1 := (wM bb g (cdD (xs (7 * t + 1))) n K V (fun i9 => kdD (xs (7 * t + 1)) kd i9 + 1) SK SV)) (va_runV (As := [.int (xs (7 * t + 1))]) (rest := []) ⟨hx, hb, hml, hown, hts⟩ (m_drop l hl9 D bb g cd n K V kd SK SV (xs (7 * t + 1)) H.size hk) (cwV 1 hts (gd_V mb_142 mb_143 mb_144 mb_50 mb_145) rfl rfl rfl (by decide +kernel) ⟨by decide, by decide⟩) ⟨cP_blind, va_recv (q0 := 6) (ci := 1) (q := (RX1, TX1, 7)) hK hP rfl rfl, cPre hP hD hK hS hA hZ [6, 7, 8, 9, 10, 11] rfl (by decide) [5, 6, 7, 8, 9] rfl⟩ rfl rfl hl.1 rfl (lv_room (Nat.le_of_ble_eq_true rfl)) dL_law_365 ⟨by rw [rm_c]; omega, by rw [rm_s]; omega⟩) hP hD hS hA [6, 7, 8, 9, 10, 11] [0, 1, 2, 3, 4, 5, 12] rfl rfl (by decide) (by decide) (fun r9 H locs hp hP hD hS => ?_)
  have hP := hP.sub (ws' := wX a k n K V (kdD (xs (7 * t + 1)) kd) SK SV ++ wM bb g (cdD (xs (7 * t + 1))) n K V (fun i9 => kdD (xs (7 * t + 1)) kd i9 + 1) SK SV ++ wO q z (oS (cdD (xs (7 * t + 1))) (if kd (ix (xs (7 * t + 1))) = -1 then 0 else 1) o)) [0, 1, 2, 3, 4, 5, 7, 8, 9, 10, 11, 12, 6] rfl
  have hD := hD.sub (ws' := wX a k n K V (kdD (xs (7 * t + 1)) kd) SK SV ++ wM bb g (cdD (xs (7 * t + 1))) n K V (fun i9 => kdD (xs (7 * t + 1)) kd i9 + 1) SK SV ++ wO q z (oS (cdD (xs (7 * t + 1))) (if kd (ix (xs (7 * t + 1))) = -1 then 0 else 1) o)) [0, 1, 2, 3, 4, 5, 7, 8, 9, 10, 11, 12, 6] (by decide) rfl
  have hP : va_P D vwCl (wX a k n K V (kdD (xs (7 * t + 1)) kd) SK SV ++ wM bb g (cdD (xs (7 * t + 1))) n K V (fun i9 => kdD (xs (7 * t + 1)) kd i9 + 1) SK SV ++ wO q z (oS (cdD (xs (7 * t + 1))) (if kd (ix (xs (7 * t + 1))) = -1 then 0 else 1) o)) H := hP
  have hD : va_D A (wX a k n K V (kdD (xs (7 * t + 1)) kd) SK SV ++ wM bb g (cdD (xs (7 * t + 1))) n K V (fun i9 => kdD (xs (7 * t + 1)) kd i9 + 1) SK SV ++ wO q z (oS (cdD (xs (7 * t + 1))) (if kd (ix (xs (7 * t + 1))) = -1 then 0 else 1) o)) := hD
  have hp0 := hp
  generalize r9 = v9 at hp0 ⊢
  refine lv_istore (lv' := [(6, .int v9), (5, .int (cdD (xs (7 * t + 1)))), (4, .int (nI (7 * t))), (0, .ref b), (1, .ref (a 0)), (2, .ref (bb 0)), (3, .ref q)]) hx hb dL_law_368 hl (by decide) rfl (fun ls hl => ?_)
  refine lv_aload_n hx hb dL_law_370 rfl (lv_at hl 5 rfl) ?_
  refine kn_i (wc := (wM bb g (cdD (xs (7 * t + 1))) n K V (fun i9 => kdD (xs (7 * t + 1)) kd i9 + 1) SK SV)) (wr := (wX a k n K V (kdD (xs (7 * t + 1)) kd) SK SV ++ wO q z (oS (cdD (xs (7 * t + 1))) (if kd (ix (xs (7 * t + 1))) = -1 then 0 else 1) o))) (w1 := (wM bb g (cdD (xs (7 * t + 1))) n K V (fun i9 => kdD (xs (7 * t + 1)) kd i9 + 1) SK SV)) (va_runV (As := []) (rest := []) ⟨hx, hb, hml, hown, hts⟩ (m_thrown l hl9 D bb g (cdD (xs (7 * t + 1))) n K V (kdD (xs (7 * t + 1)) kd) SK SV H.size) (cwV 0 hts (gd_V mb_121 mb_122 mb_123 mb_50 mb_124) rfl rfl rfl (by decide +kernel) ⟨by decide, by decide⟩) ⟨cP_blind, va_recv (q0 := 6) (ci := 1) (q := (RX1, TX1, 7)) hK hP rfl rfl, cPre hP hD hK hS hA hZ [6, 7, 8, 9, 10, 11] rfl (by decide) [5, 6, 7, 8, 9] rfl⟩ rfl rfl hl.1 rfl (lv_room (Nat.le_of_ble_eq_true rfl)) dL_law_371 ⟨by rw [rm_c]; omega, by rw [rm_s]; omega⟩) hP hD hS hA [6, 7, 8, 9, 10, 11] [0, 1, 2, 3, 4, 5, 12] rfl rfl (by decide) (by decide) (fun r9 H locs hp hP hD hS => ?_)
  have hP := hP.sub (ws' := wX a k n K V (kdD (xs (7 * t + 1)) kd) SK SV ++ wM bb g (cdD (xs (7 * t + 1))) n K V (fun i9 => kdD (xs (7 * t + 1)) kd i9 + 1) SK SV ++ wO q z (oS (cdD (xs (7 * t + 1))) (if kd (ix (xs (7 * t + 1))) = -1 then 0 else 1) o)) [0, 1, 2, 3, 4, 5, 7, 8, 9, 10, 11, 12, 6] rfl
  have hD := hD.sub (ws' := wX a k n K V (kdD (xs (7 * t + 1)) kd) SK SV ++ wM bb g (cdD (xs (7 * t + 1))) n K V (fun i9 => kdD (xs (7 * t + 1)) kd i9 + 1) SK SV ++ wO q z (oS (cdD (xs (7 * t + 1))) (if kd (ix (xs (7 * t + 1))) = -1 then 0 else 1) o)) [0, 1, 2, 3, 4, 5, 7, 8, 9, 10, 11, 12, 6] (by decide) rfl
  have hP : va_P D vwCl (wX a k n K V (kdD (xs (7 * t + 1)) kd) SK SV ++ wM bb g (cdD (xs (7 * t + 1))) n K V (fun i9 => kdD (xs (7 * t + 1)) kd i9 + 1) SK SV ++ wO q z (oS (cdD (xs (7 * t + 1))) (if kd (ix (xs (7 * t + 1))) = -1 then 0 else 1) o)) H := hP
  have hD : va_D A (wX a k n K V (kdD (xs (7 * t + 1)) kd) SK SV ++ wM bb g (cdD (xs (7 * t + 1))) n K V (fun i9 => kdD (xs (7 * t + 1)) kd i9 + 1) SK SV ++ wO q z (oS (cdD (xs (7 * t + 1))) (if kd (ix (xs (7 * t + 1))) = -1 then 0 else 1) o)) := hD
  have hp : r9 = cdD (xs (7 * t + 1)) := hp
  subst hp
  refine lv_iload hx hb dL_law_374 (lv_at hl 1 rfl) ?_
  refine lv_icmp_eq (tgt := 381) hx hb dL_law_376 (by decide) (fun h1 => ?_) (fun h1 => ?_)
  · skip
    refine lv_iload hx hb dL_law_381 (lv_at hl 1 rfl) ?_
    refine lv_if_ne (tgt := 405) hx hb dL_law_383 (by decide) (fun h2 => ?_) (fun h2 => ?_)
    · skip
      refine lv_goto (tgt := 839) hx hb dL_law_405 (by decide) ?_
      refine W.widen (k := 13 + 1 * (t + 1)) (n := 462 + 6 * (t + 1)) (by omega) (by omega) ?_
      exact nx n K V (kdD (xs (7 * t + 1)) kd) SK SV (cdD (xs (7 * t + 1))) (oS (cdD (xs (7 * t + 1))) (if kd (ix (xs (7 * t + 1))) = -1 then 0 else 1) o) H locs ls (inv_D _ hI) hP hD hS (lv_sub hl [2, 3, 4, 5, 6] rfl)
    · skip
      have hs : okS (xs (7 * t + 1)) := cdD_0 h2
      have h3 := hp0 hs
      refine lv_aload_n hx hb dL_law_386 rfl (lv_at hl 6 rfl) ?_
      refine lv_iconst (v := 0) hx hb dL_law_387 (by decide) ?_
      refine xi (y := nI 0) rfl ?_
      refine x_lald (j := 0) hx hb hK hP 12 10 rfl rfl (by decide) (by decide) dL_law_388 ?_
      refine xl (y := (if kd (ix (xs (7 * t + 1))) = -1 then 0 else 1)) (oS_at h2) ?_
      by_cases h5 : kd (ix (xs (7 * t + 1))) = -1
      · skip
        rw [if_pos h5] at h3
        subst h3
        refine xl (y := 0) (if_pos h5) ?_
        refine lv_iload hx hb dL_law_389 (lv_at hl 0 rfl) ?_
        refine lv_if_eq (tgt := 398) hx hb dL_law_391 (by decide) (fun h6 => ?_) (fun h6 => ?_)
        · skip
          refine lv_lconst (v := 0) hx hb dL_law_398 (by decide) ?_
          refine W.lcmp hx hb dL_law_399 ?_
          refine lv_if_eq (tgt := 405) hx hb dL_law_400 (by decide) (fun h4 => ?_) (fun h4 => ?_)
          · skip
            refine lv_goto (tgt := 839) hx hb dL_law_405 (by decide) ?_
            refine W.widen (k := 13 + 1 * (t + 1)) (n := 462 + 6 * (t + 1)) (by omega) (by omega) ?_
            exact nx n K V (kdD (xs (7 * t + 1)) kd) SK SV (cdD (xs (7 * t + 1))) (oS (cdD (xs (7 * t + 1))) (if kd (ix (xs (7 * t + 1))) = -1 then 0 else 1) o) H locs ls (inv_D _ hI) hP hD hS (lv_sub hl [2, 3, 4, 5, 6] rfl)
          · skip
            exact absurd ((lg_cmp_eq _ _).mpr rfl) h4
        · skip
          first | exact absurd h6 (by decide) | exact (h6 rfl).elim
      · skip
        rw [if_neg h5] at h3
        subst h3
        refine xl (y := 1) (if_neg h5) ?_
        refine lv_iload hx hb dL_law_389 (lv_at hl 0 rfl) ?_
        refine lv_if_eq (tgt := 398) hx hb dL_law_391 (by decide) (fun h6 => ?_) (fun h6 => ?_)
        · skip
          first | exact absurd h6 (by decide) | exact (h6 rfl).elim
        · skip
          refine lv_lconst (v := 1) hx hb dL_law_394 (by decide) ?_
          refine lv_goto (tgt := 399) hx hb dL_law_395 (by decide) ?_
          refine W.lcmp hx hb dL_law_399 ?_
          refine lv_if_eq (tgt := 405) hx hb dL_law_400 (by decide) (fun h4 => ?_) (fun h4 => ?_)
          · skip
            refine lv_goto (tgt := 839) hx hb dL_law_405 (by decide) ?_
            refine W.widen (k := 13 + 1 * (t + 1)) (n := 462 + 6 * (t + 1)) (by omega) (by omega) ?_
            exact nx n K V (kdD (xs (7 * t + 1)) kd) SK SV (cdD (xs (7 * t + 1))) (oS (cdD (xs (7 * t + 1))) (if kd (ix (xs (7 * t + 1))) = -1 then 0 else 1) o) H locs ls (inv_D _ hI) hP hD hS (lv_sub hl [2, 3, 4, 5, 6] rfl)
          · skip
            exact absurd ((lg_cmp_eq _ _).mpr rfl) h4
  · skip
    exact absurd rfl h1
set_option maxHeartbeats 1000000 in
set_option maxRecDepth 100000 in
theorem law_4 {p : Program} {e : Env} {s : State} {m : MethodId} {below : List Frame} {meth : Method} {c : Code} {l : Launch} {b L : Nat} {xs : Nat → Int32} {D : va_G} {A : Nat → Prop} {a : Nat → Nat} {k : Nat → ClassId} {bb : Nat → Nat} {g : Nat → ClassId} {q : Nat} {z : ClassId} (hl9 : l.stackTraces = false) (hx : p.tables.exec = Jvm.exec) (hb : c.code = cL_law) (hr : meth.sig.returnType = some .boolean) (hml : c.maxLocals = 8) (hlocks : meth.locks = false) (hown : s.vm.findClass RL = some m.cls) (hts : ∀ w ∈ ALL, w.before #[Value.ref b] s = true) (hX : va_X b L xs s s.heap) (hbl : b < s.heap.size) (hbA : ¬ A b) (hK : va_K D vwCl (tX k ++ tM g ++ tO z) s) (hZ : zx A s s.heap) (hA : ∀ q : Nat, s.heap.size ≤ q → A q) (hL : L ≤ 3584) (t : Nat) (ht : 7 * t + 7 ≤ L) (n : Nat) (K V : Nat → Int64) (kd : Nat → Int32) (SK SV : Nat → Int64) (cd : Int32) (o : Nat → Int64) (H : Heap) (locs : List Loc) (ls : Array Slot) (hI : inv n K kd) (hP : va_P D vwCl (wX a k n K V kd SK SV ++ wM bb g cd n K V (fun i9 => kd i9 + 1) SK SV ++ wO q z o) H) (hD : va_D A (wX a k n K V kd SK SV ++ wM bb g cd n K V (fun i9 => kd i9 + 1) SK SV ++ wO q z o)) (hS : va_S A s.heap H locs) (hl : lv_has ls 8 [(4, .int (nI (7 * t))), (0, .ref b), (1, .ref (a 0)), (2, .ref (bb 0)), (3, .ref q)])
    (nx : ∀ (n : Nat) (K V : Nat → Int64) (kd : Nat → Int32) (SK SV : Nat → Int64) (cd : Int32) (o : Nat → Int64) (H : Heap) (locs : List Loc) (ls : Array Slot), inv n K kd → va_P D vwCl (wX a k n K V kd SK SV ++ wM bb g cd n K V (fun i9 => kd i9 + 1) SK SV ++ wO q z o) H → va_D A (wX a k n K V kd SK SV ++ wM bb g cd n K V (fun i9 => kd i9 + 1) SK SV ++ wO q z o) → va_S A s.heap H locs → lv_has ls 8 [(4, .int (nI (7 * t))), (0, .ref b), (1, .ref (a 0)), (2, .ref (bb 0)), (3, .ref q)] → W p l e room_1 s m #[Value.ref b] below meth c H locs (13 + 1 * (t + 1)) (462 + 6 * (t + 1)) (lw_Z below #[Value.ref b] s) (F0 m 839 ls [])) :
    W p l e room_1 s m #[Value.ref b] below meth c H locs (13 + 1 * t) (462 + 6 * t) (lw_Z below #[Value.ref b] s) (F0 m 408 ls []) := by
  have hn := hI.1
  have hk := hI.2.2
  refine lv_aload_n hx hb dL_law_408 rfl (lv_at hl 2 rfl) ?_
  refine lv_aload_n hx hb dL_law_409 rfl (lv_at hl 1 rfl) ?_
  refine lv_iload hx hb dL_law_410 (lv_at hl 0 rfl) ?_
  refine lv_iconst (v := 1) hx hb dL_law_412 (by decide) ?_
  refine lv_iadd hx hb dL_law_413 ?_
  refine xi (y := nI (7 * t + 1)) (nI_add (7 * t) 1) ?_
  refine x_sld (j := (7 * t + 1)) hx hb hX hbl hbA hS (by omega) (by omega) dL_law_414 ?_
  refine kn_i (wc := (wX a k n K V kd SK SV)) (wr := (wM bb g cd n K V (fun i9 => kd i9 + 1) SK SV ++ wO q z o)) (w1 := (wX a k n K V kd SK SV)) (vx_runSW (As := [.ref (a 0), .int (xs (7 * t + 1))]) (rest := []) ⟨hx, hb, hml, hown, hts⟩ (h_tidy l hl9 D a k n K V kd SK SV (xs (7 * t + 1)) H.size) (vx_cwSW (hh := [(0, 5, 8, 13)]) 2 hts (gd_S mb_146 mb_147 mb_115 mb_148) rfl rfl rfl (by decide +kernel) ⟨by decide, by decide⟩) ⟨cP_blind, cPre hP hD hK hS hA hZ [0, 1, 2, 3, 4, 5] rfl (by decide) [0, 1, 2, 3, 4] rfl⟩ rfl rfl hl.1 rfl (lv_room (Nat.le_of_ble_eq_true rfl)) dL_law_415 ⟨by rw [rm_c]; omega, by rw [rm_s]; omega⟩) hP hD hS hA [0, 1, 2, 3, 4, 5] [6, 7, 8, 9, 10, 11, 12] rfl rfl (by decide) (by decide) (fun r9 H locs hp hP hD hS => ?_)
  have hP := hP.sub (ws' := wX a k n K V kd SK SV ++ wM bb g cd n K V (fun i9 => kd i9 + 1) SK SV ++ wO q z o) [7, 8, 9, 10, 11, 12, 0, 1, 2, 3, 4, 5, 6] rfl
  have hD := hD.sub (ws' := wX a k n K V kd SK SV ++ wM bb g cd n K V (fun i9 => kd i9 + 1) SK SV ++ wO q z o) [7, 8, 9, 10, 11, 12, 0, 1, 2, 3, 4, 5, 6] (by decide) rfl
  have hP : va_P D vwCl (wX a k n K V kd SK SV ++ wM bb g cd n K V (fun i9 => kd i9 + 1) SK SV ++ wO q z o) H := hP
  have hD : va_D A (wX a k n K V kd SK SV ++ wM bb g cd n K V (fun i9 => kd i9 + 1) SK SV ++ wO q z o) := hD
  have hp : r9 = cdY (xs (7 * t + 1)) := hp
  subst hp
  refine lv_istore (lv' := [(5, .int (cdY (xs (7 * t + 1)))), (4, .int (nI (7 * t))), (0, .ref b), (1, .ref (a 0)), (2, .ref (bb 0)), (3, .ref q)]) hx hb dL_law_418 hl (by decide) rfl (fun ls hl => ?_)
  refine lv_aload_n hx hb dL_law_420 rfl (lv_at hl 4 rfl) ?_
  refine lv_aload_n hx hb dL_law_421 rfl (lv_at hl 2 rfl) ?_
  refine lv_iload hx hb dL_law_422 (lv_at hl 1 rfl) ?_
  refine lv_iconst (v := 1) hx hb dL_law_424 (by decide) ?_
  refine lv_iadd hx hb dL_law_425 ?_
  refine xi (y := nI (7 * t + 1)) (nI_add (7 * t) 1) ?_
  refine x_sld (j := (7 * t + 1)) hx hb hX hbl hbA hS (by omega) (by omega) dL_law_426 ?_
  refine kn_v (wc := (wM bb g cd n K V (fun i9 => kd i9 + 1) SK SV)) (wr := (wX a k n K V kd SK SV ++ wO q z o)) (w1 := (wM bb g (cdY (xs (7 * t + 1))) n K V (fun i9 => kd i9 + 1) SK SV)) (va_runV (As := [.int (xs (7 * t + 1))]) (rest := []) ⟨hx, hb, hml, hown, hts⟩ (m_tidy l hl9 D bb g cd n K V kd SK SV (xs (7 * t + 1)) H.size) (cwV 1 hts (gd_V mb_149 mb_150 mb_151 mb_50 mb_152) rfl rfl rfl (by decide +kernel) ⟨by decide, by decide⟩) ⟨cP_blind, va_recv (q0 := 6) (ci := 1) (q := (RX1, TX1, 7)) hK hP rfl rfl, cPre hP hD hK hS hA hZ [6, 7, 8, 9, 10, 11] rfl (by decide) [5, 6, 7, 8, 9] rfl⟩ rfl rfl hl.1 rfl (lv_room (Nat.le_of_ble_eq_true rfl)) dL_law_427 ⟨by rw [rm_c]; omega, by rw [rm_s]; omega⟩) hP hD hS hA [6, 7, 8, 9, 10, 11] [0, 1, 2, 3, 4, 5, 12] rfl rfl (by decide) (by decide) (fun H locs hp hP hD hS => ?_)
  have hP := hP.sub (ws' := wX a k n K V kd SK SV ++ wM bb g (cdY (xs (7 * t + 1))) n K V (fun i9 => kd i9 + 1) SK SV ++ wO q z o) [0, 1, 2, 3, 4, 5, 7, 8, 9, 10, 11, 12, 6] rfl
  have hD := hD.sub (ws' := wX a k n K V kd SK SV ++ wM bb g (cdY (xs (7 * t + 1))) n K V (fun i9 => kd i9 + 1) SK SV ++ wO q z o) [0, 1, 2, 3, 4, 5, 7, 8, 9, 10, 11, 12, 6] (by decide) rfl
  have hP : va_P D vwCl (wX a k n K V kd SK SV ++ wM bb g (cdY (xs (7 * t + 1))) n K V (fun i9 => kd i9 + 1) SK SV ++ wO q z o) H := hP
  have hD : va_D A (wX a k n K V kd SK SV ++ wM bb g (cdY (xs (7 * t + 1))) n K V (fun i9 => kd i9 + 1) SK SV ++ wO q z o) := hD
  refine lv_aload_n hx hb dL_law_430 rfl (lv_at hl 4 rfl) ?_
  refine kn_i (wc := (wM bb g (cdY (xs (7 * t + 1))) n K V (fun i9 => kd i9 + 1) SK SV)) (wr := (wX a k n K V kd SK SV ++ wO q z o)) (w1 := (wM bb g (cdY (xs (7 * t + 1))) n K V (fun i9 => kd i9 + 1) SK SV)) (va_runV (As := []) (rest := []) ⟨hx, hb, hml, hown, hts⟩ (m_thrown l hl9 D bb g (cdY (xs (7 * t + 1))) n K V kd SK SV H.size) (cwV 0 hts (gd_V mb_121 mb_122 mb_123 mb_50 mb_124) rfl rfl rfl (by decide +kernel) ⟨by decide, by decide⟩) ⟨cP_blind, va_recv (q0 := 6) (ci := 1) (q := (RX1, TX1, 7)) hK hP rfl rfl, cPre hP hD hK hS hA hZ [6, 7, 8, 9, 10, 11] rfl (by decide) [5, 6, 7, 8, 9] rfl⟩ rfl rfl hl.1 rfl (lv_room (Nat.le_of_ble_eq_true rfl)) dL_law_431 ⟨by rw [rm_c]; omega, by rw [rm_s]; omega⟩) hP hD hS hA [6, 7, 8, 9, 10, 11] [0, 1, 2, 3, 4, 5, 12] rfl rfl (by decide) (by decide) (fun r9 H locs hp hP hD hS => ?_)
  have hP := hP.sub (ws' := wX a k n K V kd SK SV ++ wM bb g (cdY (xs (7 * t + 1))) n K V (fun i9 => kd i9 + 1) SK SV ++ wO q z o) [0, 1, 2, 3, 4, 5, 7, 8, 9, 10, 11, 12, 6] rfl
  have hD := hD.sub (ws' := wX a k n K V kd SK SV ++ wM bb g (cdY (xs (7 * t + 1))) n K V (fun i9 => kd i9 + 1) SK SV ++ wO q z o) [0, 1, 2, 3, 4, 5, 7, 8, 9, 10, 11, 12, 6] (by decide) rfl
  have hP : va_P D vwCl (wX a k n K V kd SK SV ++ wM bb g (cdY (xs (7 * t + 1))) n K V (fun i9 => kd i9 + 1) SK SV ++ wO q z o) H := hP
  have hD : va_D A (wX a k n K V kd SK SV ++ wM bb g (cdY (xs (7 * t + 1))) n K V (fun i9 => kd i9 + 1) SK SV ++ wO q z o) := hD
  have hp : r9 = cdY (xs (7 * t + 1)) := hp
  subst hp
  refine lv_iload hx hb dL_law_434 (lv_at hl 0 rfl) ?_
  refine lv_icmp_eq (tgt := 441) hx hb dL_law_436 (by decide) (fun h1 => ?_) (fun h1 => ?_)
  · skip
    refine lv_goto (tgt := 839) hx hb dL_law_441 (by decide) ?_
    refine W.widen (k := 13 + 1 * (t + 1)) (n := 462 + 6 * (t + 1)) (by omega) (by omega) ?_
    exact nx n K V kd SK SV (cdY (xs (7 * t + 1))) o H locs ls hI hP hD hS (lv_sub hl [1, 2, 3, 4, 5] rfl)
  · skip
    exact absurd rfl h1
set_option maxHeartbeats 1000000 in
set_option maxRecDepth 100000 in
theorem law_5 {p : Program} {e : Env} {s : State} {m : MethodId} {below : List Frame} {meth : Method} {c : Code} {l : Launch} {b L : Nat} {xs : Nat → Int32} {D : va_G} {A : Nat → Prop} {a : Nat → Nat} {k : Nat → ClassId} {bb : Nat → Nat} {g : Nat → ClassId} {q : Nat} {z : ClassId} (hl9 : l.stackTraces = false) (hx : p.tables.exec = Jvm.exec) (hb : c.code = cL_law) (hr : meth.sig.returnType = some .boolean) (hml : c.maxLocals = 8) (hlocks : meth.locks = false) (hown : s.vm.findClass RL = some m.cls) (hts : ∀ w ∈ ALL, w.before #[Value.ref b] s = true) (hX : va_X b L xs s s.heap) (hbl : b < s.heap.size) (hbA : ¬ A b) (hK : va_K D vwCl (tX k ++ tM g ++ tO z) s) (hZ : zx A s s.heap) (hA : ∀ q : Nat, s.heap.size ≤ q → A q) (hL : L ≤ 3584) (t : Nat) (ht : 7 * t + 7 ≤ L) (n : Nat) (K V : Nat → Int64) (kd : Nat → Int32) (SK SV : Nat → Int64) (cd : Int32) (o : Nat → Int64) (H : Heap) (locs : List Loc) (ls : Array Slot) (hI : inv n K kd) (hP : va_P D vwCl (wX a k n K V kd SK SV ++ wM bb g cd n K V (fun i9 => kd i9 + 1) SK SV ++ wO q z o) H) (hD : va_D A (wX a k n K V kd SK SV ++ wM bb g cd n K V (fun i9 => kd i9 + 1) SK SV ++ wO q z o)) (hS : va_S A s.heap H locs) (hl : lv_has ls 8 [(4, .int (nI (7 * t))), (0, .ref b), (1, .ref (a 0)), (2, .ref (bb 0)), (3, .ref q)])
    (nx : ∀ (n : Nat) (K V : Nat → Int64) (kd : Nat → Int32) (SK SV : Nat → Int64) (cd : Int32) (o : Nat → Int64) (H : Heap) (locs : List Loc) (ls : Array Slot), inv n K kd → va_P D vwCl (wX a k n K V kd SK SV ++ wM bb g cd n K V (fun i9 => kd i9 + 1) SK SV ++ wO q z o) H → va_D A (wX a k n K V kd SK SV ++ wM bb g cd n K V (fun i9 => kd i9 + 1) SK SV ++ wO q z o) → va_S A s.heap H locs → lv_has ls 8 [(4, .int (nI (7 * t))), (0, .ref b), (1, .ref (a 0)), (2, .ref (bb 0)), (3, .ref q)] → W p l e room_1 s m #[Value.ref b] below meth c H locs (13 + 1 * (t + 1)) (462 + 6 * (t + 1)) (lw_Z below #[Value.ref b] s) (F0 m 839 ls [])) :
    W p l e room_1 s m #[Value.ref b] below meth c H locs (13 + 1 * t) (462 + 6 * t) (lw_Z below #[Value.ref b] s) (F0 m 444 ls []) := by
  have hn := hI.1
  have hk := hI.2.2
  refine lv_aload_n hx hb dL_law_444 rfl (lv_at hl 2 rfl) ?_
  refine kn_i (wc := (wX a k n K V kd SK SV)) (wr := (wM bb g cd n K V (fun i9 => kd i9 + 1) SK SV ++ wO q z o)) (w1 := (wX a k n K V ((crF 8 0 kd 0).1) SK SV)) (va_runV (As := []) (rest := []) ⟨hx, hb, hml, hown, hts⟩ (c_crash l hl9 D a k n K V kd SK SV H.size) (cwV 0 hts (gd_V mb_153 mb_154 mb_155 mb_12 mb_156) rfl rfl rfl (by decide +kernel) ⟨by decide, by decide⟩) ⟨cP_blind, va_recv (q0 := 0) (ci := 0) (q := (RX0, TX0, 6)) hK hP rfl rfl, cPre hP hD hK hS hA hZ [0, 1, 2, 3, 4, 5] rfl (by decide) [0, 1, 2, 3, 4] rfl⟩ rfl rfl hl.1 rfl (lv_room (Nat.le_of_ble_eq_true rfl)) dL_law_445 ⟨by rw [rm_c]; omega, by rw [rm_s]; omega⟩) hP hD hS hA [0, 1, 2, 3, 4, 5] [6, 7, 8, 9, 10, 11, 12] rfl rfl (by decide) (by decide) (fun r9 H locs hp hP hD hS => ?_)
  have hP := hP.sub (ws' := wX a k n K V ((crF 8 0 kd 0).1) SK SV ++ wM bb g cd n K V (fun i9 => kd i9 + 1) SK SV ++ wO q z o) [7, 8, 9, 10, 11, 12, 0, 1, 2, 3, 4, 5, 6] rfl
  have hD := hD.sub (ws' := wX a k n K V ((crF 8 0 kd 0).1) SK SV ++ wM bb g cd n K V (fun i9 => kd i9 + 1) SK SV ++ wO q z o) [7, 8, 9, 10, 11, 12, 0, 1, 2, 3, 4, 5, 6] (by decide) rfl
  have hP : va_P D vwCl (wX a k n K V ((crF 8 0 kd 0).1) SK SV ++ wM bb g cd n K V (fun i9 => kd i9 + 1) SK SV ++ wO q z o) H := hP
  have hD : va_D A (wX a k n K V ((crF 8 0 kd 0).1) SK SV ++ wM bb g cd n K V (fun i9 => kd i9 + 1) SK SV ++ wO q z o) := hD
  have hp : r9 = (crF 8 0 kd 0).2 := hp
  subst hp
  refine lv_aload_n hx hb dL_law_448 rfl (lv_at hl 3 rfl) ?_
  refine kn_i (wc := (wM bb g cd n K V (fun i9 => kd i9 + 1) SK SV)) (wr := (wX a k n K V ((crF 8 0 kd 0).1) SK SV ++ wO q z o)) (w1 := (wM bb g 0 n K V (fun i9 => (crF 8 0 kd 0).1 i9 + 1) SK SV)) (va_runV (As := []) (rest := [.int ((crF 8 0 kd 0).2)]) ⟨hx, hb, hml, hown, hts⟩ (m_crash l hl9 D bb g cd n K V kd SK SV H.size hk) (cwV 0 hts (gd_V mb_157 mb_158 mb_159 mb_50 mb_160) rfl rfl rfl (by decide +kernel) ⟨by decide, by decide⟩) ⟨cP_blind, va_recv (q0 := 6) (ci := 1) (q := (RX1, TX1, 7)) hK hP rfl rfl, cPre hP hD hK hS hA hZ [6, 7, 8, 9, 10, 11] rfl (by decide) [5, 6, 7, 8, 9] rfl⟩ rfl rfl hl.1 rfl (lv_room (Nat.le_of_ble_eq_true rfl)) dL_law_449 ⟨by rw [rm_c]; omega, by rw [rm_s]; omega⟩) hP hD hS hA [6, 7, 8, 9, 10, 11] [0, 1, 2, 3, 4, 5, 12] rfl rfl (by decide) (by decide) (fun r9 H locs hp hP hD hS => ?_)
  have hP := hP.sub (ws' := wX a k n K V ((crF 8 0 kd 0).1) SK SV ++ wM bb g 0 n K V (fun i9 => (crF 8 0 kd 0).1 i9 + 1) SK SV ++ wO q z o) [0, 1, 2, 3, 4, 5, 7, 8, 9, 10, 11, 12, 6] rfl
  have hD := hD.sub (ws' := wX a k n K V ((crF 8 0 kd 0).1) SK SV ++ wM bb g 0 n K V (fun i9 => (crF 8 0 kd 0).1 i9 + 1) SK SV ++ wO q z o) [0, 1, 2, 3, 4, 5, 7, 8, 9, 10, 11, 12, 6] (by decide) rfl
  have hP : va_P D vwCl (wX a k n K V ((crF 8 0 kd 0).1) SK SV ++ wM bb g 0 n K V (fun i9 => (crF 8 0 kd 0).1 i9 + 1) SK SV ++ wO q z o) H := hP
  have hD : va_D A (wX a k n K V ((crF 8 0 kd 0).1) SK SV ++ wM bb g 0 n K V (fun i9 => (crF 8 0 kd 0).1 i9 + 1) SK SV ++ wO q z o) := hD
  have hp : r9 = (crF 8 0 kd 0).2 := hp
  subst hp
  refine lv_icmp_eq (tgt := 839) hx hb dL_law_452 (by decide) (fun h1 => ?_) (fun h1 => ?_)
  · skip
    refine W.widen (k := 13 + 1 * (t + 1)) (n := 462 + 6 * (t + 1)) (by omega) (by omega) ?_
    exact nx n K V ((crF 8 0 kd 0).1) SK SV 0 o H locs ls ⟨hI.1, hI.2.1, crF_ok 8 0 kd 0 hk⟩ hP hD hS (lv_sub hl [0, 1, 2, 3, 4] rfl)
  · skip
    exact absurd rfl h1
set_option maxHeartbeats 1000000 in
set_option maxRecDepth 100000 in
theorem law_6 {p : Program} {e : Env} {s : State} {m : MethodId} {below : List Frame} {meth : Method} {c : Code} {l : Launch} {b L : Nat} {xs : Nat → Int32} {D : va_G} {A : Nat → Prop} {a : Nat → Nat} {k : Nat → ClassId} {bb : Nat → Nat} {g : Nat → ClassId} {q : Nat} {z : ClassId} (hl9 : l.stackTraces = false) (hx : p.tables.exec = Jvm.exec) (hb : c.code = cL_law) (hr : meth.sig.returnType = some .boolean) (hml : c.maxLocals = 8) (hlocks : meth.locks = false) (hown : s.vm.findClass RL = some m.cls) (hts : ∀ w ∈ ALL, w.before #[Value.ref b] s = true) (hX : va_X b L xs s s.heap) (hbl : b < s.heap.size) (hbA : ¬ A b) (hK : va_K D vwCl (tX k ++ tM g ++ tO z) s) (hZ : zx A s s.heap) (hA : ∀ q : Nat, s.heap.size ≤ q → A q) (hL : L ≤ 3584) (t : Nat) (ht : 7 * t + 7 ≤ L) (n : Nat) (K V : Nat → Int64) (kd : Nat → Int32) (SK SV : Nat → Int64) (cd : Int32) (o : Nat → Int64) (H : Heap) (locs : List Loc) (ls : Array Slot) (hI : inv n K kd) (hP : va_P D vwCl (wX a k n K V kd SK SV ++ wM bb g cd n K V (fun i9 => kd i9 + 1) SK SV ++ wO q z o) H) (hD : va_D A (wX a k n K V kd SK SV ++ wM bb g cd n K V (fun i9 => kd i9 + 1) SK SV ++ wO q z o)) (hS : va_S A s.heap H locs) (hl : lv_has ls 8 [(4, .int (nI (7 * t))), (0, .ref b), (1, .ref (a 0)), (2, .ref (bb 0)), (3, .ref q)])
    (nx : ∀ (n : Nat) (K V : Nat → Int64) (kd : Nat → Int32) (SK SV : Nat → Int64) (cd : Int32) (o : Nat → Int64) (H : Heap) (locs : List Loc) (ls : Array Slot), inv n K kd → va_P D vwCl (wX a k n K V kd SK SV ++ wM bb g cd n K V (fun i9 => kd i9 + 1) SK SV ++ wO q z o) H → va_D A (wX a k n K V kd SK SV ++ wM bb g cd n K V (fun i9 => kd i9 + 1) SK SV ++ wO q z o) → va_S A s.heap H locs → lv_has ls 8 [(4, .int (nI (7 * t))), (0, .ref b), (1, .ref (a 0)), (2, .ref (bb 0)), (3, .ref q)] → W p l e room_1 s m #[Value.ref b] below meth c H locs (13 + 1 * (t + 1)) (462 + 6 * (t + 1)) (lw_Z below #[Value.ref b] s) (F0 m 839 ls [])) :
    W p l e room_1 s m #[Value.ref b] below meth c H locs (13 + 1 * t) (462 + 6 * t) (lw_Z below #[Value.ref b] s) (F0 m 457 ls []) := by
  have hn := hI.1
  have hk := hI.2.2
  refine lv_aload_n hx hb dL_law_457 rfl (lv_at hl 2 rfl) ?_
  refine lv_aload_n hx hb dL_law_458 rfl (lv_at hl 1 rfl) ?_
  refine lv_iload hx hb dL_law_459 (lv_at hl 0 rfl) ?_
  refine lv_iconst (v := 1) hx hb dL_law_461 (by decide) ?_
  refine lv_iadd hx hb dL_law_462 ?_
  refine xi (y := nI (7 * t + 1)) (nI_add (7 * t) 1) ?_
  refine x_sld (j := (7 * t + 1)) hx hb hX hbl hbA hS (by omega) (by omega) dL_law_463 ?_
  refine lv_aload_n hx hb dL_law_464 rfl (lv_at hl 4 rfl) ?_
  refine kn_i (wc := (wX a k n K V kd SK SV ++ wO q z o)) (wr := (wM bb g cd n K V (fun i9 => kd i9 + 1) SK SV)) (w1 := (wX a k n K V kd SK SV ++ wO q z (oS (cdD (xs (7 * t + 1))) (kd (ix (xs (7 * t + 1)))).toInt64 o))) (vx_runSW (As := [.ref (a 0), .int (xs (7 * t + 1)), .ref q]) (rest := []) ⟨hx, hb, hml, hown, hts⟩ (h_kind l hl9 D a k n K V kd SK SV (xs (7 * t + 1)) q z o H.size) (vx_cwSW (hh := [(0, 9, 12, 13)]) 3 hts (gd_S mb_161 mb_162 mb_115 mb_163) rfl rfl rfl (by decide +kernel) ⟨by decide, by decide⟩) ⟨cP_blind, cPre hP hD hK hS hA hZ [0, 1, 2, 3, 4, 5, 12] rfl (by decide) [0, 1, 2, 3, 4, 10] rfl⟩ rfl rfl hl.1 rfl (lv_room (Nat.le_of_ble_eq_true rfl)) dL_law_465 ⟨by rw [rm_c]; omega, by rw [rm_s]; omega⟩) hP hD hS hA [0, 1, 2, 3, 4, 5, 12] [6, 7, 8, 9, 10, 11] rfl rfl (by decide) (by decide) (fun r9 H locs hp hP hD hS => ?_)
  have hP := hP.sub (ws' := wX a k n K V kd SK SV ++ wM bb g cd n K V (fun i9 => kd i9 + 1) SK SV ++ wO q z (oS (cdD (xs (7 * t + 1))) (kd (ix (xs (7 * t + 1)))).toInt64 o)) [6, 7, 8, 9, 10, 11, 0, 1, 2, 3, 4, 5, 12] rfl
  have hD := hD.sub (ws' := wX a k n K V kd SK SV ++ wM bb g cd n K V (fun i9 => kd i9 + 1) SK SV ++ wO q z (oS (cdD (xs (7 * t + 1))) (kd (ix (xs (7 * t + 1)))).toInt64 o)) [6, 7, 8, 9, 10, 11, 0, 1, 2, 3, 4, 5, 12] (by decide) rfl
  have hP : va_P D vwCl (wX a k n K V kd SK SV ++ wM bb g cd n K V (fun i9 => kd i9 + 1) SK SV ++ wO q z (oS (cdD (xs (7 * t + 1))) (kd (ix (xs (7 * t + 1)))).toInt64 o)) H := hP
  have hD : va_D A (wX a k n K V kd SK SV ++ wM bb g cd n K V (fun i9 => kd i9 + 1) SK SV ++ wO q z (oS (cdD (xs (7 * t + 1))) (kd (ix (xs (7 * t + 1)))).toInt64 o)) := hD
  have hp : r9 = cdD (xs (7 * t + 1)) := hp
  subst hp
  refine lv_istore (lv' := [(5, .int (cdD (xs (7 * t + 1)))), (4, .int (nI (7 * t))), (0, .ref b), (1, .ref (a 0)), (2, .ref (bb 0)), (3, .ref q)]) hx hb dL_law_468 hl (by decide) rfl (fun ls hl => ?_)
  refine lv_aload_n hx hb dL_law_470 rfl (lv_at hl 4 rfl) ?_
  refine lv_aload_n hx hb dL_law_471 rfl (lv_at hl 2 rfl) ?_
  refine lv_iload hx hb dL_law_472 (lv_at hl 1 rfl) ?_
  refine lv_iconst (v := 1) hx hb dL_law_474 (by decide) ?_
  refine lv_iadd hx hb dL_law_475 ?_
  refine xi (y := nI (7 * t + 1)) (nI_add (7 * t) 1) ?_
  refine x_sld (j := (7 * t + 1)) hx hb hX hbl hbA hS (by omega) (by omega) dL_law_476 ?_
  refine kn_i (wc := (wM bb g cd n K V (fun i9 => kd i9 + 1) SK SV)) (wr := (wX a k n K V kd SK SV ++ wO q z (oS (cdD (xs (7 * t + 1))) (kd (ix (xs (7 * t + 1)))).toInt64 o))) (w1 := (wM bb g (cdD (xs (7 * t + 1))) n K V (fun i9 => kd i9 + 1) SK SV)) (va_runV (As := [.int (xs (7 * t + 1))]) (rest := []) ⟨hx, hb, hml, hown, hts⟩ (m_kind l hl9 D bb g cd n K V kd SK SV (xs (7 * t + 1)) H.size) (cwV 1 hts (gd_V mb_164 mb_165 mb_166 mb_50 mb_167) rfl rfl rfl (by decide +kernel) ⟨by decide, by decide⟩) ⟨cP_blind, va_recv (q0 := 6) (ci := 1) (q := (RX1, TX1, 7)) hK hP rfl rfl, cPre hP hD hK hS hA hZ [6, 7, 8, 9, 10, 11] rfl (by decide) [5, 6, 7, 8, 9] rfl⟩ rfl rfl hl.1 rfl (lv_room (Nat.le_of_ble_eq_true rfl)) dL_law_477 ⟨by rw [rm_c]; omega, by rw [rm_s]; omega⟩) hP hD hS hA [6, 7, 8, 9, 10, 11] [0, 1, 2, 3, 4, 5, 12] rfl rfl (by decide) (by decide) (fun r9 H locs hp hP hD hS => ?_)
  have hP := hP.sub (ws' := wX a k n K V kd SK SV ++ wM bb g (cdD (xs (7 * t + 1))) n K V (fun i9 => kd i9 + 1) SK SV ++ wO q z (oS (cdD (xs (7 * t + 1))) (kd (ix (xs (7 * t + 1)))).toInt64 o)) [0, 1, 2, 3, 4, 5, 7, 8, 9, 10, 11, 12, 6] rfl
  have hD := hD.sub (ws' := wX a k n K V kd SK SV ++ wM bb g (cdD (xs (7 * t + 1))) n K V (fun i9 => kd i9 + 1) SK SV ++ wO q z (oS (cdD (xs (7 * t + 1))) (kd (ix (xs (7 * t + 1)))).toInt64 o)) [0, 1, 2, 3, 4, 5, 7, 8, 9, 10, 11, 12, 6] (by decide) rfl
  have hP : va_P D vwCl (wX a k n K V kd SK SV ++ wM bb g (cdD (xs (7 * t + 1))) n K V (fun i9 => kd i9 + 1) SK SV ++ wO q z (oS (cdD (xs (7 * t + 1))) (kd (ix (xs (7 * t + 1)))).toInt64 o)) H := hP
  have hD : va_D A (wX a k n K V kd SK SV ++ wM bb g (cdD (xs (7 * t + 1))) n K V (fun i9 => kd i9 + 1) SK SV ++ wO q z (oS (cdD (xs (7 * t + 1))) (kd (ix (xs (7 * t + 1)))).toInt64 o)) := hD
  have hp0 := hp
  generalize r9 = v9 at hp0 ⊢
  refine lv_istore (lv' := [(6, .int v9), (5, .int (cdD (xs (7 * t + 1)))), (4, .int (nI (7 * t))), (0, .ref b), (1, .ref (a 0)), (2, .ref (bb 0)), (3, .ref q)]) hx hb dL_law_480 hl (by decide) rfl (fun ls hl => ?_)
  refine lv_aload_n hx hb dL_law_482 rfl (lv_at hl 5 rfl) ?_
  refine kn_i (wc := (wM bb g (cdD (xs (7 * t + 1))) n K V (fun i9 => kd i9 + 1) SK SV)) (wr := (wX a k n K V kd SK SV ++ wO q z (oS (cdD (xs (7 * t + 1))) (kd (ix (xs (7 * t + 1)))).toInt64 o))) (w1 := (wM bb g (cdD (xs (7 * t + 1))) n K V (fun i9 => kd i9 + 1) SK SV)) (va_runV (As := []) (rest := []) ⟨hx, hb, hml, hown, hts⟩ (m_thrown l hl9 D bb g (cdD (xs (7 * t + 1))) n K V kd SK SV H.size) (cwV 0 hts (gd_V mb_121 mb_122 mb_123 mb_50 mb_124) rfl rfl rfl (by decide +kernel) ⟨by decide, by decide⟩) ⟨cP_blind, va_recv (q0 := 6) (ci := 1) (q := (RX1, TX1, 7)) hK hP rfl rfl, cPre hP hD hK hS hA hZ [6, 7, 8, 9, 10, 11] rfl (by decide) [5, 6, 7, 8, 9] rfl⟩ rfl rfl hl.1 rfl (lv_room (Nat.le_of_ble_eq_true rfl)) dL_law_483 ⟨by rw [rm_c]; omega, by rw [rm_s]; omega⟩) hP hD hS hA [6, 7, 8, 9, 10, 11] [0, 1, 2, 3, 4, 5, 12] rfl rfl (by decide) (by decide) (fun r9 H locs hp hP hD hS => ?_)
  have hP := hP.sub (ws' := wX a k n K V kd SK SV ++ wM bb g (cdD (xs (7 * t + 1))) n K V (fun i9 => kd i9 + 1) SK SV ++ wO q z (oS (cdD (xs (7 * t + 1))) (kd (ix (xs (7 * t + 1)))).toInt64 o)) [0, 1, 2, 3, 4, 5, 7, 8, 9, 10, 11, 12, 6] rfl
  have hD := hD.sub (ws' := wX a k n K V kd SK SV ++ wM bb g (cdD (xs (7 * t + 1))) n K V (fun i9 => kd i9 + 1) SK SV ++ wO q z (oS (cdD (xs (7 * t + 1))) (kd (ix (xs (7 * t + 1)))).toInt64 o)) [0, 1, 2, 3, 4, 5, 7, 8, 9, 10, 11, 12, 6] (by decide) rfl
  have hP : va_P D vwCl (wX a k n K V kd SK SV ++ wM bb g (cdD (xs (7 * t + 1))) n K V (fun i9 => kd i9 + 1) SK SV ++ wO q z (oS (cdD (xs (7 * t + 1))) (kd (ix (xs (7 * t + 1)))).toInt64 o)) H := hP
  have hD : va_D A (wX a k n K V kd SK SV ++ wM bb g (cdD (xs (7 * t + 1))) n K V (fun i9 => kd i9 + 1) SK SV ++ wO q z (oS (cdD (xs (7 * t + 1))) (kd (ix (xs (7 * t + 1)))).toInt64 o)) := hD
  have hp : r9 = cdD (xs (7 * t + 1)) := hp
  subst hp
  refine lv_iload hx hb dL_law_486 (lv_at hl 1 rfl) ?_
  refine lv_icmp_eq (tgt := 493) hx hb dL_law_488 (by decide) (fun h1 => ?_) (fun h1 => ?_)
  · skip
    refine lv_iload hx hb dL_law_493 (lv_at hl 1 rfl) ?_
    refine lv_if_ne (tgt := 510) hx hb dL_law_495 (by decide) (fun h2 => ?_) (fun h2 => ?_)
    · skip
      refine lv_goto (tgt := 839) hx hb dL_law_510 (by decide) ?_
      refine W.widen (k := 13 + 1 * (t + 1)) (n := 462 + 6 * (t + 1)) (by omega) (by omega) ?_
      exact nx n K V kd SK SV (cdD (xs (7 * t + 1))) (oS (cdD (xs (7 * t + 1))) (kd (ix (xs (7 * t + 1)))).toInt64 o) H locs ls hI hP hD hS (lv_sub hl [2, 3, 4, 5, 6] rfl)
    · skip
      have hs : okS (xs (7 * t + 1)) := cdD_0 h2
      have h3 := hp0 hs
      subst h3
      refine lv_aload_n hx hb dL_law_498 rfl (lv_at hl 6 rfl) ?_
      refine lv_iconst (v := 0) hx hb dL_law_499 (by decide) ?_
      refine xi (y := nI 0) rfl ?_
      refine x_lald (j := 0) hx hb hK hP 12 10 rfl rfl (by decide) (by decide) dL_law_500 ?_
      refine xl (y := (kd (ix (xs (7 * t + 1)))).toInt64) (oS_at h2) ?_
      refine lv_iload hx hb dL_law_501 (lv_at hl 0 rfl) ?_
      refine lv_i2l (v := (kd (ix (xs (7 * t + 1)))).toInt64) hx hb dL_law_503 rfl ?_
      refine W.lcmp hx hb dL_law_504 ?_
      refine lv_if_eq (tgt := 510) hx hb dL_law_505 (by decide) (fun h4 => ?_) (fun h4 => ?_)
      · skip
        refine lv_goto (tgt := 839) hx hb dL_law_510 (by decide) ?_
        refine W.widen (k := 13 + 1 * (t + 1)) (n := 462 + 6 * (t + 1)) (by omega) (by omega) ?_
        exact nx n K V kd SK SV (cdD (xs (7 * t + 1))) (oS (cdD (xs (7 * t + 1))) (kd (ix (xs (7 * t + 1)))).toInt64 o) H locs ls hI hP hD hS (lv_sub hl [2, 3, 4, 5, 6] rfl)
      · skip
        exact absurd ((lg_cmp_eq _ _).mpr rfl) h4
  · skip
    exact absurd rfl h1
set_option maxHeartbeats 1000000 in
set_option maxRecDepth 100000 in
theorem law_7 {p : Program} {e : Env} {s : State} {m : MethodId} {below : List Frame} {meth : Method} {c : Code} {l : Launch} {b L : Nat} {xs : Nat → Int32} {D : va_G} {A : Nat → Prop} {a : Nat → Nat} {k : Nat → ClassId} {bb : Nat → Nat} {g : Nat → ClassId} {q : Nat} {z : ClassId} (hl9 : l.stackTraces = false) (hx : p.tables.exec = Jvm.exec) (hb : c.code = cL_law) (hr : meth.sig.returnType = some .boolean) (hml : c.maxLocals = 8) (hlocks : meth.locks = false) (hown : s.vm.findClass RL = some m.cls) (hts : ∀ w ∈ ALL, w.before #[Value.ref b] s = true) (hX : va_X b L xs s s.heap) (hbl : b < s.heap.size) (hbA : ¬ A b) (hK : va_K D vwCl (tX k ++ tM g ++ tO z) s) (hZ : zx A s s.heap) (hA : ∀ q : Nat, s.heap.size ≤ q → A q) (hL : L ≤ 3584) (t : Nat) (ht : 7 * t + 7 ≤ L) (n : Nat) (K V : Nat → Int64) (kd : Nat → Int32) (SK SV : Nat → Int64) (cd : Int32) (o : Nat → Int64) (H : Heap) (locs : List Loc) (ls : Array Slot) (hI : inv n K kd) (hP : va_P D vwCl (wX a k n K V kd SK SV ++ wM bb g cd n K V (fun i9 => kd i9 + 1) SK SV ++ wO q z o) H) (hD : va_D A (wX a k n K V kd SK SV ++ wM bb g cd n K V (fun i9 => kd i9 + 1) SK SV ++ wO q z o)) (hS : va_S A s.heap H locs) (hl : lv_has ls 8 [(4, .int (nI (7 * t))), (0, .ref b), (1, .ref (a 0)), (2, .ref (bb 0)), (3, .ref q)])
    (nx : ∀ (n : Nat) (K V : Nat → Int64) (kd : Nat → Int32) (SK SV : Nat → Int64) (cd : Int32) (o : Nat → Int64) (H : Heap) (locs : List Loc) (ls : Array Slot), inv n K kd → va_P D vwCl (wX a k n K V kd SK SV ++ wM bb g cd n K V (fun i9 => kd i9 + 1) SK SV ++ wO q z o) H → va_D A (wX a k n K V kd SK SV ++ wM bb g cd n K V (fun i9 => kd i9 + 1) SK SV ++ wO q z o) → va_S A s.heap H locs → lv_has ls 8 [(4, .int (nI (7 * t))), (0, .ref b), (1, .ref (a 0)), (2, .ref (bb 0)), (3, .ref q)] → W p l e room_1 s m #[Value.ref b] below meth c H locs (13 + 1 * (t + 1)) (462 + 6 * (t + 1)) (lw_Z below #[Value.ref b] s) (F0 m 839 ls [])) :
    W p l e room_1 s m #[Value.ref b] below meth c H locs (13 + 1 * t) (462 + 6 * t) (lw_Z below #[Value.ref b] s) (F0 m 513 ls []) := by
  have hn := hI.1
  have hk := hI.2.2
  refine lv_aload_n hx hb dL_law_513 rfl (lv_at hl 2 rfl) ?_
  refine kn_i (wc := (wX a k n K V kd SK SV)) (wr := (wM bb g cd n K V (fun i9 => kd i9 + 1) SK SV ++ wO q z o)) (w1 := (wX a k n K V kd SK SV)) (va_runV (As := []) (rest := []) ⟨hx, hb, hml, hown, hts⟩ (c_size l hl9 D a k n K V kd SK SV H.size) (cwV 0 hts (gd_V mb_168 mb_169 mb_170 mb_12 mb_171) rfl rfl rfl (by decide +kernel) ⟨by decide, by decide⟩) ⟨cP_blind, va_recv (q0 := 0) (ci := 0) (q := (RX0, TX0, 6)) hK hP rfl rfl, cPre hP hD hK hS hA hZ [0, 1, 2, 3, 4, 5] rfl (by decide) [0, 1, 2, 3, 4] rfl⟩ rfl rfl hl.1 rfl (lv_room (Nat.le_of_ble_eq_true rfl)) dL_law_514 ⟨by rw [rm_c]; omega, by rw [rm_s]; omega⟩) hP hD hS hA [0, 1, 2, 3, 4, 5] [6, 7, 8, 9, 10, 11, 12] rfl rfl (by decide) (by decide) (fun r9 H locs hp hP hD hS => ?_)
  have hP := hP.sub (ws' := wX a k n K V kd SK SV ++ wM bb g cd n K V (fun i9 => kd i9 + 1) SK SV ++ wO q z o) [7, 8, 9, 10, 11, 12, 0, 1, 2, 3, 4, 5, 6] rfl
  have hD := hD.sub (ws' := wX a k n K V kd SK SV ++ wM bb g cd n K V (fun i9 => kd i9 + 1) SK SV ++ wO q z o) [7, 8, 9, 10, 11, 12, 0, 1, 2, 3, 4, 5, 6] (by decide) rfl
  have hP : va_P D vwCl (wX a k n K V kd SK SV ++ wM bb g cd n K V (fun i9 => kd i9 + 1) SK SV ++ wO q z o) H := hP
  have hD : va_D A (wX a k n K V kd SK SV ++ wM bb g cd n K V (fun i9 => kd i9 + 1) SK SV ++ wO q z o) := hD
  have hp : r9 = nI n := hp
  subst hp
  refine lv_aload_n hx hb dL_law_517 rfl (lv_at hl 3 rfl) ?_
  refine kn_i (wc := (wM bb g cd n K V (fun i9 => kd i9 + 1) SK SV)) (wr := (wX a k n K V kd SK SV ++ wO q z o)) (w1 := (wM bb g 0 n K V (fun i9 => kd i9 + 1) SK SV)) (va_runV (As := []) (rest := [.int (nI n)]) ⟨hx, hb, hml, hown, hts⟩ (m_size l hl9 D bb g cd n K V kd SK SV H.size) (cwV 0 hts (gd_V mb_172 mb_173 mb_174 mb_50 mb_175) rfl rfl rfl (by decide +kernel) ⟨by decide, by decide⟩) ⟨cP_blind, va_recv (q0 := 6) (ci := 1) (q := (RX1, TX1, 7)) hK hP rfl rfl, cPre hP hD hK hS hA hZ [6, 7, 8, 9, 10, 11] rfl (by decide) [5, 6, 7, 8, 9] rfl⟩ rfl rfl hl.1 rfl (lv_room (Nat.le_of_ble_eq_true rfl)) dL_law_518 ⟨by rw [rm_c]; omega, by rw [rm_s]; omega⟩) hP hD hS hA [6, 7, 8, 9, 10, 11] [0, 1, 2, 3, 4, 5, 12] rfl rfl (by decide) (by decide) (fun r9 H locs hp hP hD hS => ?_)
  have hP := hP.sub (ws' := wX a k n K V kd SK SV ++ wM bb g 0 n K V (fun i9 => kd i9 + 1) SK SV ++ wO q z o) [0, 1, 2, 3, 4, 5, 7, 8, 9, 10, 11, 12, 6] rfl
  have hD := hD.sub (ws' := wX a k n K V kd SK SV ++ wM bb g 0 n K V (fun i9 => kd i9 + 1) SK SV ++ wO q z o) [0, 1, 2, 3, 4, 5, 7, 8, 9, 10, 11, 12, 6] (by decide) rfl
  have hP : va_P D vwCl (wX a k n K V kd SK SV ++ wM bb g 0 n K V (fun i9 => kd i9 + 1) SK SV ++ wO q z o) H := hP
  have hD : va_D A (wX a k n K V kd SK SV ++ wM bb g 0 n K V (fun i9 => kd i9 + 1) SK SV ++ wO q z o) := hD
  have hp : r9 = nI n := hp
  subst hp
  refine lv_icmp_eq (tgt := 839) hx hb dL_law_521 (by decide) (fun h1 => ?_) (fun h1 => ?_)
  · skip
    refine W.widen (k := 13 + 1 * (t + 1)) (n := 462 + 6 * (t + 1)) (by omega) (by omega) ?_
    exact nx n K V kd SK SV 0 o H locs ls hI hP hD hS (lv_sub hl [0, 1, 2, 3, 4] rfl)
  · skip
    exact absurd rfl h1
set_option maxHeartbeats 1000000 in
set_option maxRecDepth 100000 in
theorem law_8 {p : Program} {e : Env} {s : State} {m : MethodId} {below : List Frame} {meth : Method} {c : Code} {l : Launch} {b L : Nat} {xs : Nat → Int32} {D : va_G} {A : Nat → Prop} {a : Nat → Nat} {k : Nat → ClassId} {bb : Nat → Nat} {g : Nat → ClassId} {q : Nat} {z : ClassId} (hl9 : l.stackTraces = false) (hx : p.tables.exec = Jvm.exec) (hb : c.code = cL_law) (hr : meth.sig.returnType = some .boolean) (hml : c.maxLocals = 8) (hlocks : meth.locks = false) (hown : s.vm.findClass RL = some m.cls) (hts : ∀ w ∈ ALL, w.before #[Value.ref b] s = true) (hX : va_X b L xs s s.heap) (hbl : b < s.heap.size) (hbA : ¬ A b) (hK : va_K D vwCl (tX k ++ tM g ++ tO z) s) (hZ : zx A s s.heap) (hA : ∀ q : Nat, s.heap.size ≤ q → A q) (hL : L ≤ 3584) (t : Nat) (ht : 7 * t + 7 ≤ L) (n : Nat) (K V : Nat → Int64) (kd : Nat → Int32) (SK SV : Nat → Int64) (cd : Int32) (o : Nat → Int64) (H : Heap) (locs : List Loc) (ls : Array Slot) (hI : inv n K kd) (hP : va_P D vwCl (wX a k n K V kd SK SV ++ wM bb g cd n K V (fun i9 => kd i9 + 1) SK SV ++ wO q z o) H) (hD : va_D A (wX a k n K V kd SK SV ++ wM bb g cd n K V (fun i9 => kd i9 + 1) SK SV ++ wO q z o)) (hS : va_S A s.heap H locs) (hl : lv_has ls 8 [(4, .int (nI (7 * t))), (0, .ref b), (1, .ref (a 0)), (2, .ref (bb 0)), (3, .ref q)])
    (nx : ∀ (n : Nat) (K V : Nat → Int64) (kd : Nat → Int32) (SK SV : Nat → Int64) (cd : Int32) (o : Nat → Int64) (H : Heap) (locs : List Loc) (ls : Array Slot), inv n K kd → va_P D vwCl (wX a k n K V kd SK SV ++ wM bb g cd n K V (fun i9 => kd i9 + 1) SK SV ++ wO q z o) H → va_D A (wX a k n K V kd SK SV ++ wM bb g cd n K V (fun i9 => kd i9 + 1) SK SV ++ wO q z o) → va_S A s.heap H locs → lv_has ls 8 [(4, .int (nI (7 * t))), (0, .ref b), (1, .ref (a 0)), (2, .ref (bb 0)), (3, .ref q)] → W p l e room_1 s m #[Value.ref b] below meth c H locs (13 + 1 * (t + 1)) (462 + 6 * (t + 1)) (lw_Z below #[Value.ref b] s) (F0 m 839 ls [])) :
    W p l e room_1 s m #[Value.ref b] below meth c H locs (13 + 1 * t) (462 + 6 * t) (lw_Z below #[Value.ref b] s) (F0 m 526 ls []) := by
  have hn := hI.1
  have hk := hI.2.2
  refine lv_aload_n hx hb dL_law_526 rfl (lv_at hl 2 rfl) ?_
  refine lv_aload_n hx hb dL_law_527 rfl (lv_at hl 1 rfl) ?_
  refine lv_iload hx hb dL_law_528 (lv_at hl 0 rfl) ?_
  refine lv_iconst (v := 1) hx hb dL_law_530 (by decide) ?_
  refine lv_iadd hx hb dL_law_531 ?_
  refine xi (y := nI (7 * t + 1)) (nI_add (7 * t) 1) ?_
  refine x_sld (j := (7 * t + 1)) hx hb hX hbl hbA hS (by omega) (by omega) dL_law_532 ?_
  refine lv_aload_n hx hb dL_law_533 rfl (lv_at hl 4 rfl) ?_
  refine kn_i (wc := (wX a k n K V kd SK SV ++ wO q z o)) (wr := (wM bb g cd n K V (fun i9 => kd i9 + 1) SK SV)) (w1 := (wX a k n K V kd SK SV ++ wO q z (oS (cdP (xs (7 * t + 1)) n) (K (ix (xs (7 * t + 1)))) o))) (vx_runSW (As := [.ref (a 0), .int (xs (7 * t + 1)), .ref q]) (rest := []) ⟨hx, hb, hml, hown, hts⟩ (h_key l hl9 D a k n K V kd SK SV (xs (7 * t + 1)) q z o H.size hn) (vx_cwSW (hh := [(0, 8, 11, 42)]) 3 hts (gd_S mb_192 mb_193 mb_115 mb_194) rfl rfl rfl (by decide +kernel) ⟨by decide, by decide⟩) ⟨cP_blind, cPre hP hD hK hS hA hZ [0, 1, 2, 3, 4, 5, 12] rfl (by decide) [0, 1, 2, 3, 4, 10] rfl⟩ rfl rfl hl.1 rfl (lv_room (Nat.le_of_ble_eq_true rfl)) dL_law_534 ⟨by rw [rm_c]; omega, by rw [rm_s]; omega⟩) hP hD hS hA [0, 1, 2, 3, 4, 5, 12] [6, 7, 8, 9, 10, 11] rfl rfl (by decide) (by decide) (fun r9 H locs hp hP hD hS => ?_)
  have hP := hP.sub (ws' := wX a k n K V kd SK SV ++ wM bb g cd n K V (fun i9 => kd i9 + 1) SK SV ++ wO q z (oS (cdP (xs (7 * t + 1)) n) (K (ix (xs (7 * t + 1)))) o)) [6, 7, 8, 9, 10, 11, 0, 1, 2, 3, 4, 5, 12] rfl
  have hD := hD.sub (ws' := wX a k n K V kd SK SV ++ wM bb g cd n K V (fun i9 => kd i9 + 1) SK SV ++ wO q z (oS (cdP (xs (7 * t + 1)) n) (K (ix (xs (7 * t + 1)))) o)) [6, 7, 8, 9, 10, 11, 0, 1, 2, 3, 4, 5, 12] (by decide) rfl
  have hP : va_P D vwCl (wX a k n K V kd SK SV ++ wM bb g cd n K V (fun i9 => kd i9 + 1) SK SV ++ wO q z (oS (cdP (xs (7 * t + 1)) n) (K (ix (xs (7 * t + 1)))) o)) H := hP
  have hD : va_D A (wX a k n K V kd SK SV ++ wM bb g cd n K V (fun i9 => kd i9 + 1) SK SV ++ wO q z (oS (cdP (xs (7 * t + 1)) n) (K (ix (xs (7 * t + 1)))) o)) := hD
  have hp : r9 = cdP (xs (7 * t + 1)) n := hp
  subst hp
  refine lv_istore (lv' := [(5, .int (cdP (xs (7 * t + 1)) n)), (4, .int (nI (7 * t))), (0, .ref b), (1, .ref (a 0)), (2, .ref (bb 0)), (3, .ref q)]) hx hb dL_law_537 hl (by decide) rfl (fun ls hl => ?_)
  refine lv_aload_n hx hb dL_law_539 rfl (lv_at hl 4 rfl) ?_
  refine lv_aload_n hx hb dL_law_540 rfl (lv_at hl 2 rfl) ?_
  refine lv_iload hx hb dL_law_541 (lv_at hl 1 rfl) ?_
  refine lv_iconst (v := 1) hx hb dL_law_543 (by decide) ?_
  refine lv_iadd hx hb dL_law_544 ?_
  refine xi (y := nI (7 * t + 1)) (nI_add (7 * t) 1) ?_
  refine x_sld (j := (7 * t + 1)) hx hb hX hbl hbA hS (by omega) (by omega) dL_law_545 ?_
  refine kn_l (wc := (wM bb g cd n K V (fun i9 => kd i9 + 1) SK SV)) (wr := (wX a k n K V kd SK SV ++ wO q z (oS (cdP (xs (7 * t + 1)) n) (K (ix (xs (7 * t + 1)))) o))) (w1 := (wM bb g (cdP (xs (7 * t + 1)) n) n K V (fun i9 => kd i9 + 1) SK SV)) (va_runV (As := [.int (xs (7 * t + 1))]) (rest := []) ⟨hx, hb, hml, hown, hts⟩ (m_key l hl9 D bb g cd n K V kd SK SV (xs (7 * t + 1)) H.size hn) (cwV 1 hts (gd_V mb_195 mb_196 mb_197 mb_50 mb_198) rfl rfl rfl (by decide +kernel) ⟨by decide, by decide⟩) ⟨cP_blind, va_recv (q0 := 6) (ci := 1) (q := (RX1, TX1, 7)) hK hP rfl rfl, cPre hP hD hK hS hA hZ [6, 7, 8, 9, 10, 11] rfl (by decide) [5, 6, 7, 8, 9] rfl⟩ rfl rfl hl.1 rfl (lv_room (Nat.le_of_ble_eq_true rfl)) dL_law_546 ⟨by rw [rm_c]; omega, by rw [rm_s]; omega⟩) hP hD hS hA [6, 7, 8, 9, 10, 11] [0, 1, 2, 3, 4, 5, 12] rfl rfl (by decide) (by decide) (fun r9 H locs hp hP hD hS => ?_)
  have hP := hP.sub (ws' := wX a k n K V kd SK SV ++ wM bb g (cdP (xs (7 * t + 1)) n) n K V (fun i9 => kd i9 + 1) SK SV ++ wO q z (oS (cdP (xs (7 * t + 1)) n) (K (ix (xs (7 * t + 1)))) o)) [0, 1, 2, 3, 4, 5, 7, 8, 9, 10, 11, 12, 6] rfl
  have hD := hD.sub (ws' := wX a k n K V kd SK SV ++ wM bb g (cdP (xs (7 * t + 1)) n) n K V (fun i9 => kd i9 + 1) SK SV ++ wO q z (oS (cdP (xs (7 * t + 1)) n) (K (ix (xs (7 * t + 1)))) o)) [0, 1, 2, 3, 4, 5, 7, 8, 9, 10, 11, 12, 6] (by decide) rfl
  have hP : va_P D vwCl (wX a k n K V kd SK SV ++ wM bb g (cdP (xs (7 * t + 1)) n) n K V (fun i9 => kd i9 + 1) SK SV ++ wO q z (oS (cdP (xs (7 * t + 1)) n) (K (ix (xs (7 * t + 1)))) o)) H := hP
  have hD : va_D A (wX a k n K V kd SK SV ++ wM bb g (cdP (xs (7 * t + 1)) n) n K V (fun i9 => kd i9 + 1) SK SV ++ wO q z (oS (cdP (xs (7 * t + 1)) n) (K (ix (xs (7 * t + 1)))) o)) := hD
  have hp0 := hp
  generalize r9 = v9 at hp0 ⊢
  refine lv_lstore (lv' := [(6, .long v9), (5, .int (cdP (xs (7 * t + 1)) n)), (4, .int (nI (7 * t))), (0, .ref b), (1, .ref (a 0)), (2, .ref (bb 0)), (3, .ref q)]) hx hb dL_law_549 hl (by decide) rfl (fun ls hl => ?_)
  refine lv_aload_n hx hb dL_law_551 rfl (lv_at hl 5 rfl) ?_
  refine kn_i (wc := (wM bb g (cdP (xs (7 * t + 1)) n) n K V (fun i9 => kd i9 + 1) SK SV)) (wr := (wX a k n K V kd SK SV ++ wO q z (oS (cdP (xs (7 * t + 1)) n) (K (ix (xs (7 * t + 1)))) o))) (w1 := (wM bb g (cdP (xs (7 * t + 1)) n) n K V (fun i9 => kd i9 + 1) SK SV)) (va_runV (As := []) (rest := []) ⟨hx, hb, hml, hown, hts⟩ (m_thrown l hl9 D bb g (cdP (xs (7 * t + 1)) n) n K V kd SK SV H.size) (cwV 0 hts (gd_V mb_121 mb_122 mb_123 mb_50 mb_124) rfl rfl rfl (by decide +kernel) ⟨by decide, by decide⟩) ⟨cP_blind, va_recv (q0 := 6) (ci := 1) (q := (RX1, TX1, 7)) hK hP rfl rfl, cPre hP hD hK hS hA hZ [6, 7, 8, 9, 10, 11] rfl (by decide) [5, 6, 7, 8, 9] rfl⟩ rfl rfl hl.1 rfl (lv_room (Nat.le_of_ble_eq_true rfl)) dL_law_552 ⟨by rw [rm_c]; omega, by rw [rm_s]; omega⟩) hP hD hS hA [6, 7, 8, 9, 10, 11] [0, 1, 2, 3, 4, 5, 12] rfl rfl (by decide) (by decide) (fun r9 H locs hp hP hD hS => ?_)
  have hP := hP.sub (ws' := wX a k n K V kd SK SV ++ wM bb g (cdP (xs (7 * t + 1)) n) n K V (fun i9 => kd i9 + 1) SK SV ++ wO q z (oS (cdP (xs (7 * t + 1)) n) (K (ix (xs (7 * t + 1)))) o)) [0, 1, 2, 3, 4, 5, 7, 8, 9, 10, 11, 12, 6] rfl
  have hD := hD.sub (ws' := wX a k n K V kd SK SV ++ wM bb g (cdP (xs (7 * t + 1)) n) n K V (fun i9 => kd i9 + 1) SK SV ++ wO q z (oS (cdP (xs (7 * t + 1)) n) (K (ix (xs (7 * t + 1)))) o)) [0, 1, 2, 3, 4, 5, 7, 8, 9, 10, 11, 12, 6] (by decide) rfl
  have hP : va_P D vwCl (wX a k n K V kd SK SV ++ wM bb g (cdP (xs (7 * t + 1)) n) n K V (fun i9 => kd i9 + 1) SK SV ++ wO q z (oS (cdP (xs (7 * t + 1)) n) (K (ix (xs (7 * t + 1)))) o)) H := hP
  have hD : va_D A (wX a k n K V kd SK SV ++ wM bb g (cdP (xs (7 * t + 1)) n) n K V (fun i9 => kd i9 + 1) SK SV ++ wO q z (oS (cdP (xs (7 * t + 1)) n) (K (ix (xs (7 * t + 1)))) o)) := hD
  have hp : r9 = cdP (xs (7 * t + 1)) n := hp
  subst hp
  refine lv_iload hx hb dL_law_555 (lv_at hl 1 rfl) ?_
  refine lv_icmp_eq (tgt := 562) hx hb dL_law_557 (by decide) (fun h1 => ?_) (fun h1 => ?_)
  · skip
    refine lv_iload hx hb dL_law_562 (lv_at hl 1 rfl) ?_
    refine lv_if_ne (tgt := 578) hx hb dL_law_564 (by decide) (fun h2 => ?_) (fun h2 => ?_)
    · skip
      refine lv_goto (tgt := 839) hx hb dL_law_578 (by decide) ?_
      refine W.widen (k := 13 + 1 * (t + 1)) (n := 462 + 6 * (t + 1)) (by omega) (by omega) ?_
      exact nx n K V kd SK SV (cdP (xs (7 * t + 1)) n) (oS (cdP (xs (7 * t + 1)) n) (K (ix (xs (7 * t + 1)))) o) H locs ls hI hP hD hS (lv_sub hl [2, 3, 4, 5, 6] rfl)
    · skip
      have h3 := hp0 (cdP_0 h2)
      subst h3
      refine lv_aload_n hx hb dL_law_567 rfl (lv_at hl 6 rfl) ?_
      refine lv_iconst (v := 0) hx hb dL_law_568 (by decide) ?_
      refine xi (y := nI 0) rfl ?_
      refine x_lald (j := 0) hx hb hK hP 12 10 rfl rfl (by decide) (by decide) dL_law_569 ?_
      refine xl (y := K (ix (xs (7 * t + 1)))) (oS_at h2) ?_
      refine lv_lload hx hb dL_law_570 (lv_at hl 0 rfl) ?_
      refine W.lcmp hx hb dL_law_572 ?_
      refine lv_if_eq (tgt := 578) hx hb dL_law_573 (by decide) (fun h4 => ?_) (fun h4 => ?_)
      · skip
        refine lv_goto (tgt := 839) hx hb dL_law_578 (by decide) ?_
        refine W.widen (k := 13 + 1 * (t + 1)) (n := 462 + 6 * (t + 1)) (by omega) (by omega) ?_
        exact nx n K V kd SK SV (cdP (xs (7 * t + 1)) n) (oS (cdP (xs (7 * t + 1)) n) (K (ix (xs (7 * t + 1)))) o) H locs ls hI hP hD hS (lv_sub hl [2, 3, 4, 5, 6] rfl)
      · skip
        exact absurd ((lg_cmp_eq _ _).mpr rfl) h4
  · skip
    exact absurd rfl h1
set_option maxHeartbeats 1000000 in
set_option maxRecDepth 100000 in
theorem law_9 {p : Program} {e : Env} {s : State} {m : MethodId} {below : List Frame} {meth : Method} {c : Code} {l : Launch} {b L : Nat} {xs : Nat → Int32} {D : va_G} {A : Nat → Prop} {a : Nat → Nat} {k : Nat → ClassId} {bb : Nat → Nat} {g : Nat → ClassId} {q : Nat} {z : ClassId} (hl9 : l.stackTraces = false) (hx : p.tables.exec = Jvm.exec) (hb : c.code = cL_law) (hr : meth.sig.returnType = some .boolean) (hml : c.maxLocals = 8) (hlocks : meth.locks = false) (hown : s.vm.findClass RL = some m.cls) (hts : ∀ w ∈ ALL, w.before #[Value.ref b] s = true) (hX : va_X b L xs s s.heap) (hbl : b < s.heap.size) (hbA : ¬ A b) (hK : va_K D vwCl (tX k ++ tM g ++ tO z) s) (hZ : zx A s s.heap) (hA : ∀ q : Nat, s.heap.size ≤ q → A q) (hL : L ≤ 3584) (t : Nat) (ht : 7 * t + 7 ≤ L) (n : Nat) (K V : Nat → Int64) (kd : Nat → Int32) (SK SV : Nat → Int64) (cd : Int32) (o : Nat → Int64) (H : Heap) (locs : List Loc) (ls : Array Slot) (hI : inv n K kd) (hP : va_P D vwCl (wX a k n K V kd SK SV ++ wM bb g cd n K V (fun i9 => kd i9 + 1) SK SV ++ wO q z o) H) (hD : va_D A (wX a k n K V kd SK SV ++ wM bb g cd n K V (fun i9 => kd i9 + 1) SK SV ++ wO q z o)) (hS : va_S A s.heap H locs) (hl : lv_has ls 8 [(4, .int (nI (7 * t))), (0, .ref b), (1, .ref (a 0)), (2, .ref (bb 0)), (3, .ref q)])
    (nx : ∀ (n : Nat) (K V : Nat → Int64) (kd : Nat → Int32) (SK SV : Nat → Int64) (cd : Int32) (o : Nat → Int64) (H : Heap) (locs : List Loc) (ls : Array Slot), inv n K kd → va_P D vwCl (wX a k n K V kd SK SV ++ wM bb g cd n K V (fun i9 => kd i9 + 1) SK SV ++ wO q z o) H → va_D A (wX a k n K V kd SK SV ++ wM bb g cd n K V (fun i9 => kd i9 + 1) SK SV ++ wO q z o) → va_S A s.heap H locs → lv_has ls 8 [(4, .int (nI (7 * t))), (0, .ref b), (1, .ref (a 0)), (2, .ref (bb 0)), (3, .ref q)] → W p l e room_1 s m #[Value.ref b] below meth c H locs (13 + 1 * (t + 1)) (462 + 6 * (t + 1)) (lw_Z below #[Value.ref b] s) (F0 m 839 ls [])) :
    W p l e room_1 s m #[Value.ref b] below meth c H locs (13 + 1 * t) (462 + 6 * t) (lw_Z below #[Value.ref b] s) (F0 m 581 ls []) := by
  have hn := hI.1
  have hk := hI.2.2
  refine lv_aload_n hx hb dL_law_581 rfl (lv_at hl 2 rfl) ?_
  refine lv_aload_n hx hb dL_law_582 rfl (lv_at hl 1 rfl) ?_
  refine lv_iload hx hb dL_law_583 (lv_at hl 0 rfl) ?_
  refine lv_iconst (v := 1) hx hb dL_law_585 (by decide) ?_
  refine lv_iadd hx hb dL_law_586 ?_
  refine xi (y := nI (7 * t + 1)) (nI_add (7 * t) 1) ?_
  refine x_sld (j := (7 * t + 1)) hx hb hX hbl hbA hS (by omega) (by omega) dL_law_587 ?_
  refine lv_aload_n hx hb dL_law_588 rfl (lv_at hl 4 rfl) ?_
  refine kn_i (wc := (wX a k n K V kd SK SV ++ wO q z o)) (wr := (wM bb g cd n K V (fun i9 => kd i9 + 1) SK SV)) (w1 := (wX a k n K V kd SK SV ++ wO q z (oS (cdP (xs (7 * t + 1)) n) (V (ix (xs (7 * t + 1)))) o))) (vx_runSW (As := [.ref (a 0), .int (xs (7 * t + 1)), .ref q]) (rest := []) ⟨hx, hb, hml, hown, hts⟩ (h_value l hl9 D a k n K V kd SK SV (xs (7 * t + 1)) q z o H.size hn) (vx_cwSW (hh := [(0, 8, 11, 42)]) 3 hts (gd_S mb_199 mb_200 mb_115 mb_201) rfl rfl rfl (by decide +kernel) ⟨by decide, by decide⟩) ⟨cP_blind, cPre hP hD hK hS hA hZ [0, 1, 2, 3, 4, 5, 12] rfl (by decide) [0, 1, 2, 3, 4, 10] rfl⟩ rfl rfl hl.1 rfl (lv_room (Nat.le_of_ble_eq_true rfl)) dL_law_589 ⟨by rw [rm_c]; omega, by rw [rm_s]; omega⟩) hP hD hS hA [0, 1, 2, 3, 4, 5, 12] [6, 7, 8, 9, 10, 11] rfl rfl (by decide) (by decide) (fun r9 H locs hp hP hD hS => ?_)
  have hP := hP.sub (ws' := wX a k n K V kd SK SV ++ wM bb g cd n K V (fun i9 => kd i9 + 1) SK SV ++ wO q z (oS (cdP (xs (7 * t + 1)) n) (V (ix (xs (7 * t + 1)))) o)) [6, 7, 8, 9, 10, 11, 0, 1, 2, 3, 4, 5, 12] rfl
  have hD := hD.sub (ws' := wX a k n K V kd SK SV ++ wM bb g cd n K V (fun i9 => kd i9 + 1) SK SV ++ wO q z (oS (cdP (xs (7 * t + 1)) n) (V (ix (xs (7 * t + 1)))) o)) [6, 7, 8, 9, 10, 11, 0, 1, 2, 3, 4, 5, 12] (by decide) rfl
  have hP : va_P D vwCl (wX a k n K V kd SK SV ++ wM bb g cd n K V (fun i9 => kd i9 + 1) SK SV ++ wO q z (oS (cdP (xs (7 * t + 1)) n) (V (ix (xs (7 * t + 1)))) o)) H := hP
  have hD : va_D A (wX a k n K V kd SK SV ++ wM bb g cd n K V (fun i9 => kd i9 + 1) SK SV ++ wO q z (oS (cdP (xs (7 * t + 1)) n) (V (ix (xs (7 * t + 1)))) o)) := hD
  have hp : r9 = cdP (xs (7 * t + 1)) n := hp
  subst hp
  refine lv_istore (lv' := [(5, .int (cdP (xs (7 * t + 1)) n)), (4, .int (nI (7 * t))), (0, .ref b), (1, .ref (a 0)), (2, .ref (bb 0)), (3, .ref q)]) hx hb dL_law_592 hl (by decide) rfl (fun ls hl => ?_)
  refine lv_aload_n hx hb dL_law_594 rfl (lv_at hl 4 rfl) ?_
  refine lv_aload_n hx hb dL_law_595 rfl (lv_at hl 2 rfl) ?_
  refine lv_iload hx hb dL_law_596 (lv_at hl 1 rfl) ?_
  refine lv_iconst (v := 1) hx hb dL_law_598 (by decide) ?_
  refine lv_iadd hx hb dL_law_599 ?_
  refine xi (y := nI (7 * t + 1)) (nI_add (7 * t) 1) ?_
  refine x_sld (j := (7 * t + 1)) hx hb hX hbl hbA hS (by omega) (by omega) dL_law_600 ?_
  refine kn_l (wc := (wM bb g cd n K V (fun i9 => kd i9 + 1) SK SV)) (wr := (wX a k n K V kd SK SV ++ wO q z (oS (cdP (xs (7 * t + 1)) n) (V (ix (xs (7 * t + 1)))) o))) (w1 := (wM bb g (cdP (xs (7 * t + 1)) n) n K V (fun i9 => kd i9 + 1) SK SV)) (va_runV (As := [.int (xs (7 * t + 1))]) (rest := []) ⟨hx, hb, hml, hown, hts⟩ (m_value l hl9 D bb g cd n K V kd SK SV (xs (7 * t + 1)) H.size hn) (cwV 1 hts (gd_V mb_202 mb_203 mb_204 mb_50 mb_205) rfl rfl rfl (by decide +kernel) ⟨by decide, by decide⟩) ⟨cP_blind, va_recv (q0 := 6) (ci := 1) (q := (RX1, TX1, 7)) hK hP rfl rfl, cPre hP hD hK hS hA hZ [6, 7, 8, 9, 10, 11] rfl (by decide) [5, 6, 7, 8, 9] rfl⟩ rfl rfl hl.1 rfl (lv_room (Nat.le_of_ble_eq_true rfl)) dL_law_601 ⟨by rw [rm_c]; omega, by rw [rm_s]; omega⟩) hP hD hS hA [6, 7, 8, 9, 10, 11] [0, 1, 2, 3, 4, 5, 12] rfl rfl (by decide) (by decide) (fun r9 H locs hp hP hD hS => ?_)
  have hP := hP.sub (ws' := wX a k n K V kd SK SV ++ wM bb g (cdP (xs (7 * t + 1)) n) n K V (fun i9 => kd i9 + 1) SK SV ++ wO q z (oS (cdP (xs (7 * t + 1)) n) (V (ix (xs (7 * t + 1)))) o)) [0, 1, 2, 3, 4, 5, 7, 8, 9, 10, 11, 12, 6] rfl
  have hD := hD.sub (ws' := wX a k n K V kd SK SV ++ wM bb g (cdP (xs (7 * t + 1)) n) n K V (fun i9 => kd i9 + 1) SK SV ++ wO q z (oS (cdP (xs (7 * t + 1)) n) (V (ix (xs (7 * t + 1)))) o)) [0, 1, 2, 3, 4, 5, 7, 8, 9, 10, 11, 12, 6] (by decide) rfl
  have hP : va_P D vwCl (wX a k n K V kd SK SV ++ wM bb g (cdP (xs (7 * t + 1)) n) n K V (fun i9 => kd i9 + 1) SK SV ++ wO q z (oS (cdP (xs (7 * t + 1)) n) (V (ix (xs (7 * t + 1)))) o)) H := hP
  have hD : va_D A (wX a k n K V kd SK SV ++ wM bb g (cdP (xs (7 * t + 1)) n) n K V (fun i9 => kd i9 + 1) SK SV ++ wO q z (oS (cdP (xs (7 * t + 1)) n) (V (ix (xs (7 * t + 1)))) o)) := hD
  have hp0 := hp
  generalize r9 = v9 at hp0 ⊢
  refine lv_lstore (lv' := [(6, .long v9), (5, .int (cdP (xs (7 * t + 1)) n)), (4, .int (nI (7 * t))), (0, .ref b), (1, .ref (a 0)), (2, .ref (bb 0)), (3, .ref q)]) hx hb dL_law_604 hl (by decide) rfl (fun ls hl => ?_)
  refine lv_aload_n hx hb dL_law_606 rfl (lv_at hl 5 rfl) ?_
  refine kn_i (wc := (wM bb g (cdP (xs (7 * t + 1)) n) n K V (fun i9 => kd i9 + 1) SK SV)) (wr := (wX a k n K V kd SK SV ++ wO q z (oS (cdP (xs (7 * t + 1)) n) (V (ix (xs (7 * t + 1)))) o))) (w1 := (wM bb g (cdP (xs (7 * t + 1)) n) n K V (fun i9 => kd i9 + 1) SK SV)) (va_runV (As := []) (rest := []) ⟨hx, hb, hml, hown, hts⟩ (m_thrown l hl9 D bb g (cdP (xs (7 * t + 1)) n) n K V kd SK SV H.size) (cwV 0 hts (gd_V mb_121 mb_122 mb_123 mb_50 mb_124) rfl rfl rfl (by decide +kernel) ⟨by decide, by decide⟩) ⟨cP_blind, va_recv (q0 := 6) (ci := 1) (q := (RX1, TX1, 7)) hK hP rfl rfl, cPre hP hD hK hS hA hZ [6, 7, 8, 9, 10, 11] rfl (by decide) [5, 6, 7, 8, 9] rfl⟩ rfl rfl hl.1 rfl (lv_room (Nat.le_of_ble_eq_true rfl)) dL_law_607 ⟨by rw [rm_c]; omega, by rw [rm_s]; omega⟩) hP hD hS hA [6, 7, 8, 9, 10, 11] [0, 1, 2, 3, 4, 5, 12] rfl rfl (by decide) (by decide) (fun r9 H locs hp hP hD hS => ?_)
  have hP := hP.sub (ws' := wX a k n K V kd SK SV ++ wM bb g (cdP (xs (7 * t + 1)) n) n K V (fun i9 => kd i9 + 1) SK SV ++ wO q z (oS (cdP (xs (7 * t + 1)) n) (V (ix (xs (7 * t + 1)))) o)) [0, 1, 2, 3, 4, 5, 7, 8, 9, 10, 11, 12, 6] rfl
  have hD := hD.sub (ws' := wX a k n K V kd SK SV ++ wM bb g (cdP (xs (7 * t + 1)) n) n K V (fun i9 => kd i9 + 1) SK SV ++ wO q z (oS (cdP (xs (7 * t + 1)) n) (V (ix (xs (7 * t + 1)))) o)) [0, 1, 2, 3, 4, 5, 7, 8, 9, 10, 11, 12, 6] (by decide) rfl
  have hP : va_P D vwCl (wX a k n K V kd SK SV ++ wM bb g (cdP (xs (7 * t + 1)) n) n K V (fun i9 => kd i9 + 1) SK SV ++ wO q z (oS (cdP (xs (7 * t + 1)) n) (V (ix (xs (7 * t + 1)))) o)) H := hP
  have hD : va_D A (wX a k n K V kd SK SV ++ wM bb g (cdP (xs (7 * t + 1)) n) n K V (fun i9 => kd i9 + 1) SK SV ++ wO q z (oS (cdP (xs (7 * t + 1)) n) (V (ix (xs (7 * t + 1)))) o)) := hD
  have hp : r9 = cdP (xs (7 * t + 1)) n := hp
  subst hp
  refine lv_iload hx hb dL_law_610 (lv_at hl 1 rfl) ?_
  refine lv_icmp_eq (tgt := 617) hx hb dL_law_612 (by decide) (fun h1 => ?_) (fun h1 => ?_)
  · skip
    refine lv_iload hx hb dL_law_617 (lv_at hl 1 rfl) ?_
    refine lv_if_ne (tgt := 633) hx hb dL_law_619 (by decide) (fun h2 => ?_) (fun h2 => ?_)
    · skip
      refine lv_goto (tgt := 839) hx hb dL_law_633 (by decide) ?_
      refine W.widen (k := 13 + 1 * (t + 1)) (n := 462 + 6 * (t + 1)) (by omega) (by omega) ?_
      exact nx n K V kd SK SV (cdP (xs (7 * t + 1)) n) (oS (cdP (xs (7 * t + 1)) n) (V (ix (xs (7 * t + 1)))) o) H locs ls hI hP hD hS (lv_sub hl [2, 3, 4, 5, 6] rfl)
    · skip
      have h3 := hp0 (cdP_0 h2)
      subst h3
      refine lv_aload_n hx hb dL_law_622 rfl (lv_at hl 6 rfl) ?_
      refine lv_iconst (v := 0) hx hb dL_law_623 (by decide) ?_
      refine xi (y := nI 0) rfl ?_
      refine x_lald (j := 0) hx hb hK hP 12 10 rfl rfl (by decide) (by decide) dL_law_624 ?_
      refine xl (y := V (ix (xs (7 * t + 1)))) (oS_at h2) ?_
      refine lv_lload hx hb dL_law_625 (lv_at hl 0 rfl) ?_
      refine W.lcmp hx hb dL_law_627 ?_
      refine lv_if_eq (tgt := 633) hx hb dL_law_628 (by decide) (fun h4 => ?_) (fun h4 => ?_)
      · skip
        refine lv_goto (tgt := 839) hx hb dL_law_633 (by decide) ?_
        refine W.widen (k := 13 + 1 * (t + 1)) (n := 462 + 6 * (t + 1)) (by omega) (by omega) ?_
        exact nx n K V kd SK SV (cdP (xs (7 * t + 1)) n) (oS (cdP (xs (7 * t + 1)) n) (V (ix (xs (7 * t + 1)))) o) H locs ls hI hP hD hS (lv_sub hl [2, 3, 4, 5, 6] rfl)
      · skip
        exact absurd ((lg_cmp_eq _ _).mpr rfl) h4
  · skip
    exact absurd rfl h1
set_option maxHeartbeats 1000000 in
set_option maxRecDepth 100000 in
theorem law_10 {p : Program} {e : Env} {s : State} {m : MethodId} {below : List Frame} {meth : Method} {c : Code} {l : Launch} {b L : Nat} {xs : Nat → Int32} {D : va_G} {A : Nat → Prop} {a : Nat → Nat} {k : Nat → ClassId} {bb : Nat → Nat} {g : Nat → ClassId} {q : Nat} {z : ClassId} (hl9 : l.stackTraces = false) (hx : p.tables.exec = Jvm.exec) (hb : c.code = cL_law) (hr : meth.sig.returnType = some .boolean) (hml : c.maxLocals = 8) (hlocks : meth.locks = false) (hown : s.vm.findClass RL = some m.cls) (hts : ∀ w ∈ ALL, w.before #[Value.ref b] s = true) (hX : va_X b L xs s s.heap) (hbl : b < s.heap.size) (hbA : ¬ A b) (hK : va_K D vwCl (tX k ++ tM g ++ tO z) s) (hZ : zx A s s.heap) (hA : ∀ q : Nat, s.heap.size ≤ q → A q) (hL : L ≤ 3584) (t : Nat) (ht : 7 * t + 7 ≤ L) (n : Nat) (K V : Nat → Int64) (kd : Nat → Int32) (SK SV : Nat → Int64) (cd : Int32) (o : Nat → Int64) (H : Heap) (locs : List Loc) (ls : Array Slot) (hI : inv n K kd) (hP : va_P D vwCl (wX a k n K V kd SK SV ++ wM bb g cd n K V (fun i9 => kd i9 + 1) SK SV ++ wO q z o) H) (hD : va_D A (wX a k n K V kd SK SV ++ wM bb g cd n K V (fun i9 => kd i9 + 1) SK SV ++ wO q z o)) (hS : va_S A s.heap H locs) (hl : lv_has ls 8 [(4, .int (nI (7 * t))), (0, .ref b), (1, .ref (a 0)), (2, .ref (bb 0)), (3, .ref q)])
    (nx : ∀ (n : Nat) (K V : Nat → Int64) (kd : Nat → Int32) (SK SV : Nat → Int64) (cd : Int32) (o : Nat → Int64) (H : Heap) (locs : List Loc) (ls : Array Slot), inv n K kd → va_P D vwCl (wX a k n K V kd SK SV ++ wM bb g cd n K V (fun i9 => kd i9 + 1) SK SV ++ wO q z o) H → va_D A (wX a k n K V kd SK SV ++ wM bb g cd n K V (fun i9 => kd i9 + 1) SK SV ++ wO q z o) → va_S A s.heap H locs → lv_has ls 8 [(4, .int (nI (7 * t))), (0, .ref b), (1, .ref (a 0)), (2, .ref (bb 0)), (3, .ref q)] → W p l e room_1 s m #[Value.ref b] below meth c H locs (13 + 1 * (t + 1)) (462 + 6 * (t + 1)) (lw_Z below #[Value.ref b] s) (F0 m 839 ls [])) :
    W p l e room_1 s m #[Value.ref b] below meth c H locs (13 + 1 * t) (462 + 6 * t) (lw_Z below #[Value.ref b] s) (F0 m 636 ls []) := by
  have hn := hI.1
  have hk := hI.2.2
  refine lv_aload_n hx hb dL_law_636 rfl (lv_at hl 2 rfl) ?_
  refine lv_aload_n hx hb dL_law_637 rfl (lv_at hl 1 rfl) ?_
  refine lv_iload hx hb dL_law_638 (lv_at hl 0 rfl) ?_
  refine lv_iconst (v := 1) hx hb dL_law_640 (by decide) ?_
  refine lv_iadd hx hb dL_law_641 ?_
  refine xi (y := nI (7 * t + 1)) (nI_add (7 * t) 1) ?_
  refine x_sld (j := (7 * t + 1)) hx hb hX hbl hbA hS (by omega) (by omega) dL_law_642 ?_
  refine lv_i2l (v := (xs (7 * t + 1)).toInt64) hx hb dL_law_643 rfl ?_
  refine lv_bipush (v := 32) hx hb dL_law_644 (by decide) ?_
  refine lv_lshl (v := ((xs (7 * t + 1)).toInt64) <<< ((32 : Int32).toInt64 &&& 63)) hx hb dL_law_646 rfl ?_
  refine lv_aload_n hx hb dL_law_647 rfl (lv_at hl 1 rfl) ?_
  refine lv_iload hx hb dL_law_648 (lv_at hl 0 rfl) ?_
  refine lv_iconst (v := 2) hx hb dL_law_650 (by decide) ?_
  refine lv_iadd hx hb dL_law_651 ?_
  refine xi (y := nI (7 * t + 2)) (nI_add (7 * t) 2) ?_
  refine x_sld (j := (7 * t + 2)) hx hb hX hbl hbA hS (by omega) (by omega) dL_law_652 ?_
  refine lv_i2l (v := (xs (7 * t + 2)).toInt64) hx hb dL_law_653 rfl ?_
  refine lv_ldc2 (v := 4294967295) hx hb hown (hts (.constantLong RL 51 (4294967295)) mb_112) dL_law_654 ?_
  refine lv_land hx hb dL_law_657 ?_
  refine lv_lor hx hb dL_law_658 ?_
  refine lv_aload_n hx hb dL_law_659 rfl (lv_at hl 1 rfl) ?_
  refine lv_iload hx hb dL_law_660 (lv_at hl 0 rfl) ?_
  refine lv_iconst (v := 3) hx hb dL_law_662 (by decide) ?_
  refine lv_iadd hx hb dL_law_663 ?_
  refine xi (y := nI (7 * t + 3)) (nI_add (7 * t) 3) ?_
  refine x_sld (j := (7 * t + 3)) hx hb hX hbl hbA hS (by omega) (by omega) dL_law_664 ?_
  refine lv_i2l (v := (xs (7 * t + 3)).toInt64) hx hb dL_law_665 rfl ?_
  refine lv_bipush (v := 32) hx hb dL_law_666 (by decide) ?_
  refine lv_lshl (v := ((xs (7 * t + 3)).toInt64) <<< ((32 : Int32).toInt64 &&& 63)) hx hb dL_law_668 rfl ?_
  refine lv_aload_n hx hb dL_law_669 rfl (lv_at hl 1 rfl) ?_
  refine lv_iload hx hb dL_law_670 (lv_at hl 0 rfl) ?_
  refine lv_iconst (v := 4) hx hb dL_law_672 (by decide) ?_
  refine lv_iadd hx hb dL_law_673 ?_
  refine xi (y := nI (7 * t + 4)) (nI_add (7 * t) 4) ?_
  refine x_sld (j := (7 * t + 4)) hx hb hX hbl hbA hS (by omega) (by omega) dL_law_674 ?_
  refine lv_i2l (v := (xs (7 * t + 4)).toInt64) hx hb dL_law_675 rfl ?_
  refine lv_ldc2 (v := 4294967295) hx hb hown (hts (.constantLong RL 51 (4294967295)) mb_112) dL_law_676 ?_
  refine lv_land hx hb dL_law_679 ?_
  refine lv_lor hx hb dL_law_680 ?_
  refine kn_i (wc := (wX a k n K V kd SK SV)) (wr := (wM bb g cd n K V (fun i9 => kd i9 + 1) SK SV ++ wO q z o)) (w1 := (wX a k n K V kd SK SV)) (va_runV (As := [.long ((((xs (7 * t + 1)).toInt64) <<< ((32 : Int32).toInt64 &&& 63)) ||| (((xs (7 * t + 2)).toInt64) &&& 4294967295)), .long ((((xs (7 * t + 3)).toInt64) <<< ((32 : Int32).toInt64 &&& 63)) ||| (((xs (7 * t + 4)).toInt64) &&& 4294967295))]) (rest := []) ⟨hx, hb, hml, hown, hts⟩ (c_count l hl9 D a k n K V kd SK SV (lwL (xs (7 * t + 1)) (xs (7 * t + 2))) (lwL (xs (7 * t + 3)) (xs (7 * t + 4))) H.size hn) (cwV 2 hts (gd_V mb_176 mb_177 mb_178 mb_12 mb_179) rfl rfl rfl (by decide +kernel) ⟨by decide, by decide⟩) ⟨cP_blind, va_recv (q0 := 0) (ci := 0) (q := (RX0, TX0, 6)) hK hP rfl rfl, cPre hP hD hK hS hA hZ [0, 1, 2, 3, 4, 5] rfl (by decide) [0, 1, 2, 3, 4] rfl⟩ rfl rfl hl.1 rfl (lv_room (Nat.le_of_ble_eq_true rfl)) dL_law_681 ⟨by rw [rm_c]; omega, by rw [rm_s]; omega⟩) hP hD hS hA [0, 1, 2, 3, 4, 5] [6, 7, 8, 9, 10, 11, 12] rfl rfl (by decide) (by decide) (fun r9 H locs hp hP hD hS => ?_)
  have hP := hP.sub (ws' := wX a k n K V kd SK SV ++ wM bb g cd n K V (fun i9 => kd i9 + 1) SK SV ++ wO q z o) [7, 8, 9, 10, 11, 12, 0, 1, 2, 3, 4, 5, 6] rfl
  have hD := hD.sub (ws' := wX a k n K V kd SK SV ++ wM bb g cd n K V (fun i9 => kd i9 + 1) SK SV ++ wO q z o) [7, 8, 9, 10, 11, 12, 0, 1, 2, 3, 4, 5, 6] (by decide) rfl
  have hP : va_P D vwCl (wX a k n K V kd SK SV ++ wM bb g cd n K V (fun i9 => kd i9 + 1) SK SV ++ wO q z o) H := hP
  have hD : va_D A (wX a k n K V kd SK SV ++ wM bb g cd n K V (fun i9 => kd i9 + 1) SK SV ++ wO q z o) := hD
  have hp : r9 = cntS K n (lwL (xs (7 * t + 1)) (xs (7 * t + 2))) (lwL (xs (7 * t + 3)) (xs (7 * t + 4))) := hp
  subst hp
  refine lv_aload_n hx hb dL_law_684 rfl (lv_at hl 3 rfl) ?_
  refine lv_aload_n hx hb dL_law_685 rfl (lv_at hl 1 rfl) ?_
  refine lv_iload hx hb dL_law_686 (lv_at hl 0 rfl) ?_
  refine lv_iconst (v := 1) hx hb dL_law_688 (by decide) ?_
  refine lv_iadd hx hb dL_law_689 ?_
  refine xi (y := nI (7 * t + 1)) (nI_add (7 * t) 1) ?_
  refine x_sld (j := (7 * t + 1)) hx hb hX hbl hbA hS (by omega) (by omega) dL_law_690 ?_
  refine lv_i2l (v := (xs (7 * t + 1)).toInt64) hx hb dL_law_691 rfl ?_
  refine lv_bipush (v := 32) hx hb dL_law_692 (by decide) ?_
  refine lv_lshl (v := ((xs (7 * t + 1)).toInt64) <<< ((32 : Int32).toInt64 &&& 63)) hx hb dL_law_694 rfl ?_
  refine lv_aload_n hx hb dL_law_695 rfl (lv_at hl 1 rfl) ?_
  refine lv_iload hx hb dL_law_696 (lv_at hl 0 rfl) ?_
  refine lv_iconst (v := 2) hx hb dL_law_698 (by decide) ?_
  refine lv_iadd hx hb dL_law_699 ?_
  refine xi (y := nI (7 * t + 2)) (nI_add (7 * t) 2) ?_
  refine x_sld (j := (7 * t + 2)) hx hb hX hbl hbA hS (by omega) (by omega) dL_law_700 ?_
  refine lv_i2l (v := (xs (7 * t + 2)).toInt64) hx hb dL_law_701 rfl ?_
  refine lv_ldc2 (v := 4294967295) hx hb hown (hts (.constantLong RL 51 (4294967295)) mb_112) dL_law_702 ?_
  refine lv_land hx hb dL_law_705 ?_
  refine lv_lor hx hb dL_law_706 ?_
  refine lv_aload_n hx hb dL_law_707 rfl (lv_at hl 1 rfl) ?_
  refine lv_iload hx hb dL_law_708 (lv_at hl 0 rfl) ?_
  refine lv_iconst (v := 3) hx hb dL_law_710 (by decide) ?_
  refine lv_iadd hx hb dL_law_711 ?_
  refine xi (y := nI (7 * t + 3)) (nI_add (7 * t) 3) ?_
  refine x_sld (j := (7 * t + 3)) hx hb hX hbl hbA hS (by omega) (by omega) dL_law_712 ?_
  refine lv_i2l (v := (xs (7 * t + 3)).toInt64) hx hb dL_law_713 rfl ?_
  refine lv_bipush (v := 32) hx hb dL_law_714 (by decide) ?_
  refine lv_lshl (v := ((xs (7 * t + 3)).toInt64) <<< ((32 : Int32).toInt64 &&& 63)) hx hb dL_law_716 rfl ?_
  refine lv_aload_n hx hb dL_law_717 rfl (lv_at hl 1 rfl) ?_
  refine lv_iload hx hb dL_law_718 (lv_at hl 0 rfl) ?_
  refine lv_iconst (v := 4) hx hb dL_law_720 (by decide) ?_
  refine lv_iadd hx hb dL_law_721 ?_
  refine xi (y := nI (7 * t + 4)) (nI_add (7 * t) 4) ?_
  refine x_sld (j := (7 * t + 4)) hx hb hX hbl hbA hS (by omega) (by omega) dL_law_722 ?_
  refine lv_i2l (v := (xs (7 * t + 4)).toInt64) hx hb dL_law_723 rfl ?_
  refine lv_ldc2 (v := 4294967295) hx hb hown (hts (.constantLong RL 51 (4294967295)) mb_112) dL_law_724 ?_
  refine lv_land hx hb dL_law_727 ?_
  refine lv_lor hx hb dL_law_728 ?_
  refine kn_i (wc := (wM bb g cd n K V (fun i9 => kd i9 + 1) SK SV)) (wr := (wX a k n K V kd SK SV ++ wO q z o)) (w1 := (wM bb g 0 n K V (fun i9 => kd i9 + 1) SK SV)) (va_runV (As := [.long ((((xs (7 * t + 1)).toInt64) <<< ((32 : Int32).toInt64 &&& 63)) ||| (((xs (7 * t + 2)).toInt64) &&& 4294967295)), .long ((((xs (7 * t + 3)).toInt64) <<< ((32 : Int32).toInt64 &&& 63)) ||| (((xs (7 * t + 4)).toInt64) &&& 4294967295))]) (rest := [.int (cntS K n (lwL (xs (7 * t + 1)) (xs (7 * t + 2))) (lwL (xs (7 * t + 3)) (xs (7 * t + 4))))]) ⟨hx, hb, hml, hown, hts⟩ (m_count l hl9 D bb g cd n K V kd SK SV (lwL (xs (7 * t + 1)) (xs (7 * t + 2))) (lwL (xs (7 * t + 3)) (xs (7 * t + 4))) H.size hn hI.2.1) (cwV 2 hts (gd_V mb_180 mb_181 mb_182 mb_50 mb_183) rfl rfl rfl (by decide +kernel) ⟨by decide, by decide⟩) ⟨cP_blind, va_recv (q0 := 6) (ci := 1) (q := (RX1, TX1, 7)) hK hP rfl rfl, cPre hP hD hK hS hA hZ [6, 7, 8, 9, 10, 11] rfl (by decide) [5, 6, 7, 8, 9] rfl⟩ rfl rfl hl.1 rfl (lv_room (Nat.le_of_ble_eq_true rfl)) dL_law_729 ⟨by rw [rm_c]; omega, by rw [rm_s]; omega⟩) hP hD hS hA [6, 7, 8, 9, 10, 11] [0, 1, 2, 3, 4, 5, 12] rfl rfl (by decide) (by decide) (fun r9 H locs hp hP hD hS => ?_)
  have hP := hP.sub (ws' := wX a k n K V kd SK SV ++ wM bb g 0 n K V (fun i9 => kd i9 + 1) SK SV ++ wO q z o) [0, 1, 2, 3, 4, 5, 7, 8, 9, 10, 11, 12, 6] rfl
  have hD := hD.sub (ws' := wX a k n K V kd SK SV ++ wM bb g 0 n K V (fun i9 => kd i9 + 1) SK SV ++ wO q z o) [0, 1, 2, 3, 4, 5, 7, 8, 9, 10, 11, 12, 6] (by decide) rfl
  have hP : va_P D vwCl (wX a k n K V kd SK SV ++ wM bb g 0 n K V (fun i9 => kd i9 + 1) SK SV ++ wO q z o) H := hP
  have hD : va_D A (wX a k n K V kd SK SV ++ wM bb g 0 n K V (fun i9 => kd i9 + 1) SK SV ++ wO q z o) := hD
  have hp : r9 = cntS K n (lwL (xs (7 * t + 1)) (xs (7 * t + 2))) (lwL (xs (7 * t + 3)) (xs (7 * t + 4))) := hp
  subst hp
  refine lv_icmp_eq (tgt := 839) hx hb dL_law_732 (by decide) (fun h1 => ?_) (fun h1 => ?_)
  · skip
    refine W.widen (k := 13 + 1 * (t + 1)) (n := 462 + 6 * (t + 1)) (by omega) (by omega) ?_
    exact nx n K V kd SK SV 0 o H locs ls hI hP hD hS (lv_sub hl [0, 1, 2, 3, 4] rfl)
  · skip
    exact absurd rfl h1
set_option maxHeartbeats 1000000 in
set_option maxRecDepth 100000 in
theorem law_11 {p : Program} {e : Env} {s : State} {m : MethodId} {below : List Frame} {meth : Method} {c : Code} {l : Launch} {b L : Nat} {xs : Nat → Int32} {D : va_G} {A : Nat → Prop} {a : Nat → Nat} {k : Nat → ClassId} {bb : Nat → Nat} {g : Nat → ClassId} {q : Nat} {z : ClassId} (hl9 : l.stackTraces = false) (hx : p.tables.exec = Jvm.exec) (hb : c.code = cL_law) (hr : meth.sig.returnType = some .boolean) (hml : c.maxLocals = 8) (hlocks : meth.locks = false) (hown : s.vm.findClass RL = some m.cls) (hts : ∀ w ∈ ALL, w.before #[Value.ref b] s = true) (hX : va_X b L xs s s.heap) (hbl : b < s.heap.size) (hbA : ¬ A b) (hK : va_K D vwCl (tX k ++ tM g ++ tO z) s) (hZ : zx A s s.heap) (hA : ∀ q : Nat, s.heap.size ≤ q → A q) (hL : L ≤ 3584) (t : Nat) (ht : 7 * t + 7 ≤ L) (n : Nat) (K V : Nat → Int64) (kd : Nat → Int32) (SK SV : Nat → Int64) (cd : Int32) (o : Nat → Int64) (H : Heap) (locs : List Loc) (ls : Array Slot) (hI : inv n K kd) (hP : va_P D vwCl (wX a k n K V kd SK SV ++ wM bb g cd n K V (fun i9 => kd i9 + 1) SK SV ++ wO q z o) H) (hD : va_D A (wX a k n K V kd SK SV ++ wM bb g cd n K V (fun i9 => kd i9 + 1) SK SV ++ wO q z o)) (hS : va_S A s.heap H locs) (hl : lv_has ls 8 [(4, .int (nI (7 * t))), (0, .ref b), (1, .ref (a 0)), (2, .ref (bb 0)), (3, .ref q)])
    (nx : ∀ (n : Nat) (K V : Nat → Int64) (kd : Nat → Int32) (SK SV : Nat → Int64) (cd : Int32) (o : Nat → Int64) (H : Heap) (locs : List Loc) (ls : Array Slot), inv n K kd → va_P D vwCl (wX a k n K V kd SK SV ++ wM bb g cd n K V (fun i9 => kd i9 + 1) SK SV ++ wO q z o) H → va_D A (wX a k n K V kd SK SV ++ wM bb g cd n K V (fun i9 => kd i9 + 1) SK SV ++ wO q z o) → va_S A s.heap H locs → lv_has ls 8 [(4, .int (nI (7 * t))), (0, .ref b), (1, .ref (a 0)), (2, .ref (bb 0)), (3, .ref q)] → W p l e room_1 s m #[Value.ref b] below meth c H locs (13 + 1 * (t + 1)) (462 + 6 * (t + 1)) (lw_Z below #[Value.ref b] s) (F0 m 839 ls [])) :
    W p l e room_1 s m #[Value.ref b] below meth c H locs (13 + 1 * t) (462 + 6 * t) (lw_Z below #[Value.ref b] s) (F0 m 737 ls []) := by
  have hn := hI.1
  have hk := hI.2.2
  refine lv_aload_n hx hb dL_law_737 rfl (lv_at hl 2 rfl) ?_
  refine lv_aload_n hx hb dL_law_738 rfl (lv_at hl 1 rfl) ?_
  refine lv_iload hx hb dL_law_739 (lv_at hl 0 rfl) ?_
  refine lv_iconst (v := 1) hx hb dL_law_741 (by decide) ?_
  refine lv_iadd hx hb dL_law_742 ?_
  refine xi (y := nI (7 * t + 1)) (nI_add (7 * t) 1) ?_
  refine x_sld (j := (7 * t + 1)) hx hb hX hbl hbA hS (by omega) (by omega) dL_law_743 ?_
  refine lv_i2l (v := (xs (7 * t + 1)).toInt64) hx hb dL_law_744 rfl ?_
  refine lv_bipush (v := 32) hx hb dL_law_745 (by decide) ?_
  refine lv_lshl (v := ((xs (7 * t + 1)).toInt64) <<< ((32 : Int32).toInt64 &&& 63)) hx hb dL_law_747 rfl ?_
  refine lv_aload_n hx hb dL_law_748 rfl (lv_at hl 1 rfl) ?_
  refine lv_iload hx hb dL_law_749 (lv_at hl 0 rfl) ?_
  refine lv_iconst (v := 2) hx hb dL_law_751 (by decide) ?_
  refine lv_iadd hx hb dL_law_752 ?_
  refine xi (y := nI (7 * t + 2)) (nI_add (7 * t) 2) ?_
  refine x_sld (j := (7 * t + 2)) hx hb hX hbl hbA hS (by omega) (by omega) dL_law_753 ?_
  refine lv_i2l (v := (xs (7 * t + 2)).toInt64) hx hb dL_law_754 rfl ?_
  refine lv_ldc2 (v := 4294967295) hx hb hown (hts (.constantLong RL 51 (4294967295)) mb_112) dL_law_755 ?_
  refine lv_land hx hb dL_law_758 ?_
  refine lv_lor hx hb dL_law_759 ?_
  refine lv_aload_n hx hb dL_law_760 rfl (lv_at hl 1 rfl) ?_
  refine lv_iload hx hb dL_law_761 (lv_at hl 0 rfl) ?_
  refine lv_iconst (v := 3) hx hb dL_law_763 (by decide) ?_
  refine lv_iadd hx hb dL_law_764 ?_
  refine xi (y := nI (7 * t + 3)) (nI_add (7 * t) 3) ?_
  refine x_sld (j := (7 * t + 3)) hx hb hX hbl hbA hS (by omega) (by omega) dL_law_765 ?_
  refine lv_i2l (v := (xs (7 * t + 3)).toInt64) hx hb dL_law_766 rfl ?_
  refine lv_bipush (v := 32) hx hb dL_law_767 (by decide) ?_
  refine lv_lshl (v := ((xs (7 * t + 3)).toInt64) <<< ((32 : Int32).toInt64 &&& 63)) hx hb dL_law_769 rfl ?_
  refine lv_aload_n hx hb dL_law_770 rfl (lv_at hl 1 rfl) ?_
  refine lv_iload hx hb dL_law_771 (lv_at hl 0 rfl) ?_
  refine lv_iconst (v := 4) hx hb dL_law_773 (by decide) ?_
  refine lv_iadd hx hb dL_law_774 ?_
  refine xi (y := nI (7 * t + 4)) (nI_add (7 * t) 4) ?_
  refine x_sld (j := (7 * t + 4)) hx hb hX hbl hbA hS (by omega) (by omega) dL_law_775 ?_
  refine lv_i2l (v := (xs (7 * t + 4)).toInt64) hx hb dL_law_776 rfl ?_
  refine lv_ldc2 (v := 4294967295) hx hb hown (hts (.constantLong RL 51 (4294967295)) mb_112) dL_law_777 ?_
  refine lv_land hx hb dL_law_780 ?_
  refine lv_lor hx hb dL_law_781 ?_
  refine kn_l (wc := (wX a k n K V kd SK SV)) (wr := (wM bb g cd n K V (fun i9 => kd i9 + 1) SK SV ++ wO q z o)) (w1 := (wX a k n K V kd SK SV)) (va_runV (As := [.long ((((xs (7 * t + 1)).toInt64) <<< ((32 : Int32).toInt64 &&& 63)) ||| (((xs (7 * t + 2)).toInt64) &&& 4294967295)), .long ((((xs (7 * t + 3)).toInt64) <<< ((32 : Int32).toInt64 &&& 63)) ||| (((xs (7 * t + 4)).toInt64) &&& 4294967295))]) (rest := []) ⟨hx, hb, hml, hown, hts⟩ (c_sum l hl9 D a k n K V kd SK SV (lwL (xs (7 * t + 1)) (xs (7 * t + 2))) (lwL (xs (7 * t + 3)) (xs (7 * t + 4))) H.size hn) (cwV 2 hts (gd_V mb_184 mb_185 mb_186 mb_12 mb_187) rfl rfl rfl (by decide +kernel) ⟨by decide, by decide⟩) ⟨cP_blind, va_recv (q0 := 0) (ci := 0) (q := (RX0, TX0, 6)) hK hP rfl rfl, cPre hP hD hK hS hA hZ [0, 1, 2, 3, 4, 5] rfl (by decide) [0, 1, 2, 3, 4] rfl⟩ rfl rfl hl.1 rfl (lv_room (Nat.le_of_ble_eq_true rfl)) dL_law_782 ⟨by rw [rm_c]; omega, by rw [rm_s]; omega⟩) hP hD hS hA [0, 1, 2, 3, 4, 5] [6, 7, 8, 9, 10, 11, 12] rfl rfl (by decide) (by decide) (fun r9 H locs hp hP hD hS => ?_)
  have hP := hP.sub (ws' := wX a k n K V kd SK SV ++ wM bb g cd n K V (fun i9 => kd i9 + 1) SK SV ++ wO q z o) [7, 8, 9, 10, 11, 12, 0, 1, 2, 3, 4, 5, 6] rfl
  have hD := hD.sub (ws' := wX a k n K V kd SK SV ++ wM bb g cd n K V (fun i9 => kd i9 + 1) SK SV ++ wO q z o) [7, 8, 9, 10, 11, 12, 0, 1, 2, 3, 4, 5, 6] (by decide) rfl
  have hP : va_P D vwCl (wX a k n K V kd SK SV ++ wM bb g cd n K V (fun i9 => kd i9 + 1) SK SV ++ wO q z o) H := hP
  have hD : va_D A (wX a k n K V kd SK SV ++ wM bb g cd n K V (fun i9 => kd i9 + 1) SK SV ++ wO q z o) := hD
  have hp : r9 = sumS K V n (lwL (xs (7 * t + 1)) (xs (7 * t + 2))) (lwL (xs (7 * t + 3)) (xs (7 * t + 4))) := hp
  subst hp
  refine lv_aload_n hx hb dL_law_785 rfl (lv_at hl 3 rfl) ?_
  refine lv_aload_n hx hb dL_law_786 rfl (lv_at hl 1 rfl) ?_
  refine lv_iload hx hb dL_law_787 (lv_at hl 0 rfl) ?_
  refine lv_iconst (v := 1) hx hb dL_law_789 (by decide) ?_
  refine lv_iadd hx hb dL_law_790 ?_
  refine xi (y := nI (7 * t + 1)) (nI_add (7 * t) 1) ?_
  refine x_sld (j := (7 * t + 1)) hx hb hX hbl hbA hS (by omega) (by omega) dL_law_791 ?_
  refine lv_i2l (v := (xs (7 * t + 1)).toInt64) hx hb dL_law_792 rfl ?_
  refine lv_bipush (v := 32) hx hb dL_law_793 (by decide) ?_
  refine lv_lshl (v := ((xs (7 * t + 1)).toInt64) <<< ((32 : Int32).toInt64 &&& 63)) hx hb dL_law_795 rfl ?_
  refine lv_aload_n hx hb dL_law_796 rfl (lv_at hl 1 rfl) ?_
  refine lv_iload hx hb dL_law_797 (lv_at hl 0 rfl) ?_
  refine lv_iconst (v := 2) hx hb dL_law_799 (by decide) ?_
  refine lv_iadd hx hb dL_law_800 ?_
  refine xi (y := nI (7 * t + 2)) (nI_add (7 * t) 2) ?_
  refine x_sld (j := (7 * t + 2)) hx hb hX hbl hbA hS (by omega) (by omega) dL_law_801 ?_
  refine lv_i2l (v := (xs (7 * t + 2)).toInt64) hx hb dL_law_802 rfl ?_
  refine lv_ldc2 (v := 4294967295) hx hb hown (hts (.constantLong RL 51 (4294967295)) mb_112) dL_law_803 ?_
  refine lv_land hx hb dL_law_806 ?_
  refine lv_lor hx hb dL_law_807 ?_
  refine lv_aload_n hx hb dL_law_808 rfl (lv_at hl 1 rfl) ?_
  refine lv_iload hx hb dL_law_809 (lv_at hl 0 rfl) ?_
  refine lv_iconst (v := 3) hx hb dL_law_811 (by decide) ?_
  refine lv_iadd hx hb dL_law_812 ?_
  refine xi (y := nI (7 * t + 3)) (nI_add (7 * t) 3) ?_
  refine x_sld (j := (7 * t + 3)) hx hb hX hbl hbA hS (by omega) (by omega) dL_law_813 ?_
  refine lv_i2l (v := (xs (7 * t + 3)).toInt64) hx hb dL_law_814 rfl ?_
  refine lv_bipush (v := 32) hx hb dL_law_815 (by decide) ?_
  refine lv_lshl (v := ((xs (7 * t + 3)).toInt64) <<< ((32 : Int32).toInt64 &&& 63)) hx hb dL_law_817 rfl ?_
  refine lv_aload_n hx hb dL_law_818 rfl (lv_at hl 1 rfl) ?_
  refine lv_iload hx hb dL_law_819 (lv_at hl 0 rfl) ?_
  refine lv_iconst (v := 4) hx hb dL_law_821 (by decide) ?_
  refine lv_iadd hx hb dL_law_822 ?_
  refine xi (y := nI (7 * t + 4)) (nI_add (7 * t) 4) ?_
  refine x_sld (j := (7 * t + 4)) hx hb hX hbl hbA hS (by omega) (by omega) dL_law_823 ?_
  refine lv_i2l (v := (xs (7 * t + 4)).toInt64) hx hb dL_law_824 rfl ?_
  refine lv_ldc2 (v := 4294967295) hx hb hown (hts (.constantLong RL 51 (4294967295)) mb_112) dL_law_825 ?_
  refine lv_land hx hb dL_law_828 ?_
  refine lv_lor hx hb dL_law_829 ?_
  refine kn_l (wc := (wM bb g cd n K V (fun i9 => kd i9 + 1) SK SV)) (wr := (wX a k n K V kd SK SV ++ wO q z o)) (w1 := (wM bb g 0 n K V (fun i9 => kd i9 + 1) SK SV)) (va_runV (As := [.long ((((xs (7 * t + 1)).toInt64) <<< ((32 : Int32).toInt64 &&& 63)) ||| (((xs (7 * t + 2)).toInt64) &&& 4294967295)), .long ((((xs (7 * t + 3)).toInt64) <<< ((32 : Int32).toInt64 &&& 63)) ||| (((xs (7 * t + 4)).toInt64) &&& 4294967295))]) (rest := [.long (sumS K V n (lwL (xs (7 * t + 1)) (xs (7 * t + 2))) (lwL (xs (7 * t + 3)) (xs (7 * t + 4))))]) ⟨hx, hb, hml, hown, hts⟩ (m_sum l hl9 D bb g cd n K V kd SK SV (lwL (xs (7 * t + 1)) (xs (7 * t + 2))) (lwL (xs (7 * t + 3)) (xs (7 * t + 4))) H.size hn hI.2.1) (cwV 2 hts (gd_V mb_188 mb_189 mb_190 mb_50 mb_191) rfl rfl rfl (by decide +kernel) ⟨by decide, by decide⟩) ⟨cP_blind, va_recv (q0 := 6) (ci := 1) (q := (RX1, TX1, 7)) hK hP rfl rfl, cPre hP hD hK hS hA hZ [6, 7, 8, 9, 10, 11] rfl (by decide) [5, 6, 7, 8, 9] rfl⟩ rfl rfl hl.1 rfl (lv_room (Nat.le_of_ble_eq_true rfl)) dL_law_830 ⟨by rw [rm_c]; omega, by rw [rm_s]; omega⟩) hP hD hS hA [6, 7, 8, 9, 10, 11] [0, 1, 2, 3, 4, 5, 12] rfl rfl (by decide) (by decide) (fun r9 H locs hp hP hD hS => ?_)
  have hP := hP.sub (ws' := wX a k n K V kd SK SV ++ wM bb g 0 n K V (fun i9 => kd i9 + 1) SK SV ++ wO q z o) [0, 1, 2, 3, 4, 5, 7, 8, 9, 10, 11, 12, 6] rfl
  have hD := hD.sub (ws' := wX a k n K V kd SK SV ++ wM bb g 0 n K V (fun i9 => kd i9 + 1) SK SV ++ wO q z o) [0, 1, 2, 3, 4, 5, 7, 8, 9, 10, 11, 12, 6] (by decide) rfl
  have hP : va_P D vwCl (wX a k n K V kd SK SV ++ wM bb g 0 n K V (fun i9 => kd i9 + 1) SK SV ++ wO q z o) H := hP
  have hD : va_D A (wX a k n K V kd SK SV ++ wM bb g 0 n K V (fun i9 => kd i9 + 1) SK SV ++ wO q z o) := hD
  have hp : r9 = sumS K V n (lwL (xs (7 * t + 1)) (xs (7 * t + 2))) (lwL (xs (7 * t + 3)) (xs (7 * t + 4))) := hp
  subst hp
  refine W.lcmp hx hb dL_law_833 ?_
  refine lv_if_eq (tgt := 839) hx hb dL_law_834 (by decide) (fun h1 => ?_) (fun h1 => ?_)
  · skip
    refine W.widen (k := 13 + 1 * (t + 1)) (n := 462 + 6 * (t + 1)) (by omega) (by omega) ?_
    exact nx n K V kd SK SV 0 o H locs ls hI hP hD hS (lv_sub hl [0, 1, 2, 3, 4] rfl)
  · skip
    exact absurd ((lg_cmp_eq _ _).mpr rfl) h1
end
section
theorem lw_cmp {L t : Nat} (hL : L ≤ 3584) (ht : 7 * t ≤ L) : (nI L - 7 < nI (7 * t)) ↔ L < 7 * t + 7 := by
  have e := pk_sub_toInt (a := L) (b := 7) (by omega) (by omega)
  have e2 : (nI (7 * t)).toInt = ((7 * t : Nat) : Int) := nI_toInt (by omega)
  have e3 : (nI L - 7).toInt = (L : Int) - 7 := e
  rw [Int32.lt_iff_toInt_lt, e3, e2]
  omega
set_option maxHeartbeats 1000000 in
set_option maxRecDepth 100000 in
theorem law_loop {p : Program} {e : Env} {s : State} {m : MethodId} {below : List Frame} {meth : Method} {c : Code} {l : Launch} {b L : Nat} {xs : Nat → Int32} {D : va_G} {A : Nat → Prop} {a : Nat → Nat} {k : Nat → ClassId} {bb : Nat → Nat} {g : Nat → ClassId} {q : Nat} {z : ClassId} (hl9 : l.stackTraces = false) (hx : p.tables.exec = Jvm.exec) (hb : c.code = cL_law) (hr : meth.sig.returnType = some .boolean) (hml : c.maxLocals = 8) (hlocks : meth.locks = false) (hown : s.vm.findClass RL = some m.cls) (hts : ∀ w ∈ ALL, w.before #[Value.ref b] s = true) (hX : va_X b L xs s s.heap) (hbl : b < s.heap.size) (hbA : ¬ A b) (hK : va_K D vwCl (tX k ++ tM g ++ tO z) s) (hZ : zx A s s.heap) (hA : ∀ q : Nat, s.heap.size ≤ q → A q) (hL : L ≤ 3584) (hAs : ∀ q, A q → s.heap.size ≤ q) : ∀ (f t : Nat), 513 - t < f → 7 * t ≤ L → ∀ (n : Nat) (K V : Nat → Int64) (kd : Nat → Int32) (SK SV : Nat → Int64) (cd : Int32) (o : Nat → Int64) (H : Heap) (locs : List Loc) (ls : Array Slot), inv n K kd → va_P D vwCl (wX a k n K V kd SK SV ++ wM bb g cd n K V (fun i9 => kd i9 + 1) SK SV ++ wO q z o) H → va_D A (wX a k n K V kd SK SV ++ wM bb g cd n K V (fun i9 => kd i9 + 1) SK SV ++ wO q z o) → va_S A s.heap H locs → lv_has ls 8 [(4, .int (nI (7 * t))), (0, .ref b), (1, .ref (a 0)), (2, .ref (bb 0)), (3, .ref q)] → W p l e room_1 s m #[Value.ref b] below meth c H locs (13 + 1 * t) (462 + 6 * t) (lw_Z below #[Value.ref b] s) (F0 m 23 ls []) := by
  intro f
  induction f with
  | zero => intro t h; omega
  | succ f ih =>
    intro t hf ht n K V kd SK SV cd o H locs ls hI hP hD hS hl
    refine lv_iload hx hb dL_law_23 (lv_at hl 0 rfl) ?_
    refine lv_aload_n hx hb dL_law_25 rfl (lv_at hl 1 rfl) ?_
    refine va_slen hx hb hX hbl hbA hS dL_law_26 ?_
    refine xi (y := nI L) rfl ?_
    refine lv_bipush (v := 7) hx hb dL_law_27 (by decide) ?_
    refine lv_isub hx hb dL_law_29 ?_
    refine lv_icmp_gt (tgt := 845) hx hb dL_law_30 (by decide) (fun h1 => ?_) (fun h1 => ?_)
    · skip
      refine lv_iconst (v := 1) hx hb dL_law_845 (by decide) ?_
      refine va_forget (fun q h => hAs _ (hS.2.2 q h)) ?_
      refine W.widen (k := 1045) (n := 8702) (by omega) (by omega) ?_
      exact lw_ret hx hb hr hlocks dL_law_846
    · skip
      have ht7 : 7 * t + 7 ≤ L := Nat.le_of_not_lt (fun q => h1 ((lw_cmp hL ht).mpr q))
      have nx : ∀ (n : Nat) (K V : Nat → Int64) (kd : Nat → Int32) (SK SV : Nat → Int64) (cd : Int32) (o : Nat → Int64) (H : Heap) (locs : List Loc) (ls : Array Slot), inv n K kd → va_P D vwCl (wX a k n K V kd SK SV ++ wM bb g cd n K V (fun i9 => kd i9 + 1) SK SV ++ wO q z o) H → va_D A (wX a k n K V kd SK SV ++ wM bb g cd n K V (fun i9 => kd i9 + 1) SK SV ++ wO q z o) → va_S A s.heap H locs → lv_has ls 8 [(4, .int (nI (7 * t))), (0, .ref b), (1, .ref (a 0)), (2, .ref (bb 0)), (3, .ref q)] → W p l e room_1 s m #[Value.ref b] below meth c H locs (13 + 1 * (t + 1)) (462 + 6 * (t + 1)) (lw_Z below #[Value.ref b] s) (F0 m 839 ls []) := by
        intro n K V kd SK SV cd o H locs ls hI hP hD hS hl
        refine lv_iinc (k := 0) (v := nI (7 * (t + 1))) (lv' := [(4, .int (nI (7 * (t + 1)))), (0, .ref b), (1, .ref (a 0)), (2, .ref (bb 0)), (3, .ref q)]) hx hb dL_law_839 hl rfl (nI_add (7 * t) 7) (by decide) rfl (fun ls hl => ?_)
        refine lv_goto (tgt := 23) hx hb dL_law_842 (by decide) ?_
        exact ih (t + 1) (by omega) (by omega) n K V kd SK SV cd o H locs ls hI hP hD hS hl
      refine lv_aload_n hx hb dL_law_33 rfl (lv_at hl 1 rfl) ?_
      refine lv_iload hx hb dL_law_34 (lv_at hl 0 rfl) ?_
      refine x_sld (j := (7 * t)) hx hb hX hbl hbA hS (by omega) (by omega) dL_law_36 ?_
      refine lv_bipush (v := 15) hx hb dL_law_37 (by decide) ?_
      refine lv_iand hx hb dL_law_39 ?_
      obtain ⟨j, hj, ej⟩ := pk_andE (xs (7 * t)) (m := 15) 4 (by decide)
      refine xi (y := nI j) ej ?_
      have hj : j = 0 ∨ j = 1 ∨ j = 2 ∨ j = 3 ∨ j = 4 ∨ j = 5 ∨ j = 6 ∨ j = 7 ∨ j = 8 ∨ j = 9 ∨ j = 10 ∨ j = 11 ∨ j = 12 ∨ j = 13 ∨ j = 14 ∨ j = 15 := by omega
      rcases hj with rfl | rfl | rfl | rfl | rfl | rfl | rfl | rfl | rfl | rfl | rfl | rfl | rfl | rfl | rfl | rfl
      · refine lv_tableIn (off := 64) (tgt := 104) hx hb dL_law_40 (by decide) (by decide) (by decide) (by decide) ?_
        exact law_0 hl9 hx hb hr hml hlocks hown hts hX hbl hbA hK hZ hA hL t ht7 n K V kd SK SV cd o H locs ls hI hP hD hS hl nx
      · refine lv_tableIn (off := 202) (tgt := 242) hx hb dL_law_40 (by decide) (by decide) (by decide) (by decide) ?_
        exact law_1 hl9 hx hb hr hml hlocks hown hts hX hbl hbA hK hZ hA hL t ht7 n K V kd SK SV cd o H locs ls hI hP hD hS hl nx
      · refine lv_tableIn (off := 250) (tgt := 290) hx hb dL_law_40 (by decide) (by decide) (by decide) (by decide) ?_
        exact law_2 hl9 hx hb hr hml hlocks hown hts hX hbl hbA hK hZ hA hL t ht7 n K V kd SK SV cd o H locs ls hI hP hD hS hl nx
      · refine lv_tableIn (off := 305) (tgt := 345) hx hb dL_law_40 (by decide) (by decide) (by decide) (by decide) ?_
        exact law_3 hl9 hx hb hr hml hlocks hown hts hX hbl hbA hK hZ hA hL t ht7 n K V kd SK SV cd o H locs ls hI hP hD hS hl nx
      · refine lv_tableIn (off := 368) (tgt := 408) hx hb dL_law_40 (by decide) (by decide) (by decide) (by decide) ?_
        exact law_4 hl9 hx hb hr hml hlocks hown hts hX hbl hbA hK hZ hA hL t ht7 n K V kd SK SV cd o H locs ls hI hP hD hS hl nx
      · refine lv_tableIn (off := 404) (tgt := 444) hx hb dL_law_40 (by decide) (by decide) (by decide) (by decide) ?_
        exact law_5 hl9 hx hb hr hml hlocks hown hts hX hbl hbA hK hZ hA hL t ht7 n K V kd SK SV cd o H locs ls hI hP hD hS hl nx
      · refine lv_tableIn (off := 417) (tgt := 457) hx hb dL_law_40 (by decide) (by decide) (by decide) (by decide) ?_
        exact law_6 hl9 hx hb hr hml hlocks hown hts hX hbl hbA hK hZ hA hL t ht7 n K V kd SK SV cd o H locs ls hI hP hD hS hl nx
      · refine lv_tableIn (off := 473) (tgt := 513) hx hb dL_law_40 (by decide) (by decide) (by decide) (by decide) ?_
        exact law_7 hl9 hx hb hr hml hlocks hown hts hX hbl hbA hK hZ hA hL t ht7 n K V kd SK SV cd o H locs ls hI hP hD hS hl nx
      · refine lv_tableIn (off := 486) (tgt := 526) hx hb dL_law_40 (by decide) (by decide) (by decide) (by decide) ?_
        exact law_8 hl9 hx hb hr hml hlocks hown hts hX hbl hbA hK hZ hA hL t ht7 n K V kd SK SV cd o H locs ls hI hP hD hS hl nx
      · refine lv_tableIn (off := 541) (tgt := 581) hx hb dL_law_40 (by decide) (by decide) (by decide) (by decide) ?_
        exact law_9 hl9 hx hb hr hml hlocks hown hts hX hbl hbA hK hZ hA hL t ht7 n K V kd SK SV cd o H locs ls hI hP hD hS hl nx
      · refine lv_tableIn (off := 596) (tgt := 636) hx hb dL_law_40 (by decide) (by decide) (by decide) (by decide) ?_
        exact law_10 hl9 hx hb hr hml hlocks hown hts hX hbl hbA hK hZ hA hL t ht7 n K V kd SK SV cd o H locs ls hI hP hD hS hl nx
      · refine lv_tableIn (off := 697) (tgt := 737) hx hb dL_law_40 (by decide) (by decide) (by decide) (by decide) ?_
        exact law_11 hl9 hx hb hr hml hlocks hown hts hX hbl hbA hK hZ hA hL t ht7 n K V kd SK SV cd o H locs ls hI hP hD hS hl nx
      · refine lv_tableOut (tgt := 839) hx hb dL_law_40 (by decide) (by decide) ?_
        refine W.widen (k := 13 + 1 * (t + 1)) (n := 462 + 6 * (t + 1)) (by omega) (by omega) ?_
        exact nx n K V kd SK SV cd o H locs ls hI hP hD hS hl
      · refine lv_tableOut (tgt := 839) hx hb dL_law_40 (by decide) (by decide) ?_
        refine W.widen (k := 13 + 1 * (t + 1)) (n := 462 + 6 * (t + 1)) (by omega) (by omega) ?_
        exact nx n K V kd SK SV cd o H locs ls hI hP hD hS hl
      · refine lv_tableOut (tgt := 839) hx hb dL_law_40 (by decide) (by decide) ?_
        refine W.widen (k := 13 + 1 * (t + 1)) (n := 462 + 6 * (t + 1)) (by omega) (by omega) ?_
        exact nx n K V kd SK SV cd o H locs ls hI hP hD hS hl
      · refine lv_tableOut (tgt := 839) hx hb dL_law_40 (by decide) (by decide) ?_
        refine W.widen (k := 13 + 1 * (t + 1)) (n := 462 + 6 * (t + 1)) (by omega) (by omega) ?_
        exact nx n K V kd SK SV cd o H locs ls hI hP hD hS hl
end
section
theorem st_ex {args : Array Value} {s : State} {k : Nat} {tx : String} (h1 : (Cond.stringRef RX0 k tx).before args s = true) (h2 : (Cond.exactly (.string RX0 k) "java/lang/String").before args s = true) : ∃ a, vk_R RX0 k tx a s := by
  obtain ⟨a, c, cA, kA, q1, -⟩ := Cond.exactly_spec (args := args) (first := s) (o := none) (s := s) (idx := []) (t := .string RX0 k) (cls := "java/lang/String") h2
  refine ⟨a, vk_R.of h1 q1⟩
set_option maxHeartbeats 1000000 in
set_option maxRecDepth 20000 in
theorem st_zs {b : Nat} {s : State} (h : ∀ w ∈ lw_tbl, w.before #[Value.ref b] s = true) (hg : (Jvm.Cond.and given_1 narrow_1).before #[Value.ref b] s = true) : zs s := by
  have g := flat_of_before _ hg
  refine ⟨?_, ?_, ?_, ?_⟩
  · intro q hq
    unfold zT at hq
    rcases List.mem_cons.mp hq with rfl | hq
    · exact st_ex (h _ (List.mem_of_getElem? (i := 151) (by decide +kernel))) (g _ (by decide +kernel))
    rcases List.mem_cons.mp hq with rfl | hq
    · exact st_ex (h _ (List.mem_of_getElem? (i := 161) (by decide +kernel))) (g _ (by decide +kernel))
    rcases List.mem_cons.mp hq with rfl | hq
    · exact st_ex (h _ (List.mem_of_getElem? (i := 214) (by decide +kernel))) (g _ (by decide +kernel))
    rcases List.mem_cons.mp hq with rfl | hq
    · exact st_ex (h _ (List.mem_of_getElem? (i := 124) (by decide +kernel))) (g _ (by decide +kernel))
    rcases List.mem_cons.mp hq with rfl | hq
    · exact st_ex (h _ (List.mem_of_getElem? (i := 178) (by decide +kernel))) (g _ (by decide +kernel))
    rcases List.mem_cons.mp hq with rfl | hq
    · exact st_ex (h _ (List.mem_of_getElem? (i := 183) (by decide +kernel))) (g _ (by decide +kernel))
    rcases List.mem_cons.mp hq with rfl | hq
    · exact st_ex (h _ (List.mem_of_getElem? (i := 200) (by decide +kernel))) (g _ (by decide +kernel))
    cases hq
  · intro E hE
    unfold zE at hE
    rcases List.mem_cons.mp hE with rfl | hE
    · exact va_Nw.of rfl (h _ (List.mem_of_getElem? (i := 84) (by decide +kernel)))
    rcases List.mem_cons.mp hE with rfl | hE
    · exact va_Nw.of rfl (h _ (List.mem_of_getElem? (i := 154) (by decide +kernel)))
    rcases List.mem_cons.mp hE with rfl | hE
    · exact va_Nw.of rfl (h _ (List.mem_of_getElem? (i := 207) (by decide +kernel)))
    rcases List.mem_cons.mp hE with rfl | hE
    · exact va_Nw.of rfl (h _ (List.mem_of_getElem? (i := 260) (by decide +kernel)))
    cases hE
  · intro Y hY
    unfold zY at hY
    rcases List.mem_cons.mp hY with rfl | hY
    · exact va_Nw.of rfl (h _ (List.mem_of_getElem? (i := 86) (by decide +kernel)))
    rcases List.mem_cons.mp hY with rfl | hY
    · exact va_Nw.of rfl (h _ (List.mem_of_getElem? (i := 88) (by decide +kernel)))
    rcases List.mem_cons.mp hY with rfl | hY
    · exact va_Nw.of rfl (h _ (List.mem_of_getElem? (i := 90) (by decide +kernel)))
    cases hY
  · intro q hq
    unfold zN at hq
    rcases List.mem_cons.mp hq with rfl | hq
    · exact va_Nc.of (g _ (by decide +kernel))
    rcases List.mem_cons.mp hq with rfl | hq
    · exact va_Nc.of (g _ (by decide +kernel))
    rcases List.mem_cons.mp hq with rfl | hq
    · exact va_Nc.of (g _ (by decide +kernel))
    cases hq
set_option maxRecDepth 20000 in
theorem st_zx {b : Nat} {s : State} {A : Nat → Prop} (h : ∀ w ∈ lw_tbl, w.before #[Value.ref b] s = true) (hg : (Jvm.Cond.and given_1 narrow_1).before #[Value.ref b] s = true) (hA : ∀ a : Nat, a < s.heap.size → ¬ A a) : zx A s s.heap := by
  have g := flat_of_before _ hg
  refine ⟨vx_Zqof (h _ (List.mem_of_getElem? (i := 109) (by decide +kernel))) (h _ (List.mem_of_getElem? (i := 14) (by decide +kernel))) (g (.isRef (.static Bundle.tN "UNASSIGNED_STACK" Bundle.steD)) (by decide +kernel)) hA, vx_Zqof (h _ (List.mem_of_getElem? (i := 111) (by decide +kernel))) (h _ (List.mem_of_getElem? (i := 14) (by decide +kernel))) (g (.isRef (.static Bundle.tN "SUPPRESSED_SENTINEL" Bundle.listD)) (by decide +kernel)) hA, st_zs h hg⟩
end
section
set_option maxHeartbeats 1000000 in
set_option maxRecDepth 100000 in
theorem whole_start {p : Program} {e : Env} {s : State} {m : MethodId} {below : List Frame} {meth : Method} {c : Code} (l : Launch) (hl9 : l.stackTraces = false) {b L : Nat} {xs : Nat → Int32} (hL : L ≤ 3584) (C0 : lw_At p s m meth c b L xs) : W p l e room_1 s m #[Value.ref b] below meth c s.heap [] 0 0 (lw_Z below #[Value.ref b] s) (entryFrame m ([Value.ref b] : List Value).toArray 8) := by
  obtain ⟨hx, hb, hr, hml, hown, hts0, hX, hbl, hlocks, hgv⟩ := C0
  have hb : c.code = cL_law := hb
  have hr : meth.sig.returnType = some .boolean := hr
  have hown : s.vm.findClass RL = some m.cls := hown
  have hts : ∀ w ∈ ALL, w.before #[Value.ref b] s = true := fun w h => hts0 w (al_tbl h)
  obtain ⟨c0, i0, k0⟩ := u_known (C := RX0) (T := TX0) (N := 6) hts ui_X0 (hts (.instantiable RX0 6) mb_206)
  obtain ⟨c1, i1, k1⟩ := u_known (C := RX1) (T := TX1) (N := 7) hts ui_X1 (hts (.instantiable RX1 7) mb_207)
  obtain ⟨D, hK⟩ : ∃ D : va_G, va_K D vwCl [] s := by
    refine ⟨(fun i => match i with | 0 => c0 | _ => c1, fun i => match i with | 0 => i0 | _ => i1), ?_, fun k q hk => by cases hk⟩
    intro k q hq
    match k, hq with
    | 0, hq => cases hq; exact k0
    | 1, hq => cases hq; exact k1
    | k + 2, hq => simp [vwCl] at hq
  obtain ⟨A, hAe⟩ : ∃ A : Nat → Prop, A = fun q => s.heap.size ≤ q := ⟨_, rfl⟩
  have hA : ∀ q : Nat, s.heap.size ≤ q → A q := fun q h => by rw [hAe]; exact h
  have hAs : ∀ q : Nat, A q → s.heap.size ≤ q := fun q h => by rw [hAe] at h; exact h
  have hbA : ¬ A b := fun h => absurd hbl (Nat.not_lt.mpr (hAs _ h))
  have hZ : zx A s s.heap := st_zx hts0 hgv (fun a h q => absurd h (Nat.not_lt.mpr (hAs _ q)))
  have hP : va_P D vwCl [] s.heap := fun k q hq => by cases hq
  have hD : va_D A [] := ⟨fun i j p q h => (by cases h), fun k q h => (by cases h)⟩
  have hS : va_S A s.heap s.heap [] := va_S.rf
  have hl := lv_entry ([.ref b]) (n := 8) (Nat.le_of_ble_eq_true rfl)
  rw [lg_entry_eq]
  generalize (lg_sl ([.ref b]) ++ List.replicate (8 - (lg_sl ([.ref b])).length) Slot.unset).toArray = ls at hl ⊢
  have hl : lv_has ls 8 [(0, .ref b)] := hl
  refine va_new (ci := 0) (fs := [.null, .null, .int 0, .null, .null, .null]) (C := RX0) (T := TX0) (N := 6) hx hb hts ui_X0 tyX0 tyX0_ok hown (hts (.classLink RL 8 RX0) mb_208) (hts (.instantiable RX0 6) mb_206) (hts (.initialized RX0) mb_12) hK hP hD hS hA rfl (fun j hj => by rcases (show j = 0 ∨ j = 1 ∨ j = 2 ∨ j = 3 ∨ j = 4 ∨ j = 5 by omega) with rfl | rfl | rfl | rfl | rfl | rfl <;> rfl) (by decide) (by decide) dL_law_0 (fun q0 H hP hD hS => ?_)
  have hP : va_P D vwCl ([(q0, .inr (0, [.null, .null, .int 0, .null, .null, .null]))]) H := hP
  have hD : va_D A ([(q0, .inr (0, [.null, .null, .int 0, .null, .null, .null]))]) := hD
  refine lv_dup hx hb dL_law_3 rfl ?_
  refine kn_u (wc := [(q0, .inr (0, [.null, .null, .int 0, .null, .null, .null]))]) (wr := []) (tf := fun u : (Nat → Nat) × (Nat → ClassId) => tX u.2) (wf := fun u : (Nat → Nat) × (Nat → ClassId) => wX u.1 u.2 0 (fun _ => 0) (fun _ => 0) (fun _ => -1) (fun _ => 0) (fun _ => 0)) (va_runI (As := []) (rest := [.ref q0]) ⟨hx, hb, hml, hown, hts⟩ (c_init l D q0 H.size) (cwI 0 hts (gd_I mb_209) rfl rfl rfl (hts (.initialized RX0) mb_12) (hts (.methodLink RL 47 yX0_init) mb_210) (hts (.instanceMethod yX0_init) mb_211) rfl (by decide +kernel) ⟨by decide, by decide⟩) ⟨cP_blind, cPre hP hD hK hS hA hZ [0] rfl (by decide) [] rfl⟩ rfl rfl hl.1 rfl (lv_room (Nat.le_of_ble_eq_true rfl)) dL_law_4 ⟨by decide, by decide⟩) hP hD hS hA [0] [] rfl rfl (by decide) (by decide) (fun u H9 locs hu hP9 hD9 hKn hS9 => ?_)
  obtain ⟨a, k⟩ := u
  have hu : a 0 = q0 := hu
  subst hu
  have hK := hK.app hKn
  have hK : va_K D vwCl (tX k) s := hK
  have hP : va_P D vwCl (wX a k 0 (fun _ => 0) (fun _ => 0) (fun _ => -1) (fun _ => 0) (fun _ => 0)) H9 := hP9
  have hD : va_D A (wX a k 0 (fun _ => 0) (fun _ => 0) (fun _ => -1) (fun _ => 0) (fun _ => 0)) := hD9
  have hS := hS9
  clear hP9 hD9 hS9
  generalize H9 = H at hP hS ⊢
  refine lv_astore_n (lv' := [(1, .ref (a 0)), (0, .ref b)]) hx hb dL_law_7 rfl hl (by decide) rfl (fun ls hl => ?_)
  refine va_new (ci := 1) (fs := [.int 0, .int 0, .null, .null, .null, .null, .null]) (C := RX1) (T := TX1) (N := 7) hx hb hts ui_X1 tyX1 tyX1_ok hown (hts (.classLink RL 48 RX1) mb_212) (hts (.instantiable RX1 7) mb_207) (hts (.initialized RX1) mb_50) hK hP hD hS hA rfl (fun j hj => by rcases (show j = 0 ∨ j = 1 ∨ j = 2 ∨ j = 3 ∨ j = 4 ∨ j = 5 ∨ j = 6 by omega) with rfl | rfl | rfl | rfl | rfl | rfl | rfl <;> rfl) (by decide) (by decide) dL_law_8 (fun q1 H hP hD hS => ?_)
  have hP : va_P D vwCl (wX a k 0 (fun _ => 0) (fun _ => 0) (fun _ => -1) (fun _ => 0) (fun _ => 0) ++ [(q1, .inr (1, [.int 0, .int 0, .null, .null, .null, .null, .null]))]) H := hP
  have hD : va_D A (wX a k 0 (fun _ => 0) (fun _ => 0) (fun _ => -1) (fun _ => 0) (fun _ => 0) ++ [(q1, .inr (1, [.int 0, .int 0, .null, .null, .null, .null, .null]))]) := hD
  refine lv_dup hx hb dL_law_11 rfl ?_
  refine kn_u (wc := [(q1, .inr (1, [.int 0, .int 0, .null, .null, .null, .null, .null]))]) (wr := (wX a k 0 (fun _ => 0) (fun _ => 0) (fun _ => -1) (fun _ => 0) (fun _ => 0))) (tf := fun u : (Nat → Nat) × (Nat → ClassId) => tM u.2) (wf := fun u : (Nat → Nat) × (Nat → ClassId) => wM u.1 u.2 0 0 (fun _ => 0) (fun _ => 0) (fun _ => 0) (fun _ => 0) (fun _ => 0)) (va_runI (As := []) (rest := [.ref q1]) ⟨hx, hb, hml, hown, hts⟩ (m_init l D q1 H.size) (cwI 0 hts (gd_I mb_213) rfl rfl rfl (hts (.initialized RX1) mb_50) (hts (.methodLink RL 50 yX1_init) mb_214) (hts (.instanceMethod yX1_init) mb_215) rfl (by decide +kernel) ⟨by decide, by decide⟩) ⟨cP_blind, cPre hP hD hK hS hA hZ [6] rfl (by decide) [] rfl⟩ rfl rfl hl.1 rfl (lv_room (Nat.le_of_ble_eq_true rfl)) dL_law_12 ⟨by decide, by decide⟩) hP hD hS hA [6] [0, 1, 2, 3, 4, 5] rfl rfl (by decide) (by decide) (fun u H9 locs hu hP9 hD9 hKn hS9 => ?_)
  obtain ⟨bb, g⟩ := u
  have hu : bb 0 = q1 := hu
  subst hu
  have hK := hK.app hKn
  have hP : va_P D vwCl (wX a k 0 (fun _ => 0) (fun _ => 0) (fun _ => -1) (fun _ => 0) (fun _ => 0) ++ wM bb g 0 0 (fun _ => 0) (fun _ => 0) (fun _ => 0) (fun _ => 0) (fun _ => 0)) H9 := hP9
  have hD : va_D A (wX a k 0 (fun _ => 0) (fun _ => 0) (fun _ => -1) (fun _ => 0) (fun _ => 0) ++ wM bb g 0 0 (fun _ => 0) (fun _ => 0) (fun _ => 0) (fun _ => 0) (fun _ => 0)) := hD9
  have hS := hS9
  clear hP9 hD9 hS9
  generalize H9 = H at hP hS ⊢
  refine lv_astore_n (lv' := [(2, .ref (bb 0)), (1, .ref (a 0)), (0, .ref b)]) hx hb dL_law_15 rfl hl (by decide) rfl (fun ls hl => ?_)
  refine lv_iconst (v := 1) hx hb dL_law_16 (by decide) ?_
  refine va_newa (atype := .long) (ty := .long) (n := 1) (a0 := (1, .inr (.inl (fun _ => 0)))) (N' := 1) hx hb (hts (.arrayClass .long) mb_109) rfl hK hP hD hS hA (fun _ => rfl) (by decide) (by decide) (by decide) (by decide) (by decide) dL_law_17 (fun q z H hK hP hD hS => ?_)
  have hK : va_K D vwCl (tX k ++ tM g ++ tO z) s := hK
  have e9 : (fun _ => 0 : Nat → Int32) = fun i9 => (fun _ => -1 : Nat → Int32) i9 + 1 := by funext i9; show (0 : Int32) = -1 + 1; decide
  have hP : va_P D vwCl (wX a k 0 (fun _ => 0) (fun _ => 0) (fun _ => -1) (fun _ => 0) (fun _ => 0) ++ wM bb g 0 0 (fun _ => 0) (fun _ => 0) (fun _ => 0) (fun _ => 0) (fun _ => 0) ++ wO q z (fun _ => 0)) H := hP
  have hD : va_D A (wX a k 0 (fun _ => 0) (fun _ => 0) (fun _ => -1) (fun _ => 0) (fun _ => 0) ++ wM bb g 0 0 (fun _ => 0) (fun _ => 0) (fun _ => 0) (fun _ => 0) (fun _ => 0) ++ wO q z (fun _ => 0)) := hD
  rw [show wM bb g 0 0 (fun _ => 0) (fun _ => 0) (fun _ => 0) (fun _ => 0) (fun _ => 0) = wM bb g 0 0 (fun _ => 0) (fun _ => 0) (fun i9 => (fun _ => -1 : Nat → Int32) i9 + 1) (fun _ => 0) (fun _ => 0) from congrArg (fun f => wM bb g 0 0 (fun _ => 0) (fun _ => 0) f (fun _ => 0) (fun _ => 0)) e9] at hP hD
  refine lv_astore_n (lv' := [(3, .ref q), (2, .ref (bb 0)), (1, .ref (a 0)), (0, .ref b)]) hx hb dL_law_19 rfl hl (by decide) rfl (fun ls hl => ?_)
  refine lv_iconst (v := 0) hx hb dL_law_20 (by decide) ?_
  refine lv_istore (lv' := [(4, .int 0), (3, .ref q), (2, .ref (bb 0)), (1, .ref (a 0)), (0, .ref b)]) hx hb dL_law_21 hl (by decide) rfl (fun ls hl => ?_)
  refine W.widen (k := 13 + 1 * 0) (n := 462 + 6 * 0) (by decide) (by decide) ?_
  have hl : lv_has ls 8 [(4, .int (nI (7 * 0))), (0, .ref b), (1, .ref (a 0)), (2, .ref (bb 0)), (3, .ref q)] := lv_sub hl [0, 4, 3, 2, 1] rfl
  exact law_loop hl9 hx hb hr hml hlocks hown hts hX hbl hbA hK hZ hA hL hAs 514 0 (by omega) (by omega) 0 _ _ _ _ _ 0 _ H _ ls ⟨by omega, mono_0 _, fun j _ => Or.inl rfl⟩ hP hD hS hl
end
section
set_option maxHeartbeats 4000000 in
theorem lw_walk (l : Launch) (hl9 : l.stackTraces = false) (b : Addr) (xs : List Int32) : MetFree l x (headSpec (Jvm.Cond.code x code maxLocals ret :: tables_1) room_1) (lw_P b xs) (fun _ _ _ _ _ => True) lw_Q := by
  refine MetFree.of_bodyS (code := code) (maxLocals := maxLocals) (ret := ret) (by decide) ?_ ?_
  · intro args s m h hn
    obtain ⟨meth, c, h1, h2, h3, h4, h5, h6, -, -⟩ := Cond.code_spec hn (atoms_spec (ws := Jvm.Cond.code x code maxLocals ret :: tables_1) h _ List.mem_cons_self)
    exact ⟨meth, c, h1, h2, h3, h4, h5, h6⟩
  · intro p e s m args below meth c s₁ B hml0 hP _
    obtain ⟨rfl, hx, hbd, hgv⟩ := hP
    obtain ⟨scr, harrAt, hlist, hof, hsmall⟩ := hx
    obtain ⟨hcb, hkn, -, -⟩ := State.arrayAt?_spec harrAt
    have hown : s.vm.findClass R_law = some m.cls := findClass_of_methodNamed B.named
    have hts0 : ∀ c ∈ (Jvm.Cond.code x code maxLocals ret :: tables_1), c.before #[Value.ref b] s = true := atoms_spec (ws := Jvm.Cond.code x code maxLocals ret :: tables_1) B.pre
    have hts : ∀ w ∈ lw_tbl, w.before #[Value.ref b] s = true := k2_hts_sels lw_privs (fun w hw => hts0 w (List.mem_cons_of_mem _ hw)) lw_privs_ok
    have hml : c.maxLocals = 8 := B.maxLocals_eq (hts0 _ List.mem_cons_self)
    have X₀ : Stand p l e room_1 s m #[Value.ref b] below meth c s₁ [] 0 0 := Stand.of_body B
    have hh0 : s₁.heap = s.heap := by rw [B.state]; rfl
    have hsz : scr.slots.size = xs.length := by rw [← Array.length_toList, hlist, List.length_map]
    have hval : ∀ j : Nat, j < xs.length → scr.slots[j]? = some (.int (xs.getD j 0)) := fun j hj => by
      rw [← Array.getElem?_toList, hlist]
      simp [hj]
    have hbl : b < s.heap.size := (Array.getElem?_eq_some_iff.mp hcb).1
    have hX : va_X b xs.length (fun j => xs.getD j 0) s s.heap := ⟨scr, hcb, hof, hkn, hsz, hval⟩
    have K : W p l e room_1 s m #[Value.ref b] below meth c s₁.heap [] 0 0 (lw_Z below #[Value.ref b] s) (entryFrame m ([Value.ref b] : List Value).toArray 8) := by
      rw [hh0]
      exact whole_start l hl9 hbd ⟨B.exec, B.bytes, B.returns, hml, hown, hts, hX, hbl, B.notSynchronized, hgv⟩
    obtain ⟨t, a1, o, b1, b2, b3⟩ := K s₁ rfl X₀
    exact ⟨t, o, a1, b1, b2, b3⟩
theorem lw_pre_spec {args : Array Value} {s : State} (h : (Jvm.Cond.and given_1 narrow_1).before args s = true) (hr : rest_1_c.before args s = true) : ∃ (b : Addr) (xs : List Int32), lw_P b xs args s := by
  have hs := flat_of_before _ h
  have hq := flat_of_before _ hr
  have hc : (Cond.count 1).before args s = true := hs _ (by decide +kernel)
  have harr : (Cond.arrayOf (.arg 0) .int).before args s = true := hs _ (by decide +kernel)
  have hle : (Cond.le (.length (.arg 0)) (.int 3584)).before args s = true := hs _ (by decide +kernel)
  have hlen : (Cond.isInt (.length (.arg 0))).before args s = true := hq _ (by decide +kernel)
  have hall : (Cond.all (.arg 0) (.isInt (.elem (.arg 0) (.index 0)))).before args s = true := hq _ (by decide +kernel)
  obtain ⟨b, xs, hb, hx⟩ := State.ints_of_pre rfl harr hlen hall
  have hsm : xs.length < 2 ^ 31 := hx.choose_spec.2.2.2
  have hev : (Term.length (.arg 0)).eval args s none [] s = some (.int xs.length.toInt32) := hx.length_eval hb
  have hv := Cond.le_ints hev (show (Term.int 3584).eval args s none [] s = some (.int 3584) from rfl)
  have hd : xs.length.toInt32 ≤ 3584 := by
    simpa [Cond.before, Cond.holds, hv] using hle
  have hN : xs.length ≤ 3584 := (Int32.ofNat_le_ofNat hsm (by decide)).mp (show Int32.ofNat xs.length ≤ Int32.ofNat 3584 from hd)
  exact ⟨b, xs, Cond.one_arg hc (show args[0]? = some (.ref b) from hb), hx, hN, h⟩
theorem lw_comes (l : Launch) (hl9 : l.stackTraces = false) : Comes l x (Jvm.Cond.code x code maxLocals ret :: tables_1) room_1 (fun tb e args s => Calls_1 tb e args s ∧ rest_1 tb e args s ∧ Pre_1 tb e args s)
    (fun _ _ args s o t => lw_Q args s o t) := by
  intro p e ha hc hk s m args below hf hfit hheap happ hpre
  obtain ⟨b, xs, hP⟩ := lw_pre_spec hpre.2.2 hpre.2.1
  obtain ⟨k, o, h1, h2, h3, hQ⟩ := lw_walk l hl9 b xs p e ha hc hk s m args below hf ((Spec.applies_iff_loose hf).mp happ).1 hP trivial
  exact ⟨k, o, h1, h2, h3, hQ⟩
theorem lw_frame {s t : State} {o : Outcome} {args : Array Value} (h : Framed s o t [] 1045 8702) :
    Framed s o t (fieldLocs frame_1_writes args s ++ arrayLocs frame_1_arrays args s ++ staticLocs frame_1_statics s) 1045 8702 := h
theorem lw_limb (L : Cond) (hL : ∀ (args : Array Value) (s t : State), L.after args s (.returned (some (.int 1))) t = true) :
    ArmFor flags0 classFile x code maxLocals ret World_1 tables_1 room_1 Calls_1 rest_1 Pre_1
      (fun tb e a s o t => postC L tb e a s o t ∧ Framed s o t (fieldLocs frame_1_writes a s ++ arrayLocs frame_1_arrays a s ++ staticLocs frame_1_statics s) 1045 8702) := by
  intro l hfl _ _ p e ha hc hk s m args below hf hfit hheap happ hpre
  have hl9 : l.stackTraces = false := by rw [Launch.stackTraces, hfl]; decide
  obtain ⟨k, o, h1, h2, h3, rfl, hF⟩ := lw_comes l hl9 p e ha hc hk s m args below hf hfit hheap happ hpre
  exact ⟨k, _, h1, h2, h3, hL args s _, lw_frame hF⟩
theorem i_vc : Claimed_1_1 ∧ Claimed_1_2 := ⟨lw_limb limb_1_1 (fun args s t => by simp [limb_1_1, Cond.after, Cond.holds, Cond.value]), lw_limb limb_1_2 (fun args s t => Cond.after_iff.mpr (by
  first | (rw [show limb_1_2 = Cond.eq .result (.int 1) from rfl, Cond.eq_ints (x := 1) (y := 1) rfl rfl]; simp; done) | (simp [limb_1_2, Cond.value, Term.eval]; done)))⟩
end
