set_option maxHeartbeats 1000000 in
set_option maxRecDepth 100000 in
theorem whole_start {p : Program} {e : Env} {s : State} {m : MethodId} {below : List Frame} {meth : Method} {c : Code} (l : Launch) (hl9 : l.stackTraces = false) {b L : Nat} {xs : Nat → Int32} (hL : L ≤ 3584) (C0 : lw_At p s m meth c b L xs) : W p l e room_1 s m #[Value.ref b] below meth c s.heap [] 0 0 (lw_Z below #[Value.ref b] s) (entryFrame m ([Value.ref b] : List Value).toArray 8) := by
  obtain ⟨hx, hb, hr, hml, hown, hts0, hX, hbl, hlocks, hgv⟩ := C0
  have hb : c.code = cL_law := hb
  have hr : meth.sig.returnType = some .boolean := hr
  have hown : s.vm.findClass RL = some m.cls := hown
  have hts : ∀ w ∈ ALL, w.before #[Value.ref b] s = true := fun w h => hts0 w (al_tbl h)
  obtain ⟨c0, i0, k0⟩ := u_known (C := RX0) (T := TX0) (N := 6) hts ui_X0 (hts (.instantiable RX0 6) mb_206)
  obtain ⟨c1, i1, k1⟩ := u_known (C := RX1) (T := TX1) (N := 7) hts ui_X1 (hts (.instantiable RX1 7) mb_207)
  obtain ⟨D, hK⟩ : ∃ D : va_G, va_K D vwCl [] s := by
    refine ⟨(fun i => match i with | 0 => c0 | _ => c1, fun i => match i with | 0 => i0 | _ => i1), ?_, fun k q hk => by cases hk⟩
    intro k q hq
    match k, hq with
    | 0, hq => cases hq; exact k0
    | 1, hq => cases hq; exact k1
    | k + 2, hq => simp [vwCl] at hq
  obtain ⟨A, hAe⟩ : ∃ A : Nat → Prop, A = fun q => s.heap.size ≤ q := ⟨_, rfl⟩
  have hA : ∀ q : Nat, s.heap.size ≤ q → A q := fun q h => by rw [hAe]; exact h
  have hAs : ∀ q : Nat, A q → s.heap.size ≤ q := fun q h => by rw [hAe] at h; exact h
  have hbA : ¬ A b := fun h => absurd hbl (Nat.not_lt.mpr (hAs _ h))
  have hZ : zx A s s.heap := st_zx hts0 hgv (fun a h q => absurd h (Nat.not_lt.mpr (hAs _ q)))
  have hP : va_P D vwCl [] s.heap := fun k q hq => by cases hq
  have hD : va_D A [] := ⟨fun i j p q h => (by cases h), fun k q h => (by cases h)⟩
  have hS : va_S A s.heap s.heap [] := va_S.rf
  have hl := lv_entry ([.ref b]) (n := 8) (Nat.le_of_ble_eq_true rfl)
  rw [lg_entry_eq]
  generalize (lg_sl ([.ref b]) ++ List.replicate (8 - (lg_sl ([.ref b])).length) Slot.unset).toArray = ls at hl ⊢
  have hl : lv_has ls 8 [(0, .ref b)] := hl
  refine va_new (ci := 0) (fs := [.null, .null, .int 0, .null, .null, .null]) (C := RX0) (T := TX0) (N := 6) hx hb hts ui_X0 tyX0 tyX0_ok hown (hts (.classLink RL 8 RX0) mb_208) (hts (.instantiable RX0 6) mb_206) (hts (.initialized RX0) mb_12) hK hP hD hS hA rfl (fun j hj => by rcases (show j = 0 ∨ j = 1 ∨ j = 2 ∨ j = 3 ∨ j = 4 ∨ j = 5 by omega) with rfl | rfl | rfl | rfl | rfl | rfl <;> rfl) (by decide) (by decide) dL_law_0 (fun q0 H hP hD hS => ?_)
  have hP : va_P D vwCl ([(q0, .inr (0, [.null, .null, .int 0, .null, .null, .null]))]) H := hP
  have hD : va_D A ([(q0, .inr (0, [.null, .null, .int 0, .null, .null, .null]))]) := hD
  refine lv_dup hx hb dL_law_3 rfl ?_
  refine kn_u (wc := [(q0, .inr (0, [.null, .null, .int 0, .null, .null, .null]))]) (wr := []) (tf := fun u : (Nat → Nat) × (Nat → ClassId) => tX u.2) (wf := fun u : (Nat → Nat) × (Nat → ClassId) => wX u.1 u.2 0 (fun _ => 0) (fun _ => 0) (fun _ => -1) (fun _ => 0) (fun _ => 0)) (va_runI (As := []) (rest := [.ref q0]) ⟨hx, hb, hml, hown, hts⟩ (c_init l D q0 H.size) (cwI 0 hts (gd_I mb_209) rfl rfl rfl (hts (.initialized RX0) mb_12) (hts (.methodLink RL 47 yX0_init) mb_210) (hts (.instanceMethod yX0_init) mb_211) rfl (by decide +kernel) ⟨by decide, by decide⟩) ⟨cP_blind, cPre hP hD hK hS hA hZ [0] rfl (by decide) [] rfl⟩ rfl rfl hl.1 rfl (lv_room (Nat.le_of_ble_eq_true rfl)) dL_law_4 ⟨by decide, by decide⟩) hP hD hS hA [0] [] rfl rfl (by decide) (by decide) (fun u H9 locs hu hP9 hD9 hKn hS9 => ?_)
  obtain ⟨a, k⟩ := u
  have hu : a 0 = q0 := hu
  subst hu
  have hK := hK.app hKn
  have hK : va_K D vwCl (tX k) s := hK
  have hP : va_P D vwCl (wX a k 0 (fun _ => 0) (fun _ => 0) (fun _ => -1) (fun _ => 0) (fun _ => 0)) H9 := hP9
  have hD : va_D A (wX a k 0 (fun _ => 0) (fun _ => 0) (fun _ => -1) (fun _ => 0) (fun _ => 0)) := hD9
  have hS := hS9
  clear hP9 hD9 hS9
  generalize H9 = H at hP hS ⊢
  refine lv_astore_n (lv' := [(1, .ref (a 0)), (0, .ref b)]) hx hb dL_law_7 rfl hl (by decide) rfl (fun ls hl => ?_)
  refine va_new (ci := 1) (fs := [.int 0, .int 0, .null, .null, .null, .null, .null]) (C := RX1) (T := TX1) (N := 7) hx hb hts ui_X1 tyX1 tyX1_ok hown (hts (.classLink RL 48 RX1) mb_212) (hts (.instantiable RX1 7) mb_207) (hts (.initialized RX1) mb_50) hK hP hD hS hA rfl (fun j hj => by rcases (show j = 0 ∨ j = 1 ∨ j = 2 ∨ j = 3 ∨ j = 4 ∨ j = 5 ∨ j = 6 by omega) with rfl | rfl | rfl | rfl | rfl | rfl | rfl <;> rfl) (by decide) (by decide) dL_law_8 (fun q1 H hP hD hS => ?_)
  have hP : va_P D vwCl (wX a k 0 (fun _ => 0) (fun _ => 0) (fun _ => -1) (fun _ => 0) (fun _ => 0) ++ [(q1, .inr (1, [.int 0, .int 0, .null, .null, .null, .null, .null]))]) H := hP
  have hD : va_D A (wX a k 0 (fun _ => 0) (fun _ => 0) (fun _ => -1) (fun _ => 0) (fun _ => 0) ++ [(q1, .inr (1, [.int 0, .int 0, .null, .null, .null, .null, .null]))]) := hD
  refine lv_dup hx hb dL_law_11 rfl ?_
  refine kn_u (wc := [(q1, .inr (1, [.int 0, .int 0, .null, .null, .null, .null, .null]))]) (wr := (wX a k 0 (fun _ => 0) (fun _ => 0) (fun _ => -1) (fun _ => 0) (fun _ => 0))) (tf := fun u : (Nat → Nat) × (Nat → ClassId) => tM u.2) (wf := fun u : (Nat → Nat) × (Nat → ClassId) => wM u.1 u.2 0 0 (fun _ => 0) (fun _ => 0) (fun _ => 0) (fun _ => 0) (fun _ => 0)) (va_runI (As := []) (rest := [.ref q1]) ⟨hx, hb, hml, hown, hts⟩ (m_init l D q1 H.size) (cwI 0 hts (gd_I mb_213) rfl rfl rfl (hts (.initialized RX1) mb_50) (hts (.methodLink RL 50 yX1_init) mb_214) (hts (.instanceMethod yX1_init) mb_215) rfl (by decide +kernel) ⟨by decide, by decide⟩) ⟨cP_blind, cPre hP hD hK hS hA hZ [6] rfl (by decide) [] rfl⟩ rfl rfl hl.1 rfl (lv_room (Nat.le_of_ble_eq_true rfl)) dL_law_12 ⟨by decide, by decide⟩) hP hD hS hA [6] [0, 1, 2, 3, 4, 5] rfl rfl (by decide) (by decide) (fun u H9 locs hu hP9 hD9 hKn hS9 => ?_)
  obtain ⟨bb, g⟩ := u
  have hu : bb 0 = q1 := hu
  subst hu
  have hK := hK.app hKn
  have hP : va_P D vwCl (wX a k 0 (fun _ => 0) (fun _ => 0) (fun _ => -1) (fun _ => 0) (fun _ => 0) ++ wM bb g 0 0 (fun _ => 0) (fun _ => 0) (fun _ => 0) (fun _ => 0) (fun _ => 0)) H9 := hP9
  have hD : va_D A (wX a k 0 (fun _ => 0) (fun _ => 0) (fun _ => -1) (fun _ => 0) (fun _ => 0) ++ wM bb g 0 0 (fun _ => 0) (fun _ => 0) (fun _ => 0) (fun _ => 0) (fun _ => 0)) := hD9
  have hS := hS9
  clear hP9 hD9 hS9
  generalize H9 = H at hP hS ⊢
  refine lv_astore_n (lv' := [(2, .ref (bb 0)), (1, .ref (a 0)), (0, .ref b)]) hx hb dL_law_15 rfl hl (by decide) rfl (fun ls hl => ?_)
  refine lv_iconst (v := 1) hx hb dL_law_16 (by decide) ?_
  refine va_newa (atype := .long) (ty := .long) (n := 1) (a0 := (1, .inr (.inl (fun _ => 0)))) (N' := 1) hx hb (hts (.arrayClass .long) mb_109) rfl hK hP hD hS hA (fun _ => rfl) (by decide) (by decide) (by decide) (by decide) (by decide) dL_law_17 (fun q z H hK hP hD hS => ?_)
  have hK : va_K D vwCl (tX k ++ tM g ++ tO z) s := hK
  have e9 : (fun _ => 0 : Nat → Int32) = fun i9 => (fun _ => -1 : Nat → Int32) i9 + 1 := by funext i9; show (0 : Int32) = -1 + 1; decide
  have hP : va_P D vwCl (wX a k 0 (fun _ => 0) (fun _ => 0) (fun _ => -1) (fun _ => 0) (fun _ => 0) ++ wM bb g 0 0 (fun _ => 0) (fun _ => 0) (fun _ => 0) (fun _ => 0) (fun _ => 0) ++ wO q z (fun _ => 0)) H := hP
  have hD : va_D A (wX a k 0 (fun _ => 0) (fun _ => 0) (fun _ => -1) (fun _ => 0) (fun _ => 0) ++ wM bb g 0 0 (fun _ => 0) (fun _ => 0) (fun _ => 0) (fun _ => 0) (fun _ => 0) ++ wO q z (fun _ => 0)) := hD
  rw [show wM bb g 0 0 (fun _ => 0) (fun _ => 0) (fun _ => 0) (fun _ => 0) (fun _ => 0) = wM bb g 0 0 (fun _ => 0) (fun _ => 0) (fun i9 => (fun _ => -1 : Nat → Int32) i9 + 1) (fun _ => 0) (fun _ => 0) from congrArg (fun f => wM bb g 0 0 (fun _ => 0) (fun _ => 0) f (fun _ => 0) (fun _ => 0)) e9] at hP hD
  refine lv_astore_n (lv' := [(3, .ref q), (2, .ref (bb 0)), (1, .ref (a 0)), (0, .ref b)]) hx hb dL_law_19 rfl hl (by decide) rfl (fun ls hl => ?_)
  refine lv_iconst (v := 0) hx hb dL_law_20 (by decide) ?_
  refine lv_istore (lv' := [(4, .int 0), (3, .ref q), (2, .ref (bb 0)), (1, .ref (a 0)), (0, .ref b)]) hx hb dL_law_21 hl (by decide) rfl (fun ls hl => ?_)
  refine W.widen (k := 13 + 1 * 0) (n := 462 + 6 * 0) (by decide) (by decide) ?_
  have hl : lv_has ls 8 [(4, .int (nI (7 * 0))), (0, .ref b), (1, .ref (a 0)), (2, .ref (bb 0)), (3, .ref q)] := lv_sub hl [0, 4, 3, 2, 1] rfl
  exact law_loop hl9 hx hb hr hml hlocks hown hts hX hbl hbA hK hZ hA hL hAs 514 0 (by omega) (by omega) 0 _ _ _ _ _ 0 _ H _ ls ⟨by omega, mono_0 _, fun j _ => Or.inl rfl⟩ hP hD hS hl
