set_option maxHeartbeats 1000000 in
set_option maxRecDepth 100000 in
theorem h_begin (l : Launch) (hl9 : l.stackTraces = false) (D : va_G) (a : Nat → Nat) (k : Nat → ClassId) (n : Nat) (K V : Nat → Int64) (kd : Nat → Int32) (SK SV : Nat → Int64) (slot kind : Int32) (key value : Int64) (sz : Nat)  : Met l yL_begin wsL_begin ({ frames := 9, cells := 1, slots := 6, locals := 150 }) (cP D (tX k) (wX a k n K V kd SK SV) [.ref (a 0), .int slot, .int kind, .long key, .long value] sz) (cQi D (tX k) (fun r => r = cdB slot kind kd) (wX a k n K V (kdB slot kind kd) (svB slot kind kd key SK) (svB slot kind kd value SV)) (va_A (wX a k n K V kd SK SV) sz)) 1 6 (va_A (wX a k n K V kd SK SV) sz) := by
  refine mk_h (cc := cL_begin) (maxL := 8) (ret := (some .int)) (hh := [(0, 9, 12, 13), (0, 9, 16, 15)]) (fun A => cQi D (tX k) (fun r => r = cdB slot kind kd) (wX a k n K V (kdB slot kind kd) (svB slot kind kd key SK) (svB slot kind kd value SV)) A) (by decide) rfl (Nat.le_of_ble_eq_true rfl) ?_
  intro p e s m below meth c ls A hx hb hr hml ht9 hlocks hnm hown hts hP hK hD hZ hA hS hl
  have hown : s.vm.findClass RL = some m.cls := hown
  have hl : lv_has ls 8 [(0, .ref (a 0)), (1, .int slot), (2, .int kind), (3, .long key), (5, .long value)] := hl
  refine lv_aload_n hx hb dL_begin_0 rfl (lv_at hl 0 rfl) ?_
  refine lv_iload_n hx hb dL_begin_1 rfl (lv_at hl 1 rfl) ?_
  refine lv_iload_n hx hb dL_begin_2 rfl (lv_at hl 2 rfl) ?_
  refine lv_lload_n hx hb dL_begin_3 rfl (lv_at hl 3 rfl) ?_
  refine lv_lload hx hb dL_begin_4 (lv_at hl 4 rfl) ?_
  refine kx_v (wc := (wX a k n K V kd SK SV)) (wr := []) (w1 := (wX a k n K V (upd kd (ix slot) kind) (vp_updL SK (ix slot) key) (vp_updL SV (ix slot) value))) (w2 := (wX a k n K V kd SK SV)) (vx_runV (As := [.int slot, .int kind, .long key, .long value]) (rest := []) ⟨hx, hb, hml, hown, hts⟩ (c_begin l hl9 D a k n K V kd SK SV slot kind key value s.heap.size) (cwV 4 hts (gd_up (gd_V mb_70 mb_71 mb_72 mb_12 mb_73)) rfl rfl rfl (by decide +kernel) ⟨by decide, by decide⟩) ⟨cP_blind, va_recv (q0 := 0) (ci := 0) (q := (RX0, TX0, 6)) hK hP rfl rfl, cPre hP hD hK hS hA hZ [0, 1, 2, 3, 4, 5] rfl (by decide) [0, 1, 2, 3, 4] rfl⟩ rfl rfl hl.1 rfl (lv_room (Nat.le_of_ble_eq_true rfl)) dL_begin_6 ⟨by decide, by decide⟩) hP hD hS hA [0, 1, 2, 3, 4, 5] [] rfl rfl (by decide) (by decide) (fun E ce q9 H locs hE hP hD hS hce hcv hcl => ?_) (fun H locs hp hP hD hS => ?_)
  · skip
    have hP : va_P D vwCl (wX a k n K V kd SK SV) H := hP
    have hD : va_D A (wX a k n K V kd SK SV) := hD
    rcases hE with ⟨rfl, hc⟩ | ⟨rfl, hc⟩ | ⟨rfl, hc⟩
    · skip
      refine vx_catch (own := RL) (name := "java/lang/IllegalArgumentException") (E := "java/lang/IllegalArgumentException") hown [] ⟨0, 9, 12, 13⟩ [⟨0, 9, 16, 15⟩] (by rw [ht9]; rfl) (fun z hz => nomatch hz) (by decide) (by decide) (hts (.classLink RL 13 "java/lang/IllegalArgumentException") (wm mb_74)) (va_Nw.use rfl (hZ.2.2.2.1 "java/lang/IllegalArgumentException" (by decide))) hce hcv hcl ?_
      refine lv_astore (lv' := [(7, .ref q9), (0, .ref (a 0)), (1, .int slot), (2, .int kind), (3, .long key), (5, .long value)]) hx hb dL_begin_12 hl (by decide) rfl (fun ls hl => ?_)
      refine lv_iconst (v := 1) hx hb dL_begin_14 (by decide) ?_
      rw [show kdB slot kind kd = kd by unfold kdB; rw [hc]; rfl, show svB slot kind kd key SK = SK by unfold svB; rw [hc]; rfl, show svB slot kind kd value SV = SV by unfold svB; rw [hc]; rfl]
      exact fn_i hx hb hr hlocks (by decide) (by decide) hc.symm hP hK hD hS dL_begin_15
    · skip
      refine vx_catch (own := RL) (name := "java/lang/IllegalStateException") (E := "java/lang/IllegalStateException") hown [⟨0, 9, 12, 13⟩] ⟨0, 9, 16, 15⟩ [] (by rw [ht9]; rfl) (fun z hz => by
          rcases List.mem_cons.mp hz with rfl | hz
          · exact Or.inr ⟨by decide, "java/lang/IllegalArgumentException", (hts (.classLink RL 13 "java/lang/IllegalArgumentException") (wm mb_74)), hZ.2.2.2.2.2 ("java/lang/IllegalStateException", "java/lang/IllegalArgumentException") (by decide)⟩
          cases hz) (by decide) (by decide) (hts (.classLink RL 15 "java/lang/IllegalStateException") (wm mb_75)) (va_Nw.use rfl (hZ.2.2.2.1 "java/lang/IllegalStateException" (by decide))) hce hcv hcl ?_
      refine lv_astore (lv' := [(7, .ref q9), (0, .ref (a 0)), (1, .int slot), (2, .int kind), (3, .long key), (5, .long value)]) hx hb dL_begin_16 hl (by decide) rfl (fun ls hl => ?_)
      refine lv_iconst (v := 2) hx hb dL_begin_18 (by decide) ?_
      rw [show kdB slot kind kd = kd by unfold kdB; rw [hc]; rfl, show svB slot kind kd key SK = SK by unfold svB; rw [hc]; rfl, show svB slot kind kd value SV = SV by unfold svB; rw [hc]; rfl]
      exact fn_i hx hb hr hlocks (by decide) (by decide) hc.symm hP hK hD hS dL_begin_19
    · skip
      exact absurd hc (cdB_n3 slot kind kd)
  · skip
    have hP : va_P D vwCl (wX a k n K V (upd kd (ix slot) kind) (vp_updL SK (ix slot) key) (vp_updL SV (ix slot) value)) H := hP
    have hD : va_D A (wX a k n K V (upd kd (ix slot) kind) (vp_updL SK (ix slot) key) (vp_updL SV (ix slot) value)) := hD
    refine lv_goto (tgt := 20) hx hb dL_begin_9 (by decide) ?_
    refine lv_iconst (v := 0) hx hb dL_begin_20 (by decide) ?_
    rw [show kdB slot kind kd = upd kd (ix slot) kind from if_pos hp, show svB slot kind kd key SK = vp_updL SK (ix slot) key from if_pos hp, show svB slot kind kd value SV = vp_updL SV (ix slot) value from if_pos hp]
    exact fn_i hx hb hr hlocks (by decide) (by decide) hp.symm hP hK hD hS dL_begin_21
set_option maxHeartbeats 1000000 in
set_option maxRecDepth 100000 in
theorem h_step (l : Launch) (hl9 : l.stackTraces = false) (D : va_G) (a : Nat → Nat) (k : Nat → ClassId) (n : Nat) (K V : Nat → Int64) (kd : Nat → Int32) (SK SV : Nat → Int64) (slot x : Int32) (sz : Nat)  : Met l yL_step wsL_step ({ frames := 9, cells := 1, slots := 6, locals := 150 }) (cP D (tX k) (wX a k n K V kd SK SV) [.ref (a 0), .int slot, .int x] sz) (cQi D (tX k) (fun r => r = cdT slot x kd) (wX a k n K V kd SK SV) (va_A (wX a k n K V kd SK SV) sz)) 1 6 (va_A (wX a k n K V kd SK SV) sz) := by
  refine mk_h (cc := cL_step) (maxL := 4) (ret := (some .int)) (hh := [(0, 6, 9, 13), (0, 6, 12, 15)]) (fun A => cQi D (tX k) (fun r => r = cdT slot x kd) (wX a k n K V kd SK SV) A) (by decide) rfl (Nat.le_of_ble_eq_true rfl) ?_
  intro p e s m below meth c ls A hx hb hr hml ht9 hlocks hnm hown hts hP hK hD hZ hA hS hl
  have hown : s.vm.findClass RL = some m.cls := hown
  have hl : lv_has ls 4 [(0, .ref (a 0)), (1, .int slot), (2, .int x)] := hl
  refine lv_aload_n hx hb dL_step_0 rfl (lv_at hl 0 rfl) ?_
  refine lv_iload_n hx hb dL_step_1 rfl (lv_at hl 1 rfl) ?_
  refine lv_iload_n hx hb dL_step_2 rfl (lv_at hl 2 rfl) ?_
  refine kx_v (wc := (wX a k n K V kd SK SV)) (wr := []) (w1 := (wX a k n K V kd SK SV)) (w2 := (wX a k n K V kd SK SV)) (vx_runV (As := [.int slot, .int x]) (rest := []) ⟨hx, hb, hml, hown, hts⟩ (c_step l hl9 D a k n K V kd SK SV slot x s.heap.size) (cwV 2 hts (gd_up (gd_V mb_76 mb_77 mb_78 mb_12 mb_79)) rfl rfl rfl (by decide +kernel) ⟨by decide, by decide⟩) ⟨cP_blind, va_recv (q0 := 0) (ci := 0) (q := (RX0, TX0, 6)) hK hP rfl rfl, cPre hP hD hK hS hA hZ [0, 1, 2, 3, 4, 5] rfl (by decide) [0, 1, 2, 3, 4] rfl⟩ rfl rfl hl.1 rfl (lv_room (Nat.le_of_ble_eq_true rfl)) dL_step_3 ⟨by decide, by decide⟩) hP hD hS hA [0, 1, 2, 3, 4, 5] [] rfl rfl (by decide) (by decide) (fun E ce q9 H locs hE hP hD hS hce hcv hcl => ?_) (fun H locs hp hP hD hS => ?_)
  · skip
    have hP : va_P D vwCl (wX a k n K V kd SK SV) H := hP
    have hD : va_D A (wX a k n K V kd SK SV) := hD
    rcases hE with ⟨rfl, hc⟩ | ⟨rfl, hc⟩ | ⟨rfl, hc⟩
    · skip
      refine vx_catch (own := RL) (name := "java/lang/IllegalArgumentException") (E := "java/lang/IllegalArgumentException") hown [] ⟨0, 6, 9, 13⟩ [⟨0, 6, 12, 15⟩] (by rw [ht9]; rfl) (fun z hz => nomatch hz) (by decide) (by decide) (hts (.classLink RL 13 "java/lang/IllegalArgumentException") (wm mb_74)) (va_Nw.use rfl (hZ.2.2.2.1 "java/lang/IllegalArgumentException" (by decide))) hce hcv hcl ?_
      refine lv_astore_n (lv' := [(3, .ref q9), (0, .ref (a 0)), (1, .int slot), (2, .int x)]) hx hb dL_step_9 rfl hl (by decide) rfl (fun ls hl => ?_)
      refine lv_iconst (v := 1) hx hb dL_step_10 (by decide) ?_
      exact fn_i hx hb hr hlocks (by decide) (by decide) hc.symm hP hK hD hS dL_step_11
    · skip
      refine vx_catch (own := RL) (name := "java/lang/IllegalStateException") (E := "java/lang/IllegalStateException") hown [⟨0, 6, 9, 13⟩] ⟨0, 6, 12, 15⟩ [] (by rw [ht9]; rfl) (fun z hz => by
          rcases List.mem_cons.mp hz with rfl | hz
          · exact Or.inr ⟨by decide, "java/lang/IllegalArgumentException", (hts (.classLink RL 13 "java/lang/IllegalArgumentException") (wm mb_74)), hZ.2.2.2.2.2 ("java/lang/IllegalStateException", "java/lang/IllegalArgumentException") (by decide)⟩
          cases hz) (by decide) (by decide) (hts (.classLink RL 15 "java/lang/IllegalStateException") (wm mb_75)) (va_Nw.use rfl (hZ.2.2.2.1 "java/lang/IllegalStateException" (by decide))) hce hcv hcl ?_
      refine lv_astore_n (lv' := [(3, .ref q9), (0, .ref (a 0)), (1, .int slot), (2, .int x)]) hx hb dL_step_12 rfl hl (by decide) rfl (fun ls hl => ?_)
      refine lv_iconst (v := 2) hx hb dL_step_13 (by decide) ?_
      exact fn_i hx hb hr hlocks (by decide) (by decide) hc.symm hP hK hD hS dL_step_14
    · skip
      exact absurd hc (cdT_n3 slot x kd)
  · skip
    have hP : va_P D vwCl (wX a k n K V kd SK SV) H := hP
    have hD : va_D A (wX a k n K V kd SK SV) := hD
    refine lv_goto (tgt := 15) hx hb dL_step_6 (by decide) ?_
    refine lv_iconst (v := 0) hx hb dL_step_15 (by decide) ?_
    exact fn_i hx hb hr hlocks (by decide) (by decide) hp.symm hP hK hD hS dL_step_16
set_option maxHeartbeats 1000000 in
set_option maxRecDepth 100000 in
theorem h_finish (l : Launch) (hl9 : l.stackTraces = false) (D : va_G) (a : Nat → Nat) (k : Nat → ClassId) (n : Nat) (K V : Nat → Int64) (kd : Nat → Int32) (SK SV : Nat → Int64) (slot : Int32) (q : Nat) (z : ClassId) (o : Nat → Int64) (sz : Nat) (hn : n ≤ 100) : Met l yL_finish wsL_finish ({ frames := 9, cells := 1, slots := 6, locals := 150 }) (cP D (tX k ++ tO z) (wX a k n K V kd SK SV ++ wO q z o) [.ref (a 0), .int slot, .ref q] sz) (cQi D (tX k ++ tO z) (fun r => r = (fin n K V kd SK SV slot).1) (wX a k ((fin n K V kd SK SV slot).2.2.1) ((fin n K V kd SK SV slot).2.2.2.1) ((fin n K V kd SK SV slot).2.2.2.2.1) ((fin n K V kd SK SV slot).2.2.2.2.2) SK SV ++ wO q z (oS (fin n K V kd SK SV slot).1 (fin n K V kd SK SV slot).2.1 o)) (va_A (wX a k n K V kd SK SV ++ wO q z o) sz)) 1 6 (va_A (wX a k n K V kd SK SV ++ wO q z o) sz) := by
  refine mk_h (cc := cL_finish) (maxL := 4) (ret := (some .int)) (hh := [(0, 8, 11, 13), (0, 8, 14, 15), (0, 8, 17, 25)]) (fun A => cQi D (tX k ++ tO z) (fun r => r = (fin n K V kd SK SV slot).1) (wX a k ((fin n K V kd SK SV slot).2.2.1) ((fin n K V kd SK SV slot).2.2.2.1) ((fin n K V kd SK SV slot).2.2.2.2.1) ((fin n K V kd SK SV slot).2.2.2.2.2) SK SV ++ wO q z (oS (fin n K V kd SK SV slot).1 (fin n K V kd SK SV slot).2.1 o)) A) (by decide) rfl (Nat.le_of_ble_eq_true rfl) ?_
  intro p e s m below meth c ls A hx hb hr hml ht9 hlocks hnm hown hts hP hK hD hZ hA hS hl
  have hown : s.vm.findClass RL = some m.cls := hown
  have hl : lv_has ls 4 [(0, .ref (a 0)), (1, .int slot), (2, .ref q)] := hl
  refine lv_aload_n hx hb dL_finish_0 rfl (lv_at hl 2 rfl) ?_
  refine lv_iconst (v := 0) hx hb dL_finish_1 (by decide) ?_
  refine lv_aload_n hx hb dL_finish_2 rfl (lv_at hl 0 rfl) ?_
  refine lv_iload_n hx hb dL_finish_3 rfl (lv_at hl 1 rfl) ?_
  refine kx_l (wc := (wX a k n K V kd SK SV)) (wr := (wO q z o)) (w1 := (wX a k ((fin n K V kd SK SV slot).2.2.1) ((fin n K V kd SK SV slot).2.2.2.1) ((fin n K V kd SK SV slot).2.2.2.2.1) ((fin n K V kd SK SV slot).2.2.2.2.2) SK SV)) (w2 := (wX a k ((fin n K V kd SK SV slot).2.2.1) ((fin n K V kd SK SV slot).2.2.2.1) ((fin n K V kd SK SV slot).2.2.2.2.1) ((fin n K V kd SK SV slot).2.2.2.2.2) SK SV)) (vx_runV (As := [.int slot]) (rest := [.int 0, .ref q]) ⟨hx, hb, hml, hown, hts⟩ (c_finish l hl9 D a k n K V kd SK SV slot s.heap.size hn) (cwV 1 hts (gd_up (gd_V mb_80 mb_81 mb_82 mb_12 mb_83)) rfl rfl rfl (by decide +kernel) ⟨by decide, by decide⟩) ⟨cP_blind, va_recv (q0 := 0) (ci := 0) (q := (RX0, TX0, 6)) hK hP rfl rfl, cPre hP hD hK hS hA hZ [0, 1, 2, 3, 4, 5] rfl (by decide) [0, 1, 2, 3, 4] rfl⟩ rfl rfl hl.1 rfl (lv_room (Nat.le_of_ble_eq_true rfl)) dL_finish_4 ⟨by decide, by decide⟩) hP hD hS hA [0, 1, 2, 3, 4, 5] [6] rfl rfl (by decide) (by decide) (fun E ce q9 H locs hE hP hD hS hce hcv hcl => ?_) (fun r9 H locs hp hP hD hS => ?_)
  · skip
    have hP := hP.sub (ws' := wX a k ((fin n K V kd SK SV slot).2.2.1) ((fin n K V kd SK SV slot).2.2.2.1) ((fin n K V kd SK SV slot).2.2.2.2.1) ((fin n K V kd SK SV slot).2.2.2.2.2) SK SV ++ wO q z o) [1, 2, 3, 4, 5, 6, 0] rfl
    have hD := hD.sub (ws' := wX a k ((fin n K V kd SK SV slot).2.2.1) ((fin n K V kd SK SV slot).2.2.2.1) ((fin n K V kd SK SV slot).2.2.2.2.1) ((fin n K V kd SK SV slot).2.2.2.2.2) SK SV ++ wO q z o) [1, 2, 3, 4, 5, 6, 0] (by decide) rfl
    have hP : va_P D vwCl (wX a k ((fin n K V kd SK SV slot).2.2.1) ((fin n K V kd SK SV slot).2.2.2.1) ((fin n K V kd SK SV slot).2.2.2.2.1) ((fin n K V kd SK SV slot).2.2.2.2.2) SK SV ++ wO q z o) H := hP
    have hD : va_D A (wX a k ((fin n K V kd SK SV slot).2.2.1) ((fin n K V kd SK SV slot).2.2.2.1) ((fin n K V kd SK SV slot).2.2.2.2.1) ((fin n K V kd SK SV slot).2.2.2.2.2) SK SV ++ wO q z o) := hD
    rcases hE with ⟨rfl, hc⟩ | ⟨rfl, hc⟩ | ⟨rfl, hc⟩
    · skip
      refine vx_catch (own := RL) (name := "java/lang/IllegalArgumentException") (E := "java/lang/IllegalArgumentException") hown [] ⟨0, 8, 11, 13⟩ [⟨0, 8, 14, 15⟩, ⟨0, 8, 17, 25⟩] (by rw [ht9]; rfl) (fun z hz => nomatch hz) (by decide) (by decide) (hts (.classLink RL 13 "java/lang/IllegalArgumentException") (wm mb_74)) (va_Nw.use rfl (hZ.2.2.2.1 "java/lang/IllegalArgumentException" (by decide))) hce hcv hcl ?_
      refine lv_astore_n (lv' := [(3, .ref q9), (0, .ref (a 0)), (1, .int slot), (2, .ref q)]) hx hb dL_finish_11 rfl hl (by decide) rfl (fun ls hl => ?_)
      refine lv_iconst (v := 1) hx hb dL_finish_12 (by decide) ?_
      rw [oS_n (show ¬ (fin n K V kd SK SV slot).1 = 0 by rw [hc]; decide)]
      exact fn_i hx hb hr hlocks (by decide) (by decide) hc.symm hP hK hD hS dL_finish_13
    · skip
      refine vx_catch (own := RL) (name := "java/lang/IllegalStateException") (E := "java/lang/IllegalStateException") hown [⟨0, 8, 11, 13⟩] ⟨0, 8, 14, 15⟩ [⟨0, 8, 17, 25⟩] (by rw [ht9]; rfl) (fun z hz => by
          rcases List.mem_cons.mp hz with rfl | hz
          · exact Or.inr ⟨by decide, "java/lang/IllegalArgumentException", (hts (.classLink RL 13 "java/lang/IllegalArgumentException") (wm mb_74)), hZ.2.2.2.2.2 ("java/lang/IllegalStateException", "java/lang/IllegalArgumentException") (by decide)⟩
          cases hz) (by decide) (by decide) (hts (.classLink RL 15 "java/lang/IllegalStateException") (wm mb_75)) (va_Nw.use rfl (hZ.2.2.2.1 "java/lang/IllegalStateException" (by decide))) hce hcv hcl ?_
      refine lv_astore_n (lv' := [(3, .ref q9), (0, .ref (a 0)), (1, .int slot), (2, .ref q)]) hx hb dL_finish_14 rfl hl (by decide) rfl (fun ls hl => ?_)
      refine lv_iconst (v := 2) hx hb dL_finish_15 (by decide) ?_
      rw [oS_n (show ¬ (fin n K V kd SK SV slot).1 = 0 by rw [hc]; decide)]
      exact fn_i hx hb hr hlocks (by decide) (by decide) hc.symm hP hK hD hS dL_finish_16
    · skip
      refine vx_catch (own := RL) (name := "java/util/NoSuchElementException") (E := "java/util/NoSuchElementException") hown [⟨0, 8, 11, 13⟩, ⟨0, 8, 14, 15⟩] ⟨0, 8, 17, 25⟩ [] (by rw [ht9]; rfl) (fun z hz => by
          rcases List.mem_cons.mp hz with rfl | hz
          · exact Or.inr ⟨by decide, "java/lang/IllegalArgumentException", (hts (.classLink RL 13 "java/lang/IllegalArgumentException") (wm mb_74)), hZ.2.2.2.2.2 ("java/util/NoSuchElementException", "java/lang/IllegalArgumentException") (by decide)⟩
          rcases List.mem_cons.mp hz with rfl | hz
          · exact Or.inr ⟨by decide, "java/lang/IllegalStateException", (hts (.classLink RL 15 "java/lang/IllegalStateException") (wm mb_75)), hZ.2.2.2.2.2 ("java/util/NoSuchElementException", "java/lang/IllegalStateException") (by decide)⟩
          cases hz) (by decide) (by decide) (hts (.classLink RL 25 "java/util/NoSuchElementException") (wm mb_84)) (va_Nw.use rfl (hZ.2.2.2.1 "java/util/NoSuchElementException" (by decide))) hce hcv hcl ?_
      refine lv_astore_n (lv' := [(3, .ref q9), (0, .ref (a 0)), (1, .int slot), (2, .ref q)]) hx hb dL_finish_17 rfl hl (by decide) rfl (fun ls hl => ?_)
      refine lv_iconst (v := 3) hx hb dL_finish_18 (by decide) ?_
      rw [oS_n (show ¬ (fin n K V kd SK SV slot).1 = 0 by rw [hc]; decide)]
      exact fn_i hx hb hr hlocks (by decide) (by decide) hc.symm hP hK hD hS dL_finish_19
  · skip
    have hP := hP.sub (ws' := wX a k ((fin n K V kd SK SV slot).2.2.1) ((fin n K V kd SK SV slot).2.2.2.1) ((fin n K V kd SK SV slot).2.2.2.2.1) ((fin n K V kd SK SV slot).2.2.2.2.2) SK SV ++ wO q z o) [1, 2, 3, 4, 5, 6, 0] rfl
    have hD := hD.sub (ws' := wX a k ((fin n K V kd SK SV slot).2.2.1) ((fin n K V kd SK SV slot).2.2.2.1) ((fin n K V kd SK SV slot).2.2.2.2.1) ((fin n K V kd SK SV slot).2.2.2.2.2) SK SV ++ wO q z o) [1, 2, 3, 4, 5, 6, 0] (by decide) rfl
    have hP : va_P D vwCl (wX a k ((fin n K V kd SK SV slot).2.2.1) ((fin n K V kd SK SV slot).2.2.2.1) ((fin n K V kd SK SV slot).2.2.2.2.1) ((fin n K V kd SK SV slot).2.2.2.2.2) SK SV ++ wO q z o) H := hP
    have hD : va_D A (wX a k ((fin n K V kd SK SV slot).2.2.1) ((fin n K V kd SK SV slot).2.2.2.1) ((fin n K V kd SK SV slot).2.2.2.2.1) ((fin n K V kd SK SV slot).2.2.2.2.2) SK SV ++ wO q z o) := hD
    obtain ⟨hc, rfl⟩ := hp
    refine W.eq (g2 := F0 m 7 ls [.long (fin n K V kd SK SV slot).2.1, .int (nI 0), .ref q]) rfl ?_
    refine x_last (j := 0) hx hb hK hP hD hS 6 5 rfl rfl (by decide) (by decide) dL_finish_7 (fun H locs hP hD hS => ?_)
    have hP : va_P D vwCl (wX a k ((fin n K V kd SK SV slot).2.2.1) ((fin n K V kd SK SV slot).2.2.2.1) ((fin n K V kd SK SV slot).2.2.2.2.1) ((fin n K V kd SK SV slot).2.2.2.2.2) SK SV ++ wO q z (vp_updL o 0 ((fin n K V kd SK SV slot).2.1))) H := hP
    have hD : va_D A (wX a k ((fin n K V kd SK SV slot).2.2.1) ((fin n K V kd SK SV slot).2.2.2.1) ((fin n K V kd SK SV slot).2.2.2.2.1) ((fin n K V kd SK SV slot).2.2.2.2.2) SK SV ++ wO q z (vp_updL o 0 ((fin n K V kd SK SV slot).2.1))) := hD
    refine lv_goto (tgt := 20) hx hb dL_finish_8 (by decide) ?_
    refine lv_iconst (v := 0) hx hb dL_finish_20 (by decide) ?_
    rw [oS_0 hc]
    exact fn_i hx hb hr hlocks (by decide) (by decide) hc.symm hP hK hD hS dL_finish_21
set_option maxHeartbeats 1000000 in
set_option maxRecDepth 100000 in
theorem h_drop (l : Launch) (hl9 : l.stackTraces = false) (D : va_G) (a : Nat → Nat) (k : Nat → ClassId) (n : Nat) (K V : Nat → Int64) (kd : Nat → Int32) (SK SV : Nat → Int64) (slot : Int32) (q : Nat) (z : ClassId) (o : Nat → Int64) (sz : Nat)  : Met l yL_drop wsL_drop ({ frames := 9, cells := 1, slots := 6, locals := 150 }) (cP D (tX k ++ tO z) (wX a k n K V kd SK SV ++ wO q z o) [.ref (a 0), .int slot, .ref q] sz) (cQi D (tX k ++ tO z) (fun r => r = cdD slot) (wX a k n K V (kdD slot kd) SK SV ++ wO q z (oS (cdD slot) (if kd (ix slot) = -1 then 0 else 1) o)) (va_A (wX a k n K V kd SK SV ++ wO q z o) sz)) 1 6 (va_A (wX a k n K V kd SK SV ++ wO q z o) sz) := by
  refine mk_h (cc := cL_drop) (maxL := 4) (ret := (some .int)) (hh := [(0, 16, 19, 13)]) (fun A => cQi D (tX k ++ tO z) (fun r => r = cdD slot) (wX a k n K V (kdD slot kd) SK SV ++ wO q z (oS (cdD slot) (if kd (ix slot) = -1 then 0 else 1) o)) A) (by decide) rfl (Nat.le_of_ble_eq_true rfl) ?_
  intro p e s m below meth c ls A hx hb hr hml ht9 hlocks hnm hown hts hP hK hD hZ hA hS hl
  have hown : s.vm.findClass RL = some m.cls := hown
  have hl : lv_has ls 4 [(0, .ref (a 0)), (1, .int slot), (2, .ref q)] := hl
  refine lv_aload_n hx hb dL_drop_0 rfl (lv_at hl 2 rfl) ?_
  refine lv_iconst (v := 0) hx hb dL_drop_1 (by decide) ?_
  refine lv_aload_n hx hb dL_drop_2 rfl (lv_at hl 0 rfl) ?_
  refine lv_iload_n hx hb dL_drop_3 rfl (lv_at hl 1 rfl) ?_
  refine kx_i (wc := (wX a k n K V kd SK SV)) (wr := (wO q z o)) (w1 := (wX a k n K V (upd kd (ix slot) (-1)) SK SV)) (w2 := (wX a k n K V kd SK SV)) (vx_runV (As := [.int slot]) (rest := [.int 0, .ref q]) ⟨hx, hb, hml, hown, hts⟩ (c_drop l hl9 D a k n K V kd SK SV slot s.heap.size) (cwV 1 hts (gd_up (gd_V mb_85 mb_86 mb_87 mb_12 mb_88)) rfl rfl rfl (by decide +kernel) ⟨by decide, by decide⟩) ⟨cP_blind, va_recv (q0 := 0) (ci := 0) (q := (RX0, TX0, 6)) hK hP rfl rfl, cPre hP hD hK hS hA hZ [0, 1, 2, 3, 4, 5] rfl (by decide) [0, 1, 2, 3, 4] rfl⟩ rfl rfl hl.1 rfl (lv_room (Nat.le_of_ble_eq_true rfl)) dL_drop_4 ⟨by decide, by decide⟩) hP hD hS hA [0, 1, 2, 3, 4, 5] [6] rfl rfl (by decide) (by decide) (fun E ce q9 H locs hE hP hD hS hce hcv hcl => ?_) (fun r9 H locs hp hP hD hS => ?_)
  · skip
    have hP := hP.sub (ws' := wX a k n K V kd SK SV ++ wO q z o) [1, 2, 3, 4, 5, 6, 0] rfl
    have hD := hD.sub (ws' := wX a k n K V kd SK SV ++ wO q z o) [1, 2, 3, 4, 5, 6, 0] (by decide) rfl
    have hP : va_P D vwCl (wX a k n K V kd SK SV ++ wO q z o) H := hP
    have hD : va_D A (wX a k n K V kd SK SV ++ wO q z o) := hD
    obtain ⟨rfl, hc⟩ := hE
    refine vx_catch (own := RL) (name := "java/lang/IllegalArgumentException") (E := "java/lang/IllegalArgumentException") hown [] ⟨0, 16, 19, 13⟩ [] (by rw [ht9]; rfl) (fun z hz => nomatch hz) (by decide) (by decide) (hts (.classLink RL 13 "java/lang/IllegalArgumentException") (wm mb_74)) (va_Nw.use rfl (hZ.2.2.2.1 "java/lang/IllegalArgumentException" (by decide))) hce hcv hcl ?_
    refine lv_astore_n (lv' := [(3, .ref q9), (0, .ref (a 0)), (1, .int slot), (2, .ref q)]) hx hb dL_drop_19 rfl hl (by decide) rfl (fun ls hl => ?_)
    refine lv_iconst (v := 1) hx hb dL_drop_20 (by decide) ?_
    rw [oS_n (show ¬ cdD slot = 0 by rw [show cdD slot = 1 from if_neg hc]; decide), show kdD slot kd = kd from if_neg hc]
    exact fn_i hx hb hr hlocks (by decide) (by decide) (show (1 : Int32) = cdD slot from (if_neg hc).symm) hP hK hD hS dL_drop_21
  · skip
    have hP := hP.sub (ws' := wX a k n K V (upd kd (ix slot) (-1)) SK SV ++ wO q z o) [1, 2, 3, 4, 5, 6, 0] rfl
    have hD := hD.sub (ws' := wX a k n K V (upd kd (ix slot) (-1)) SK SV ++ wO q z o) [1, 2, 3, 4, 5, 6, 0] (by decide) rfl
    have hP : va_P D vwCl (wX a k n K V (upd kd (ix slot) (-1)) SK SV ++ wO q z o) H := hP
    have hD : va_D A (wX a k n K V (upd kd (ix slot) (-1)) SK SV ++ wO q z o) := hD
    obtain ⟨hc, hp⟩ := hp
    rw [oS_0 (show cdD slot = 0 from if_pos hc), show kdD slot kd = upd kd (ix slot) (-1) from if_pos hc]
    by_cases h4 : kd (ix slot) = -1
    · skip
      rw [if_pos h4] at hp ⊢
      subst hp
      refine lv_if_eq (tgt := 14) hx hb dL_drop_7 (by decide) (fun h5 => ?_) (fun h5 => ?_)
      · skip
        refine lv_lconst (v := 0) hx hb dL_drop_14 (by decide) ?_
        refine W.eq (g2 := F0 m 15 ls [.long 0, .int (nI 0), .ref q]) rfl ?_
        refine x_last (j := 0) hx hb hK hP hD hS 6 5 rfl rfl (by decide) (by decide) dL_drop_15 (fun H locs hP hD hS => ?_)
        have hP : va_P D vwCl (wX a k n K V (upd kd (ix slot) (-1)) SK SV ++ wO q z (vp_updL o 0 0)) H := hP
        have hD : va_D A (wX a k n K V (upd kd (ix slot) (-1)) SK SV ++ wO q z (vp_updL o 0 0)) := hD
        refine lv_goto (tgt := 22) hx hb dL_drop_16 (by decide) ?_
        refine lv_iconst (v := 0) hx hb dL_drop_22 (by decide) ?_
        exact fn_i hx hb hr hlocks (by decide) (by decide) (show (0 : Int32) = cdD slot from (if_pos hc).symm) hP hK hD hS dL_drop_23
      · skip
        first | exact absurd h5 (by decide) | exact (h5 rfl).elim
    · skip
      rw [if_neg h4] at hp ⊢
      subst hp
      refine lv_if_eq (tgt := 14) hx hb dL_drop_7 (by decide) (fun h5 => ?_) (fun h5 => ?_)
      · skip
        first | exact absurd h5 (by decide) | exact (h5 rfl).elim
      · skip
        refine lv_lconst (v := 1) hx hb dL_drop_10 (by decide) ?_
        refine lv_goto (tgt := 15) hx hb dL_drop_11 (by decide) ?_
        refine W.eq (g2 := F0 m 15 ls [.long 1, .int (nI 0), .ref q]) rfl ?_
        refine x_last (j := 0) hx hb hK hP hD hS 6 5 rfl rfl (by decide) (by decide) dL_drop_15 (fun H locs hP hD hS => ?_)
        have hP : va_P D vwCl (wX a k n K V (upd kd (ix slot) (-1)) SK SV ++ wO q z (vp_updL o 0 1)) H := hP
        have hD : va_D A (wX a k n K V (upd kd (ix slot) (-1)) SK SV ++ wO q z (vp_updL o 0 1)) := hD
        refine lv_goto (tgt := 22) hx hb dL_drop_16 (by decide) ?_
        refine lv_iconst (v := 0) hx hb dL_drop_22 (by decide) ?_
        exact fn_i hx hb hr hlocks (by decide) (by decide) (show (0 : Int32) = cdD slot from (if_pos hc).symm) hP hK hD hS dL_drop_23
set_option maxHeartbeats 1000000 in
set_option maxRecDepth 100000 in
theorem h_tidy (l : Launch) (hl9 : l.stackTraces = false) (D : va_G) (a : Nat → Nat) (k : Nat → ClassId) (n : Nat) (K V : Nat → Int64) (kd : Nat → Int32) (SK SV : Nat → Int64) (x : Int32) (sz : Nat)  : Met l yL_tidy wsL_tidy ({ frames := 9, cells := 1, slots := 6, locals := 150 }) (cP D (tX k) (wX a k n K V kd SK SV) [.ref (a 0), .int x] sz) (cQi D (tX k) (fun r => r = cdY x) (wX a k n K V kd SK SV) (va_A (wX a k n K V kd SK SV) sz)) 1 6 (va_A (wX a k n K V kd SK SV) sz) := by
  refine mk_h (cc := cL_tidy) (maxL := 3) (ret := (some .int)) (hh := [(0, 5, 8, 13)]) (fun A => cQi D (tX k) (fun r => r = cdY x) (wX a k n K V kd SK SV) A) (by decide) rfl (Nat.le_of_ble_eq_true rfl) ?_
  intro p e s m below meth c ls A hx hb hr hml ht9 hlocks hnm hown hts hP hK hD hZ hA hS hl
  have hown : s.vm.findClass RL = some m.cls := hown
  have hl : lv_has ls 3 [(0, .ref (a 0)), (1, .int x)] := hl
  refine lv_aload_n hx hb dL_tidy_0 rfl (lv_at hl 0 rfl) ?_
  refine lv_iload_n hx hb dL_tidy_1 rfl (lv_at hl 1 rfl) ?_
  refine kx_v (wc := (wX a k n K V kd SK SV)) (wr := []) (w1 := (wX a k n K V kd SK SV)) (w2 := (wX a k n K V kd SK SV)) (vx_runV (As := [.int x]) (rest := []) ⟨hx, hb, hml, hown, hts⟩ (c_tidy l hl9 D a k n K V kd SK SV x s.heap.size) (cwV 1 hts (gd_up (gd_V mb_89 mb_90 mb_91 mb_12 mb_92)) rfl rfl rfl (by decide +kernel) ⟨by decide, by decide⟩) ⟨cP_blind, va_recv (q0 := 0) (ci := 0) (q := (RX0, TX0, 6)) hK hP rfl rfl, cPre hP hD hK hS hA hZ [0, 1, 2, 3, 4, 5] rfl (by decide) [0, 1, 2, 3, 4] rfl⟩ rfl rfl hl.1 rfl (lv_room (Nat.le_of_ble_eq_true rfl)) dL_tidy_2 ⟨by decide, by decide⟩) hP hD hS hA [0, 1, 2, 3, 4, 5] [] rfl rfl (by decide) (by decide) (fun E ce q9 H locs hE hP hD hS hce hcv hcl => ?_) (fun H locs hp hP hD hS => ?_)
  · skip
    have hP : va_P D vwCl (wX a k n K V kd SK SV) H := hP
    have hD : va_D A (wX a k n K V kd SK SV) := hD
    obtain ⟨rfl, hc⟩ := hE
    refine vx_catch (own := RL) (name := "java/lang/IllegalArgumentException") (E := "java/lang/IllegalArgumentException") hown [] ⟨0, 5, 8, 13⟩ [] (by rw [ht9]; rfl) (fun z hz => nomatch hz) (by decide) (by decide) (hts (.classLink RL 13 "java/lang/IllegalArgumentException") (wm mb_74)) (va_Nw.use rfl (hZ.2.2.2.1 "java/lang/IllegalArgumentException" (by decide))) hce hcv hcl ?_
    refine lv_astore_n (lv' := [(2, .ref q9), (0, .ref (a 0)), (1, .int x)]) hx hb dL_tidy_8 rfl hl (by decide) rfl (fun ls hl => ?_)
    refine lv_iconst (v := 1) hx hb dL_tidy_9 (by decide) ?_
    exact fn_i hx hb hr hlocks (by decide) (by decide) (show (1 : Int32) = cdY x from (if_neg hc).symm) hP hK hD hS dL_tidy_10
  · skip
    have hP : va_P D vwCl (wX a k n K V kd SK SV) H := hP
    have hD : va_D A (wX a k n K V kd SK SV) := hD
    refine lv_goto (tgt := 11) hx hb dL_tidy_5 (by decide) ?_
    refine lv_iconst (v := 0) hx hb dL_tidy_11 (by decide) ?_
    exact fn_i hx hb hr hlocks (by decide) (by decide) (show (0 : Int32) = cdY x from (if_pos hp).symm) hP hK hD hS dL_tidy_12
set_option maxHeartbeats 1000000 in
set_option maxRecDepth 100000 in
theorem h_kind (l : Launch) (hl9 : l.stackTraces = false) (D : va_G) (a : Nat → Nat) (k : Nat → ClassId) (n : Nat) (K V : Nat → Int64) (kd : Nat → Int32) (SK SV : Nat → Int64) (slot : Int32) (q : Nat) (z : ClassId) (o : Nat → Int64) (sz : Nat)  : Met l yL_kind wsL_kind ({ frames := 9, cells := 1, slots := 6, locals := 150 }) (cP D (tX k ++ tO z) (wX a k n K V kd SK SV ++ wO q z o) [.ref (a 0), .int slot, .ref q] sz) (cQi D (tX k ++ tO z) (fun r => r = cdD slot) (wX a k n K V kd SK SV ++ wO q z (oS (cdD slot) (kd (ix slot)).toInt64 o)) (va_A (wX a k n K V kd SK SV ++ wO q z o) sz)) 1 6 (va_A (wX a k n K V kd SK SV ++ wO q z o) sz) := by
  refine mk_h (cc := cL_kind) (maxL := 4) (ret := (some .int)) (hh := [(0, 9, 12, 13)]) (fun A => cQi D (tX k ++ tO z) (fun r => r = cdD slot) (wX a k n K V kd SK SV ++ wO q z (oS (cdD slot) (kd (ix slot)).toInt64 o)) A) (by decide) rfl (Nat.le_of_ble_eq_true rfl) ?_
  intro p e s m below meth c ls A hx hb hr hml ht9 hlocks hnm hown hts hP hK hD hZ hA hS hl
  have hown : s.vm.findClass RL = some m.cls := hown
  have hl : lv_has ls 4 [(0, .ref (a 0)), (1, .int slot), (2, .ref q)] := hl
  refine lv_aload_n hx hb dL_kind_0 rfl (lv_at hl 2 rfl) ?_
  refine lv_iconst (v := 0) hx hb dL_kind_1 (by decide) ?_
  refine lv_aload_n hx hb dL_kind_2 rfl (lv_at hl 0 rfl) ?_
  refine lv_iload_n hx hb dL_kind_3 rfl (lv_at hl 1 rfl) ?_
  refine kx_i (wc := (wX a k n K V kd SK SV)) (wr := (wO q z o)) (w1 := (wX a k n K V kd SK SV)) (w2 := (wX a k n K V kd SK SV)) (vx_runV (As := [.int slot]) (rest := [.int 0, .ref q]) ⟨hx, hb, hml, hown, hts⟩ (c_kind l hl9 D a k n K V kd SK SV slot s.heap.size) (cwV 1 hts (gd_up (gd_V mb_93 mb_94 mb_95 mb_12 mb_96)) rfl rfl rfl (by decide +kernel) ⟨by decide, by decide⟩) ⟨cP_blind, va_recv (q0 := 0) (ci := 0) (q := (RX0, TX0, 6)) hK hP rfl rfl, cPre hP hD hK hS hA hZ [0, 1, 2, 3, 4, 5] rfl (by decide) [0, 1, 2, 3, 4] rfl⟩ rfl rfl hl.1 rfl (lv_room (Nat.le_of_ble_eq_true rfl)) dL_kind_4 ⟨by decide, by decide⟩) hP hD hS hA [0, 1, 2, 3, 4, 5] [6] rfl rfl (by decide) (by decide) (fun E ce q9 H locs hE hP hD hS hce hcv hcl => ?_) (fun r9 H locs hp hP hD hS => ?_)
  · skip
    have hP := hP.sub (ws' := wX a k n K V kd SK SV ++ wO q z o) [1, 2, 3, 4, 5, 6, 0] rfl
    have hD := hD.sub (ws' := wX a k n K V kd SK SV ++ wO q z o) [1, 2, 3, 4, 5, 6, 0] (by decide) rfl
    have hP : va_P D vwCl (wX a k n K V kd SK SV ++ wO q z o) H := hP
    have hD : va_D A (wX a k n K V kd SK SV ++ wO q z o) := hD
    obtain ⟨rfl, hc⟩ := hE
    refine vx_catch (own := RL) (name := "java/lang/IllegalArgumentException") (E := "java/lang/IllegalArgumentException") hown [] ⟨0, 9, 12, 13⟩ [] (by rw [ht9]; rfl) (fun z hz => nomatch hz) (by decide) (by decide) (hts (.classLink RL 13 "java/lang/IllegalArgumentException") (wm mb_74)) (va_Nw.use rfl (hZ.2.2.2.1 "java/lang/IllegalArgumentException" (by decide))) hce hcv hcl ?_
    refine lv_astore_n (lv' := [(3, .ref q9), (0, .ref (a 0)), (1, .int slot), (2, .ref q)]) hx hb dL_kind_12 rfl hl (by decide) rfl (fun ls hl => ?_)
    refine lv_iconst (v := 1) hx hb dL_kind_13 (by decide) ?_
    rw [oS_n (show ¬ cdD slot = 0 by rw [show cdD slot = 1 from if_neg hc]; decide)]
    exact fn_i hx hb hr hlocks (by decide) (by decide) (show (1 : Int32) = cdD slot from (if_neg hc).symm) hP hK hD hS dL_kind_14
  · skip
    have hP := hP.sub (ws' := wX a k n K V kd SK SV ++ wO q z o) [1, 2, 3, 4, 5, 6, 0] rfl
    have hD := hD.sub (ws' := wX a k n K V kd SK SV ++ wO q z o) [1, 2, 3, 4, 5, 6, 0] (by decide) rfl
    have hP : va_P D vwCl (wX a k n K V kd SK SV ++ wO q z o) H := hP
    have hD : va_D A (wX a k n K V kd SK SV ++ wO q z o) := hD
    obtain ⟨hc, rfl⟩ := hp
    rw [oS_0 (show cdD slot = 0 from if_pos hc)]
    refine lv_i2l (v := (kd (ix slot)).toInt64) hx hb dL_kind_7 rfl ?_
    refine W.eq (g2 := F0 m 8 ls [.long ((kd (ix slot)).toInt64), .int (nI 0), .ref q]) rfl ?_
    refine x_last (j := 0) hx hb hK hP hD hS 6 5 rfl rfl (by decide) (by decide) dL_kind_8 (fun H locs hP hD hS => ?_)
    have hP : va_P D vwCl (wX a k n K V kd SK SV ++ wO q z (vp_updL o 0 ((kd (ix slot)).toInt64))) H := hP
    have hD : va_D A (wX a k n K V kd SK SV ++ wO q z (vp_updL o 0 ((kd (ix slot)).toInt64))) := hD
    refine lv_goto (tgt := 15) hx hb dL_kind_9 (by decide) ?_
    refine lv_iconst (v := 0) hx hb dL_kind_15 (by decide) ?_
    exact fn_i hx hb hr hlocks (by decide) (by decide) (show (0 : Int32) = cdD slot from (if_pos hc).symm) hP hK hD hS dL_kind_16
set_option maxHeartbeats 1000000 in
set_option maxRecDepth 100000 in
theorem h_key (l : Launch) (hl9 : l.stackTraces = false) (D : va_G) (a : Nat → Nat) (k : Nat → ClassId) (n : Nat) (K V : Nat → Int64) (kd : Nat → Int32) (SK SV : Nat → Int64) (x : Int32) (q : Nat) (z : ClassId) (o : Nat → Int64) (sz : Nat) (hn : n ≤ 100) : Met l yL_key wsL_key ({ frames := 9, cells := 1, slots := 6, locals := 150 }) (cP D (tX k ++ tO z) (wX a k n K V kd SK SV ++ wO q z o) [.ref (a 0), .int x, .ref q] sz) (cQi D (tX k ++ tO z) (fun r => r = cdP x n) (wX a k n K V kd SK SV ++ wO q z (oS (cdP x n) (K (ix x)) o)) (va_A (wX a k n K V kd SK SV ++ wO q z o) sz)) 1 6 (va_A (wX a k n K V kd SK SV ++ wO q z o) sz) := by
  refine mk_h (cc := cL_key) (maxL := 4) (ret := (some .int)) (hh := [(0, 8, 11, 42)]) (fun A => cQi D (tX k ++ tO z) (fun r => r = cdP x n) (wX a k n K V kd SK SV ++ wO q z (oS (cdP x n) (K (ix x)) o)) A) (by decide) rfl (Nat.le_of_ble_eq_true rfl) ?_
  intro p e s m below meth c ls A hx hb hr hml ht9 hlocks hnm hown hts hP hK hD hZ hA hS hl
  have hown : s.vm.findClass RL = some m.cls := hown
  have hl : lv_has ls 4 [(0, .ref (a 0)), (1, .int x), (2, .ref q)] := hl
  refine lv_aload_n hx hb dL_key_0 rfl (lv_at hl 2 rfl) ?_
  refine lv_iconst (v := 0) hx hb dL_key_1 (by decide) ?_
  refine lv_aload_n hx hb dL_key_2 rfl (lv_at hl 0 rfl) ?_
  refine lv_iload_n hx hb dL_key_3 rfl (lv_at hl 1 rfl) ?_
  refine kx_l (wc := (wX a k n K V kd SK SV)) (wr := (wO q z o)) (w1 := (wX a k n K V kd SK SV)) (w2 := (wX a k n K V kd SK SV)) (vx_runV (As := [.int x]) (rest := [.int 0, .ref q]) ⟨hx, hb, hml, hown, hts⟩ (c_key l hl9 D a k n K V kd SK SV x s.heap.size hn) (cwV 1 hts (gd_up (gd_V mb_97 mb_98 mb_99 mb_12 mb_100)) rfl rfl rfl (by decide +kernel) ⟨by decide, by decide⟩) ⟨cP_blind, va_recv (q0 := 0) (ci := 0) (q := (RX0, TX0, 6)) hK hP rfl rfl, cPre hP hD hK hS hA hZ [0, 1, 2, 3, 4, 5] rfl (by decide) [0, 1, 2, 3, 4] rfl⟩ rfl rfl hl.1 rfl (lv_room (Nat.le_of_ble_eq_true rfl)) dL_key_4 ⟨by decide, by decide⟩) hP hD hS hA [0, 1, 2, 3, 4, 5] [6] rfl rfl (by decide) (by decide) (fun E ce q9 H locs hE hP hD hS hce hcv hcl => ?_) (fun r9 H locs hp hP hD hS => ?_)
  · skip
    have hP := hP.sub (ws' := wX a k n K V kd SK SV ++ wO q z o) [1, 2, 3, 4, 5, 6, 0] rfl
    have hD := hD.sub (ws' := wX a k n K V kd SK SV ++ wO q z o) [1, 2, 3, 4, 5, 6, 0] (by decide) rfl
    have hP : va_P D vwCl (wX a k n K V kd SK SV ++ wO q z o) H := hP
    have hD : va_D A (wX a k n K V kd SK SV ++ wO q z o) := hD
    obtain ⟨rfl, hc⟩ := hE
    refine vx_catch (own := RL) (name := "java/lang/IndexOutOfBoundsException") (E := "java/lang/IndexOutOfBoundsException") hown [] ⟨0, 8, 11, 42⟩ [] (by rw [ht9]; rfl) (fun z hz => nomatch hz) (by decide) (by decide) (hts (.classLink RL 42 "java/lang/IndexOutOfBoundsException") (wm mb_101)) (va_Nw.use rfl (hZ.2.2.2.1 "java/lang/IndexOutOfBoundsException" (by decide))) hce hcv hcl ?_
    refine lv_astore_n (lv' := [(3, .ref q9), (0, .ref (a 0)), (1, .int x), (2, .ref q)]) hx hb dL_key_11 rfl hl (by decide) rfl (fun ls hl => ?_)
    refine lv_iconst (v := 1) hx hb dL_key_12 (by decide) ?_
    rw [oS_n (show ¬ cdP x n = 0 by rw [show cdP x n = 1 from if_neg hc]; decide)]
    exact fn_i hx hb hr hlocks (by decide) (by decide) (show (1 : Int32) = cdP x n from (if_neg hc).symm) hP hK hD hS dL_key_13
  · skip
    have hP := hP.sub (ws' := wX a k n K V kd SK SV ++ wO q z o) [1, 2, 3, 4, 5, 6, 0] rfl
    have hD := hD.sub (ws' := wX a k n K V kd SK SV ++ wO q z o) [1, 2, 3, 4, 5, 6, 0] (by decide) rfl
    have hP : va_P D vwCl (wX a k n K V kd SK SV ++ wO q z o) H := hP
    have hD : va_D A (wX a k n K V kd SK SV ++ wO q z o) := hD
    obtain ⟨hc, rfl⟩ := hp
    rw [oS_0 (show cdP x n = 0 from if_pos hc)]
    refine W.eq (g2 := F0 m 7 ls [.long (K (ix x)), .int (nI 0), .ref q]) rfl ?_
    refine x_last (j := 0) hx hb hK hP hD hS 6 5 rfl rfl (by decide) (by decide) dL_key_7 (fun H locs hP hD hS => ?_)
    have hP : va_P D vwCl (wX a k n K V kd SK SV ++ wO q z (vp_updL o 0 (K (ix x)))) H := hP
    have hD : va_D A (wX a k n K V kd SK SV ++ wO q z (vp_updL o 0 (K (ix x)))) := hD
    refine lv_goto (tgt := 14) hx hb dL_key_8 (by decide) ?_
    refine lv_iconst (v := 0) hx hb dL_key_14 (by decide) ?_
    exact fn_i hx hb hr hlocks (by decide) (by decide) (show (0 : Int32) = cdP x n from (if_pos hc).symm) hP hK hD hS dL_key_15
set_option maxHeartbeats 1000000 in
set_option maxRecDepth 100000 in
theorem h_value (l : Launch) (hl9 : l.stackTraces = false) (D : va_G) (a : Nat → Nat) (k : Nat → ClassId) (n : Nat) (K V : Nat → Int64) (kd : Nat → Int32) (SK SV : Nat → Int64) (x : Int32) (q : Nat) (z : ClassId) (o : Nat → Int64) (sz : Nat) (hn : n ≤ 100) : Met l yL_value wsL_value ({ frames := 9, cells := 1, slots := 6, locals := 150 }) (cP D (tX k ++ tO z) (wX a k n K V kd SK SV ++ wO q z o) [.ref (a 0), .int x, .ref q] sz) (cQi D (tX k ++ tO z) (fun r => r = cdP x n) (wX a k n K V kd SK SV ++ wO q z (oS (cdP x n) (V (ix x)) o)) (va_A (wX a k n K V kd SK SV ++ wO q z o) sz)) 1 6 (va_A (wX a k n K V kd SK SV ++ wO q z o) sz) := by
  refine mk_h (cc := cL_value) (maxL := 4) (ret := (some .int)) (hh := [(0, 8, 11, 42)]) (fun A => cQi D (tX k ++ tO z) (fun r => r = cdP x n) (wX a k n K V kd SK SV ++ wO q z (oS (cdP x n) (V (ix x)) o)) A) (by decide) rfl (Nat.le_of_ble_eq_true rfl) ?_
  intro p e s m below meth c ls A hx hb hr hml ht9 hlocks hnm hown hts hP hK hD hZ hA hS hl
  have hown : s.vm.findClass RL = some m.cls := hown
  have hl : lv_has ls 4 [(0, .ref (a 0)), (1, .int x), (2, .ref q)] := hl
  refine lv_aload_n hx hb dL_value_0 rfl (lv_at hl 2 rfl) ?_
  refine lv_iconst (v := 0) hx hb dL_value_1 (by decide) ?_
  refine lv_aload_n hx hb dL_value_2 rfl (lv_at hl 0 rfl) ?_
  refine lv_iload_n hx hb dL_value_3 rfl (lv_at hl 1 rfl) ?_
  refine kx_l (wc := (wX a k n K V kd SK SV)) (wr := (wO q z o)) (w1 := (wX a k n K V kd SK SV)) (w2 := (wX a k n K V kd SK SV)) (vx_runV (As := [.int x]) (rest := [.int 0, .ref q]) ⟨hx, hb, hml, hown, hts⟩ (c_value l hl9 D a k n K V kd SK SV x s.heap.size hn) (cwV 1 hts (gd_up (gd_V mb_102 mb_103 mb_104 mb_12 mb_105)) rfl rfl rfl (by decide +kernel) ⟨by decide, by decide⟩) ⟨cP_blind, va_recv (q0 := 0) (ci := 0) (q := (RX0, TX0, 6)) hK hP rfl rfl, cPre hP hD hK hS hA hZ [0, 1, 2, 3, 4, 5] rfl (by decide) [0, 1, 2, 3, 4] rfl⟩ rfl rfl hl.1 rfl (lv_room (Nat.le_of_ble_eq_true rfl)) dL_value_4 ⟨by decide, by decide⟩) hP hD hS hA [0, 1, 2, 3, 4, 5] [6] rfl rfl (by decide) (by decide) (fun E ce q9 H locs hE hP hD hS hce hcv hcl => ?_) (fun r9 H locs hp hP hD hS => ?_)
  · skip
    have hP := hP.sub (ws' := wX a k n K V kd SK SV ++ wO q z o) [1, 2, 3, 4, 5, 6, 0] rfl
    have hD := hD.sub (ws' := wX a k n K V kd SK SV ++ wO q z o) [1, 2, 3, 4, 5, 6, 0] (by decide) rfl
    have hP : va_P D vwCl (wX a k n K V kd SK SV ++ wO q z o) H := hP
    have hD : va_D A (wX a k n K V kd SK SV ++ wO q z o) := hD
    obtain ⟨rfl, hc⟩ := hE
    refine vx_catch (own := RL) (name := "java/lang/IndexOutOfBoundsException") (E := "java/lang/IndexOutOfBoundsException") hown [] ⟨0, 8, 11, 42⟩ [] (by rw [ht9]; rfl) (fun z hz => nomatch hz) (by decide) (by decide) (hts (.classLink RL 42 "java/lang/IndexOutOfBoundsException") (wm mb_101)) (va_Nw.use rfl (hZ.2.2.2.1 "java/lang/IndexOutOfBoundsException" (by decide))) hce hcv hcl ?_
    refine lv_astore_n (lv' := [(3, .ref q9), (0, .ref (a 0)), (1, .int x), (2, .ref q)]) hx hb dL_value_11 rfl hl (by decide) rfl (fun ls hl => ?_)
    refine lv_iconst (v := 1) hx hb dL_value_12 (by decide) ?_
    rw [oS_n (show ¬ cdP x n = 0 by rw [show cdP x n = 1 from if_neg hc]; decide)]
    exact fn_i hx hb hr hlocks (by decide) (by decide) (show (1 : Int32) = cdP x n from (if_neg hc).symm) hP hK hD hS dL_value_13
  · skip
    have hP := hP.sub (ws' := wX a k n K V kd SK SV ++ wO q z o) [1, 2, 3, 4, 5, 6, 0] rfl
    have hD := hD.sub (ws' := wX a k n K V kd SK SV ++ wO q z o) [1, 2, 3, 4, 5, 6, 0] (by decide) rfl
    have hP : va_P D vwCl (wX a k n K V kd SK SV ++ wO q z o) H := hP
    have hD : va_D A (wX a k n K V kd SK SV ++ wO q z o) := hD
    obtain ⟨hc, rfl⟩ := hp
    rw [oS_0 (show cdP x n = 0 from if_pos hc)]
    refine W.eq (g2 := F0 m 7 ls [.long (V (ix x)), .int (nI 0), .ref q]) rfl ?_
    refine x_last (j := 0) hx hb hK hP hD hS 6 5 rfl rfl (by decide) (by decide) dL_value_7 (fun H locs hP hD hS => ?_)
    have hP : va_P D vwCl (wX a k n K V kd SK SV ++ wO q z (vp_updL o 0 (V (ix x)))) H := hP
    have hD : va_D A (wX a k n K V kd SK SV ++ wO q z (vp_updL o 0 (V (ix x)))) := hD
    refine lv_goto (tgt := 14) hx hb dL_value_8 (by decide) ?_
    refine lv_iconst (v := 0) hx hb dL_value_14 (by decide) ?_
    exact fn_i hx hb hr hlocks (by decide) (by decide) (show (0 : Int32) = cdP x n from (if_pos hc).symm) hP hK hD hS dL_value_15
