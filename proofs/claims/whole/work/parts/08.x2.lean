set_option maxHeartbeats 1000000 in
set_option maxRecDepth 100000 in
theorem c_begin (l : Launch) (hl9 : l.stackTraces = false) (D : va_G) (a : Nat → Nat) (k : Nat → ClassId) (n : Nat) (K V : Nat → Int64) (kd : Nat → Int32) (SK SV : Nat → Int64) (slot kind : Int32) (key value : Int64) (sz : Nat)  : vx_Met l yX0_begin wsX0_begin ({ frames := 7, cells := 1, slots := 6, locals := 102 }) (cP D (tX k) (wX a k n K V kd SK SV) [.ref (a 0), .int slot, .int kind, .long key, .long value] sz) (cQv D (tX k) (cdB slot kind kd = 0) (wX a k n K V (upd kd (ix slot) kind) (vp_updL SK (ix slot) key) (vp_updL SV (ix slot) value)) (va_A (wX a k n K V kd SK SV) sz)) (cX D (tX k) (tcE (cdB slot kind kd)) (wX a k n K V kd SK SV) (va_A (wX a k n K V kd SK SV) sz)) 1 6 (va_A (wX a k n K V kd SK SV) sz) := by
  refine mk_x (cc := cX0_begin) (maxL := 7) (ret := none) (fun A => cQv D (tX k) (cdB slot kind kd = 0) (wX a k n K V (upd kd (ix slot) kind) (vp_updL SK (ix slot) key) (vp_updL SV (ix slot) value)) A) (fun A => cX D (tX k) (tcE (cdB slot kind kd)) (wX a k n K V kd SK SV) A) (by decide) rfl (Nat.le_of_ble_eq_true rfl) ?_
  intro p e s m below meth c ls A hx hb hr hml ht9 hlocks hnm hown hts hP hK hD hZ hA hS hl
  have hown : s.vm.findClass RX0 = some m.cls := hown
  have hl : lv_has ls 7 [(0, .ref (a 0)), (1, .int slot), (2, .int kind), (3, .long key), (5, .long value)] := hl
  refine lv_iload_n hx hb dX0_begin_0 rfl (lv_at hl 1 rfl) ?_
  by_cases hs : okS slot
  · skip
    refine kn_v (wc := []) (wr := (wX a k n K V kd SK SV)) (w1 := []) (va_runS (As := [.int slot]) (rest := []) ⟨hx, hb, hml, hown, hts⟩ (c_requireSlot l hl9 D slot s.heap.size hs) (va_cwS 1 hts (gd_up (gd_S mb_10 mb_11 mb_12 mb_13)) rfl rfl rfl (by decide +kernel) ⟨by decide, by decide⟩) ⟨cP_blind, cPre hP hD hK hS hA hZ [] rfl (by decide) [] rfl⟩ rfl rfl hl.1 rfl (lv_room (Nat.le_of_ble_eq_true rfl)) dX0_begin_1 ⟨by decide, by decide⟩) hP hD hS hA [] [0, 1, 2, 3, 4, 5] rfl rfl (by decide) (by decide) (fun H locs hp hP hD hS => ?_)
    have hP : va_P D vwCl (wX a k n K V kd SK SV) H := hP
    have hD : va_D A (wX a k n K V kd SK SV) := hD
    obtain ⟨j, hj, rfl⟩ := okS_of hs
    rw [ix_n hj]
    refine lv_iload_n hx hb dX0_begin_4 rfl (lv_at hl 2 rfl) ?_
    refine lv_if_lt (tgt := 13) hx hb dX0_begin_5 (by decide) (fun h1 => ?_) (fun h1 => ?_)
    · skip
      exact fx_throw (cls := "java/lang/IllegalArgumentException") (text := "no such kind") (ic := 38) hx hb hl9 hown (by decide +kernel) (hts (.classLink RX0 34 "java/lang/IllegalArgumentException") (wm mb_0)) (hts (.initialized "java/lang/IllegalArgumentException") (wm mb_1)) (by decide) (hat_38 hts hZ.2.2) hgd_38 hZ hS (hl.1.trans hml.symm) dX0_begin_13 dX0_begin_16 dX0_begin_17 dX0_begin_19 dX0_begin_22 ht9 (by decide) (by decide) (by decide) (by decide) hlocks (by decide) (by decide) (tcE_1 (cdB_1 (fun q => q.2.1 h1))) hP hK hD
    · skip
      refine lv_iload_n hx hb dX0_begin_8 rfl (lv_at hl 2 rfl) ?_
      refine lv_iconst (v := 3) hx hb dX0_begin_9 (by decide) ?_
      refine lv_icmp_le (tgt := 23) hx hb dX0_begin_10 (by decide) (fun h2 => ?_) (fun h2 => ?_)
      · skip
        refine lv_aload_n hx hb dX0_begin_23 rfl (lv_at hl 0 rfl) ?_
        refine va_get (D := D) (ci := 0) (v := .ref (a 3)) (C := RX0) (T := TX0) (N := 6) hx hb hts (fun w h => wm (ui_X0 w h)) hown hK hP 0 rfl rfl 3 (by decide) (hts (.fieldLink RX0 20 "LinkedIndex" "slotKinds" "[I") (wm mb_5)) (fun _ h9 => h9) rfl dX0_begin_24 ?_
        refine lv_iload_n hx hb dX0_begin_27 rfl (lv_at hl 1 rfl) ?_
        refine x_iald (j := j) hx hb hK hP 3 2 rfl rfl hj (by decide) dX0_begin_28 ?_
        refine lv_iconst (v := (-1)) hx hb dX0_begin_29 (by decide) ?_
        refine lv_icmp_eq (tgt := 43) hx hb dX0_begin_30 (by decide) (fun h3 => ?_) (fun h3 => ?_)
        · skip
          refine lv_aload_n hx hb dX0_begin_43 rfl (lv_at hl 0 rfl) ?_
          refine va_get (D := D) (ci := 0) (v := .ref (a 3)) (C := RX0) (T := TX0) (N := 6) hx hb hts (fun w h => wm (ui_X0 w h)) hown hK hP 0 rfl rfl 3 (by decide) (hts (.fieldLink RX0 20 "LinkedIndex" "slotKinds" "[I") (wm mb_5)) (fun _ h9 => h9) rfl dX0_begin_44 ?_
          refine lv_iload_n hx hb dX0_begin_47 rfl (lv_at hl 1 rfl) ?_
          refine lv_iload_n hx hb dX0_begin_48 rfl (lv_at hl 2 rfl) ?_
          refine x_iast (j := j) hx hb hK hP hD hS 3 2 rfl rfl hj (by decide) dX0_begin_49 (fun H locs hP hD hS => ?_)
          have hP : va_P D vwCl (wX a k n K V (upd kd j kind) SK SV) H := hP
          have hD : va_D A (wX a k n K V (upd kd j kind) SK SV) := hD
          refine lv_aload_n hx hb dX0_begin_50 rfl (lv_at hl 0 rfl) ?_
          refine va_get (D := D) (ci := 0) (v := .ref (a 4)) (C := RX0) (T := TX0) (N := 6) hx hb hts (fun w h => wm (ui_X0 w h)) hown hK hP 0 rfl rfl 4 (by decide) (hts (.fieldLink RX0 24 "LinkedIndex" "slotKeys" "[J") (wm mb_14)) (fun _ h9 => h9) rfl dX0_begin_51 ?_
          refine lv_iload_n hx hb dX0_begin_54 rfl (lv_at hl 1 rfl) ?_
          refine lv_lload_n hx hb dX0_begin_55 rfl (lv_at hl 3 rfl) ?_
          refine x_last (j := j) hx hb hK hP hD hS 4 3 rfl rfl hj (by decide) dX0_begin_56 (fun H locs hP hD hS => ?_)
          have hP : va_P D vwCl (wX a k n K V (upd kd j kind) (vp_updL SK j key) SV) H := hP
          have hD : va_D A (wX a k n K V (upd kd j kind) (vp_updL SK j key) SV) := hD
          refine lv_aload_n hx hb dX0_begin_57 rfl (lv_at hl 0 rfl) ?_
          refine va_get (D := D) (ci := 0) (v := .ref (a 5)) (C := RX0) (T := TX0) (N := 6) hx hb hts (fun w h => wm (ui_X0 w h)) hown hK hP 0 rfl rfl 5 (by decide) (hts (.fieldLink RX0 27 "LinkedIndex" "slotValues" "[J") (wm mb_15)) (fun _ h9 => h9) rfl dX0_begin_58 ?_
          refine lv_iload_n hx hb dX0_begin_61 rfl (lv_at hl 1 rfl) ?_
          refine lv_lload hx hb dX0_begin_62 (lv_at hl 4 rfl) ?_
          refine x_last (j := j) hx hb hK hP hD hS 5 4 rfl rfl hj (by decide) dX0_begin_64 (fun H locs hP hD hS => ?_)
          have hP : va_P D vwCl (wX a k n K V (upd kd j kind) (vp_updL SK j key) (vp_updL SV j value)) H := hP
          have hD : va_D A (wX a k n K V (upd kd j kind) (vp_updL SK j key) (vp_updL SV j value)) := hD
          exact fx_v hx hb hr hlocks (by decide) (by decide) (cdB_0 ⟨okS_n hj, h1, h2⟩ (by rw [ix_n hj]; exact h3)) hP hK hD hS dX0_begin_65
        · skip
          exact fx_throw (cls := "java/lang/IllegalStateException") (text := "the slot is not empty") (ic := 45) hx hb hl9 hown (by decide +kernel) (hts (.classLink RX0 41 "java/lang/IllegalStateException") (wm mb_6)) (hts (.initialized "java/lang/IllegalStateException") (wm mb_7)) (by decide) (hat_45 hts hZ.2.2) hgd_45 hZ hS (hl.1.trans hml.symm) dX0_begin_33 dX0_begin_36 dX0_begin_37 dX0_begin_39 dX0_begin_42 ht9 (by decide) (by decide) (by decide) (by decide) hlocks (by decide) (by decide) (tcE_2 (cdB_2 ⟨okS_n hj, h1, h2⟩ (by rw [ix_n hj]; exact h3))) hP hK hD
      · skip
        exact fx_throw (cls := "java/lang/IllegalArgumentException") (text := "no such kind") (ic := 38) hx hb hl9 hown (by decide +kernel) (hts (.classLink RX0 34 "java/lang/IllegalArgumentException") (wm mb_0)) (hts (.initialized "java/lang/IllegalArgumentException") (wm mb_1)) (by decide) (hat_38 hts hZ.2.2) hgd_38 hZ hS (hl.1.trans hml.symm) dX0_begin_13 dX0_begin_16 dX0_begin_17 dX0_begin_19 dX0_begin_22 ht9 (by decide) (by decide) (by decide) (by decide) hlocks (by decide) (by decide) (tcE_1 (cdB_1 (fun q => h2 q.2.2))) hP hK hD
  · skip
    refine kx_v (wc := []) (wr := (wX a k n K V kd SK SV)) (w1 := []) (w2 := []) (vx_runS (As := [.int slot]) (rest := []) ⟨hx, hb, hml, hown, hts⟩ (t_requireSlot l hl9 D slot s.heap.size hs) (va_cwS 1 hts (gd_up (gd_S mb_10 mb_11 mb_12 mb_13)) rfl rfl rfl (by decide +kernel) ⟨by decide, by decide⟩) ⟨cP_blind, cPre hP hD hK hS hA hZ [] rfl (by decide) [] rfl⟩ rfl rfl hl.1 rfl (lv_room (Nat.le_of_ble_eq_true rfl)) dX0_begin_1 ⟨by decide, by decide⟩) hP hD hS hA [] [0, 1, 2, 3, 4, 5] rfl rfl (by decide) (by decide) (fun E ce q9 H locs hE hP hD hS hce hcv hcl => ?_) (fun H locs hp hP hD hS => ?_)
    · skip
      have hP : va_P D vwCl (wX a k n K V kd SK SV) H := hP
      have hD : va_D A (wX a k n K V kd SK SV) := hD
      subst hE
      exact fx_out ht9 hlocks hce hcv hcl hS (by decide) (by decide) (tcE_1 (cdB_1 (fun q => hs q.1))) hP hK hD
    · skip
      have hP : va_P D vwCl (wX a k n K V kd SK SV) H := hP
      have hD : va_D A (wX a k n K V kd SK SV) := hD
      exact hp.elim
set_option maxHeartbeats 1000000 in
set_option maxRecDepth 100000 in
theorem c_step (l : Launch) (hl9 : l.stackTraces = false) (D : va_G) (a : Nat → Nat) (k : Nat → ClassId) (n : Nat) (K V : Nat → Int64) (kd : Nat → Int32) (SK SV : Nat → Int64) (slot x : Int32) (sz : Nat)  : vx_Met l yX0_step wsX0_step ({ frames := 7, cells := 1, slots := 6, locals := 103 }) (cP D (tX k) (wX a k n K V kd SK SV) [.ref (a 0), .int slot, .int x] sz) (cQv D (tX k) (cdT slot x kd = 0) (wX a k n K V kd SK SV) (va_A (wX a k n K V kd SK SV) sz)) (cX D (tX k) (tcE (cdT slot x kd)) (wX a k n K V kd SK SV) (va_A (wX a k n K V kd SK SV) sz)) 1 6 (va_A (wX a k n K V kd SK SV) sz) := by
  refine mk_x (cc := cX0_step) (maxL := 3) (ret := none) (fun A => cQv D (tX k) (cdT slot x kd = 0) (wX a k n K V kd SK SV) A) (fun A => cX D (tX k) (tcE (cdT slot x kd)) (wX a k n K V kd SK SV) A) (by decide) rfl (Nat.le_of_ble_eq_true rfl) ?_
  intro p e s m below meth c ls A hx hb hr hml ht9 hlocks hnm hown hts hP hK hD hZ hA hS hl
  have hown : s.vm.findClass RX0 = some m.cls := hown
  have hl : lv_has ls 3 [(0, .ref (a 0)), (1, .int slot), (2, .int x)] := hl
  refine lv_iload_n hx hb dX0_step_0 rfl (lv_at hl 1 rfl) ?_
  by_cases hs : okS slot
  · skip
    refine kn_v (wc := []) (wr := (wX a k n K V kd SK SV)) (w1 := []) (va_runS (As := [.int slot]) (rest := []) ⟨hx, hb, hml, hown, hts⟩ (c_requireSlot l hl9 D slot s.heap.size hs) (va_cwS 1 hts (gd_up (gd_S mb_10 mb_11 mb_12 mb_13)) rfl rfl rfl (by decide +kernel) ⟨by decide, by decide⟩) ⟨cP_blind, cPre hP hD hK hS hA hZ [] rfl (by decide) [] rfl⟩ rfl rfl hl.1 rfl (lv_room (Nat.le_of_ble_eq_true rfl)) dX0_step_1 ⟨by decide, by decide⟩) hP hD hS hA [] [0, 1, 2, 3, 4, 5] rfl rfl (by decide) (by decide) (fun H locs hp hP hD hS => ?_)
    have hP : va_P D vwCl (wX a k n K V kd SK SV) H := hP
    have hD : va_D A (wX a k n K V kd SK SV) := hD
    obtain ⟨j, hj, rfl⟩ := okS_of hs
    refine lv_iload_n hx hb dX0_step_4 rfl (lv_at hl 2 rfl) ?_
    by_cases hs2 : okN x
    · skip
      refine kn_v (wc := []) (wr := (wX a k n K V kd SK SV)) (w1 := []) (va_runS (As := [.int x]) (rest := []) ⟨hx, hb, hml, hown, hts⟩ (c_requireSteps l hl9 D x H.size hs2) (va_cwS 1 hts (gd_up (gd_S mb_16 mb_17 mb_12 mb_18)) rfl rfl rfl (by decide +kernel) ⟨by decide, by decide⟩) ⟨cP_blind, cPre hP hD hK hS hA hZ [] rfl (by decide) [] rfl⟩ rfl rfl hl.1 rfl (lv_room (Nat.le_of_ble_eq_true rfl)) dX0_step_5 ⟨by decide, by decide⟩) hP hD hS hA [] [0, 1, 2, 3, 4, 5] rfl rfl (by decide) (by decide) (fun H locs hp hP hD hS => ?_)
      have hP : va_P D vwCl (wX a k n K V kd SK SV) H := hP
      have hD : va_D A (wX a k n K V kd SK SV) := hD
      refine lv_aload_n hx hb dX0_step_8 rfl (lv_at hl 0 rfl) ?_
      refine lv_iload_n hx hb dX0_step_9 rfl (lv_at hl 1 rfl) ?_
      by_cases hs3 : kd j = -1
      · skip
        refine kx_v (wc := (wX a k n K V kd SK SV)) (wr := []) (w1 := (wX a k n K V kd SK SV)) (w2 := (wX a k n K V kd SK SV)) (vx_runV (As := [.int (nI j)]) (rest := []) ⟨hx, hb, hml, hown, hts⟩ (t_requireOperation l hl9 D a k n K V kd SK SV j H.size hj hs3) (cwV 1 hts (gd_up (gd_V mb_19 mb_20 mb_21 mb_12 mb_22)) rfl rfl rfl (by decide +kernel) ⟨by decide, by decide⟩) ⟨cP_blind, va_recv (q0 := 0) (ci := 0) (q := (RX0, TX0, 6)) hK hP rfl rfl, cPre hP hD hK hS hA hZ [0, 1, 2, 3, 4, 5] rfl (by decide) [0, 1, 2, 3, 4] rfl⟩ rfl rfl hl.1 rfl (lv_room (Nat.le_of_ble_eq_true rfl)) dX0_step_10 ⟨by decide, by decide⟩) hP hD hS hA [0, 1, 2, 3, 4, 5] [] rfl rfl (by decide) (by decide) (fun E ce q9 H locs hE hP hD hS hce hcv hcl => ?_) (fun H locs hp hP hD hS => ?_)
        · skip
          have hP : va_P D vwCl (wX a k n K V kd SK SV) H := hP
          have hD : va_D A (wX a k n K V kd SK SV) := hD
          subst hE
          exact fx_out ht9 hlocks hce hcv hcl hS (by decide) (by decide) (tcE_2 (cdT_2 ⟨okS_n hj, hs2⟩ (by rw [ix_n hj]; exact hs3))) hP hK hD
        · skip
          have hP : va_P D vwCl (wX a k n K V kd SK SV) H := hP
          have hD : va_D A (wX a k n K V kd SK SV) := hD
          exact hp.elim
      · skip
        refine kn_v (wc := (wX a k n K V kd SK SV)) (wr := []) (w1 := (wX a k n K V kd SK SV)) (va_runV (As := [.int (nI j)]) (rest := []) ⟨hx, hb, hml, hown, hts⟩ (c_requireOperation l hl9 D a k n K V kd SK SV j H.size hj hs3) (cwV 1 hts (gd_up (gd_V mb_19 mb_20 mb_21 mb_12 mb_22)) rfl rfl rfl (by decide +kernel) ⟨by decide, by decide⟩) ⟨cP_blind, va_recv (q0 := 0) (ci := 0) (q := (RX0, TX0, 6)) hK hP rfl rfl, cPre hP hD hK hS hA hZ [0, 1, 2, 3, 4, 5] rfl (by decide) [0, 1, 2, 3, 4] rfl⟩ rfl rfl hl.1 rfl (lv_room (Nat.le_of_ble_eq_true rfl)) dX0_step_10 ⟨by decide, by decide⟩) hP hD hS hA [0, 1, 2, 3, 4, 5] [] rfl rfl (by decide) (by decide) (fun H locs hp hP hD hS => ?_)
        have hP : va_P D vwCl (wX a k n K V kd SK SV) H := hP
        have hD : va_D A (wX a k n K V kd SK SV) := hD
        exact fx_v hx hb hr hlocks (by decide) (by decide) (cdT_0 ⟨okS_n hj, hs2⟩ (by rw [ix_n hj]; exact hs3)) hP hK hD hS dX0_step_13
    · skip
      refine kx_v (wc := []) (wr := (wX a k n K V kd SK SV)) (w1 := []) (w2 := []) (vx_runS (As := [.int x]) (rest := []) ⟨hx, hb, hml, hown, hts⟩ (t_requireSteps l hl9 D x H.size hs2) (va_cwS 1 hts (gd_up (gd_S mb_16 mb_17 mb_12 mb_18)) rfl rfl rfl (by decide +kernel) ⟨by decide, by decide⟩) ⟨cP_blind, cPre hP hD hK hS hA hZ [] rfl (by decide) [] rfl⟩ rfl rfl hl.1 rfl (lv_room (Nat.le_of_ble_eq_true rfl)) dX0_step_5 ⟨by decide, by decide⟩) hP hD hS hA [] [0, 1, 2, 3, 4, 5] rfl rfl (by decide) (by decide) (fun E ce q9 H locs hE hP hD hS hce hcv hcl => ?_) (fun H locs hp hP hD hS => ?_)
      · skip
        have hP : va_P D vwCl (wX a k n K V kd SK SV) H := hP
        have hD : va_D A (wX a k n K V kd SK SV) := hD
        subst hE
        exact fx_out ht9 hlocks hce hcv hcl hS (by decide) (by decide) (tcE_1 (cdT_1 (fun q => hs2 q.2))) hP hK hD
      · skip
        have hP : va_P D vwCl (wX a k n K V kd SK SV) H := hP
        have hD : va_D A (wX a k n K V kd SK SV) := hD
        exact hp.elim
  · skip
    refine kx_v (wc := []) (wr := (wX a k n K V kd SK SV)) (w1 := []) (w2 := []) (vx_runS (As := [.int slot]) (rest := []) ⟨hx, hb, hml, hown, hts⟩ (t_requireSlot l hl9 D slot s.heap.size hs) (va_cwS 1 hts (gd_up (gd_S mb_10 mb_11 mb_12 mb_13)) rfl rfl rfl (by decide +kernel) ⟨by decide, by decide⟩) ⟨cP_blind, cPre hP hD hK hS hA hZ [] rfl (by decide) [] rfl⟩ rfl rfl hl.1 rfl (lv_room (Nat.le_of_ble_eq_true rfl)) dX0_step_1 ⟨by decide, by decide⟩) hP hD hS hA [] [0, 1, 2, 3, 4, 5] rfl rfl (by decide) (by decide) (fun E ce q9 H locs hE hP hD hS hce hcv hcl => ?_) (fun H locs hp hP hD hS => ?_)
    · skip
      have hP : va_P D vwCl (wX a k n K V kd SK SV) H := hP
      have hD : va_D A (wX a k n K V kd SK SV) := hD
      subst hE
      exact fx_out ht9 hlocks hce hcv hcl hS (by decide) (by decide) (tcE_1 (cdT_1 (fun q => hs q.1))) hP hK hD
    · skip
      have hP : va_P D vwCl (wX a k n K V kd SK SV) H := hP
      have hD : va_D A (wX a k n K V kd SK SV) := hD
      exact hp.elim
set_option maxHeartbeats 1000000 in
set_option maxRecDepth 100000 in
theorem c_tidy (l : Launch) (hl9 : l.stackTraces = false) (D : va_G) (a : Nat → Nat) (k : Nat → ClassId) (n : Nat) (K V : Nat → Int64) (kd : Nat → Int32) (SK SV : Nat → Int64) (x : Int32) (sz : Nat)  : vx_Met l yX0_tidy wsX0_tidy ({ frames := 7, cells := 1, slots := 6, locals := 102 }) (cP D (tX k) (wX a k n K V kd SK SV) [.ref (a 0), .int x] sz) (cQv D (tX k) (okN x) (wX a k n K V kd SK SV) (va_A (wX a k n K V kd SK SV) sz)) (cX D (tX k) (fun E => E = "java/lang/IllegalArgumentException" ∧ ¬ okN x) (wX a k n K V kd SK SV) (va_A (wX a k n K V kd SK SV) sz)) 1 6 (va_A (wX a k n K V kd SK SV) sz) := by
  refine mk_x (cc := cX0_tidy) (maxL := 2) (ret := none) (fun A => cQv D (tX k) (okN x) (wX a k n K V kd SK SV) A) (fun A => cX D (tX k) (fun E => E = "java/lang/IllegalArgumentException" ∧ ¬ okN x) (wX a k n K V kd SK SV) A) (by decide) rfl (Nat.le_of_ble_eq_true rfl) ?_
  intro p e s m below meth c ls A hx hb hr hml ht9 hlocks hnm hown hts hP hK hD hZ hA hS hl
  have hown : s.vm.findClass RX0 = some m.cls := hown
  have hl : lv_has ls 2 [(0, .ref (a 0)), (1, .int x)] := hl
  refine lv_iload_n hx hb dX0_tidy_0 rfl (lv_at hl 1 rfl) ?_
  by_cases hs : okN x
  · skip
    refine kn_v (wc := []) (wr := (wX a k n K V kd SK SV)) (w1 := []) (va_runS (As := [.int x]) (rest := []) ⟨hx, hb, hml, hown, hts⟩ (c_requireSteps l hl9 D x s.heap.size hs) (va_cwS 1 hts (gd_up (gd_S mb_16 mb_17 mb_12 mb_18)) rfl rfl rfl (by decide +kernel) ⟨by decide, by decide⟩) ⟨cP_blind, cPre hP hD hK hS hA hZ [] rfl (by decide) [] rfl⟩ rfl rfl hl.1 rfl (lv_room (Nat.le_of_ble_eq_true rfl)) dX0_tidy_1 ⟨by decide, by decide⟩) hP hD hS hA [] [0, 1, 2, 3, 4, 5] rfl rfl (by decide) (by decide) (fun H locs hp hP hD hS => ?_)
    have hP : va_P D vwCl (wX a k n K V kd SK SV) H := hP
    have hD : va_D A (wX a k n K V kd SK SV) := hD
    exact fx_v hx hb hr hlocks (by decide) (by decide) hs hP hK hD hS dX0_tidy_4
  · skip
    refine kx_v (wc := []) (wr := (wX a k n K V kd SK SV)) (w1 := []) (w2 := []) (vx_runS (As := [.int x]) (rest := []) ⟨hx, hb, hml, hown, hts⟩ (t_requireSteps l hl9 D x s.heap.size hs) (va_cwS 1 hts (gd_up (gd_S mb_16 mb_17 mb_12 mb_18)) rfl rfl rfl (by decide +kernel) ⟨by decide, by decide⟩) ⟨cP_blind, cPre hP hD hK hS hA hZ [] rfl (by decide) [] rfl⟩ rfl rfl hl.1 rfl (lv_room (Nat.le_of_ble_eq_true rfl)) dX0_tidy_1 ⟨by decide, by decide⟩) hP hD hS hA [] [0, 1, 2, 3, 4, 5] rfl rfl (by decide) (by decide) (fun E ce q9 H locs hE hP hD hS hce hcv hcl => ?_) (fun H locs hp hP hD hS => ?_)
    · skip
      have hP : va_P D vwCl (wX a k n K V kd SK SV) H := hP
      have hD : va_D A (wX a k n K V kd SK SV) := hD
      subst hE
      exact fx_out ht9 hlocks hce hcv hcl hS (by decide) (by decide) ⟨rfl, hs⟩ hP hK hD
    · skip
      have hP : va_P D vwCl (wX a k n K V kd SK SV) H := hP
      have hD : va_D A (wX a k n K V kd SK SV) := hD
      exact hp.elim
set_option maxHeartbeats 1000000 in
set_option maxRecDepth 100000 in
theorem c_drop (l : Launch) (hl9 : l.stackTraces = false) (D : va_G) (a : Nat → Nat) (k : Nat → ClassId) (n : Nat) (K V : Nat → Int64) (kd : Nat → Int32) (SK SV : Nat → Int64) (slot : Int32) (sz : Nat)  : vx_Met l yX0_drop wsX0_drop ({ frames := 7, cells := 1, slots := 6, locals := 102 }) (cP D (tX k) (wX a k n K V kd SK SV) [.ref (a 0), .int slot] sz) (cQi D (tX k) (fun v => okS slot ∧ v = (if kd (ix slot) = -1 then 0 else 1)) (wX a k n K V (upd kd (ix slot) (-1)) SK SV) (va_A (wX a k n K V kd SK SV) sz)) (cX D (tX k) (fun E => E = "java/lang/IllegalArgumentException" ∧ ¬ okS slot) (wX a k n K V kd SK SV) (va_A (wX a k n K V kd SK SV) sz)) 1 6 (va_A (wX a k n K V kd SK SV) sz) := by
  refine mk_x (cc := cX0_drop) (maxL := 3) (ret := (some .boolean)) (fun A => cQi D (tX k) (fun v => okS slot ∧ v = (if kd (ix slot) = -1 then 0 else 1)) (wX a k n K V (upd kd (ix slot) (-1)) SK SV) A) (fun A => cX D (tX k) (fun E => E = "java/lang/IllegalArgumentException" ∧ ¬ okS slot) (wX a k n K V kd SK SV) A) (by decide) rfl (Nat.le_of_ble_eq_true rfl) ?_
  intro p e s m below meth c ls A hx hb hr hml ht9 hlocks hnm hown hts hP hK hD hZ hA hS hl
  have hown : s.vm.findClass RX0 = some m.cls := hown
  have hl : lv_has ls 3 [(0, .ref (a 0)), (1, .int slot)] := hl
  refine lv_iload_n hx hb dX0_drop_0 rfl (lv_at hl 1 rfl) ?_
  by_cases hs : okS slot
  · skip
    refine kn_v (wc := []) (wr := (wX a k n K V kd SK SV)) (w1 := []) (va_runS (As := [.int slot]) (rest := []) ⟨hx, hb, hml, hown, hts⟩ (c_requireSlot l hl9 D slot s.heap.size hs) (va_cwS 1 hts (gd_up (gd_S mb_10 mb_11 mb_12 mb_13)) rfl rfl rfl (by decide +kernel) ⟨by decide, by decide⟩) ⟨cP_blind, cPre hP hD hK hS hA hZ [] rfl (by decide) [] rfl⟩ rfl rfl hl.1 rfl (lv_room (Nat.le_of_ble_eq_true rfl)) dX0_drop_1 ⟨by decide, by decide⟩) hP hD hS hA [] [0, 1, 2, 3, 4, 5] rfl rfl (by decide) (by decide) (fun H locs hp hP hD hS => ?_)
    have hP : va_P D vwCl (wX a k n K V kd SK SV) H := hP
    have hD : va_D A (wX a k n K V kd SK SV) := hD
    obtain ⟨j, hj, rfl⟩ := okS_of hs
    rw [ix_n hj]
    refine lv_aload_n hx hb dX0_drop_4 rfl (lv_at hl 0 rfl) ?_
    refine va_get (D := D) (ci := 0) (v := .ref (a 3)) (C := RX0) (T := TX0) (N := 6) hx hb hts (fun w h => wm (ui_X0 w h)) hown hK hP 0 rfl rfl 3 (by decide) (hts (.fieldLink RX0 20 "LinkedIndex" "slotKinds" "[I") (wm mb_5)) (fun _ h9 => h9) rfl dX0_drop_5 ?_
    refine lv_iload_n hx hb dX0_drop_8 rfl (lv_at hl 1 rfl) ?_
    refine x_iald (j := j) hx hb hK hP 3 2 rfl rfl hj (by decide) dX0_drop_9 ?_
    refine lv_iconst (v := (-1)) hx hb dX0_drop_10 (by decide) ?_
    refine lv_icmp_eq (tgt := 18) hx hb dX0_drop_11 (by decide) (fun h1 => ?_) (fun h1 => ?_)
    · skip
      refine lv_iconst (v := 0) hx hb dX0_drop_18 (by decide) ?_
      refine lv_istore_n (lv' := [(2, .int 0), (0, .ref (a 0)), (1, .int (nI j))]) hx hb dX0_drop_19 rfl hl (by decide) rfl (fun ls hl => ?_)
      refine lv_aload_n hx hb dX0_drop_20 rfl (lv_at hl 1 rfl) ?_
      refine va_get (D := D) (ci := 0) (v := .ref (a 3)) (C := RX0) (T := TX0) (N := 6) hx hb hts (fun w h => wm (ui_X0 w h)) hown hK hP 0 rfl rfl 3 (by decide) (hts (.fieldLink RX0 20 "LinkedIndex" "slotKinds" "[I") (wm mb_5)) (fun _ h9 => h9) rfl dX0_drop_21 ?_
      refine lv_iload_n hx hb dX0_drop_24 rfl (lv_at hl 2 rfl) ?_
      refine lv_iconst (v := (-1)) hx hb dX0_drop_25 (by decide) ?_
      refine x_iast (j := j) hx hb hK hP hD hS 3 2 rfl rfl hj (by decide) dX0_drop_26 (fun H locs hP hD hS => ?_)
      have hP : va_P D vwCl (wX a k n K V (upd kd j (-1)) SK SV) H := hP
      have hD : va_D A (wX a k n K V (upd kd j (-1)) SK SV) := hD
      refine lv_iload_n hx hb dX0_drop_27 rfl (lv_at hl 0 rfl) ?_
      exact fx_z hx hb hr (by decide) hlocks (by decide) (by decide) ⟨okS_n hj, by rw [if_pos h1]⟩ hP hK hD hS dX0_drop_28
    · skip
      refine lv_iconst (v := 1) hx hb dX0_drop_14 (by decide) ?_
      refine lv_goto (tgt := 19) hx hb dX0_drop_15 (by decide) ?_
      refine lv_istore_n (lv' := [(2, .int 1), (0, .ref (a 0)), (1, .int (nI j))]) hx hb dX0_drop_19 rfl hl (by decide) rfl (fun ls hl => ?_)
      refine lv_aload_n hx hb dX0_drop_20 rfl (lv_at hl 1 rfl) ?_
      refine va_get (D := D) (ci := 0) (v := .ref (a 3)) (C := RX0) (T := TX0) (N := 6) hx hb hts (fun w h => wm (ui_X0 w h)) hown hK hP 0 rfl rfl 3 (by decide) (hts (.fieldLink RX0 20 "LinkedIndex" "slotKinds" "[I") (wm mb_5)) (fun _ h9 => h9) rfl dX0_drop_21 ?_
      refine lv_iload_n hx hb dX0_drop_24 rfl (lv_at hl 2 rfl) ?_
      refine lv_iconst (v := (-1)) hx hb dX0_drop_25 (by decide) ?_
      refine x_iast (j := j) hx hb hK hP hD hS 3 2 rfl rfl hj (by decide) dX0_drop_26 (fun H locs hP hD hS => ?_)
      have hP : va_P D vwCl (wX a k n K V (upd kd j (-1)) SK SV) H := hP
      have hD : va_D A (wX a k n K V (upd kd j (-1)) SK SV) := hD
      refine lv_iload_n hx hb dX0_drop_27 rfl (lv_at hl 0 rfl) ?_
      exact fx_z hx hb hr (by decide) hlocks (by decide) (by decide) ⟨okS_n hj, by rw [if_neg h1]⟩ hP hK hD hS dX0_drop_28
  · skip
    refine kx_v (wc := []) (wr := (wX a k n K V kd SK SV)) (w1 := []) (w2 := []) (vx_runS (As := [.int slot]) (rest := []) ⟨hx, hb, hml, hown, hts⟩ (t_requireSlot l hl9 D slot s.heap.size hs) (va_cwS 1 hts (gd_up (gd_S mb_10 mb_11 mb_12 mb_13)) rfl rfl rfl (by decide +kernel) ⟨by decide, by decide⟩) ⟨cP_blind, cPre hP hD hK hS hA hZ [] rfl (by decide) [] rfl⟩ rfl rfl hl.1 rfl (lv_room (Nat.le_of_ble_eq_true rfl)) dX0_drop_1 ⟨by decide, by decide⟩) hP hD hS hA [] [0, 1, 2, 3, 4, 5] rfl rfl (by decide) (by decide) (fun E ce q9 H locs hE hP hD hS hce hcv hcl => ?_) (fun H locs hp hP hD hS => ?_)
    · skip
      have hP : va_P D vwCl (wX a k n K V kd SK SV) H := hP
      have hD : va_D A (wX a k n K V kd SK SV) := hD
      subst hE
      exact fx_out ht9 hlocks hce hcv hcl hS (by decide) (by decide) ⟨rfl, hs⟩ hP hK hD
    · skip
      have hP : va_P D vwCl (wX a k n K V kd SK SV) H := hP
      have hD : va_D A (wX a k n K V kd SK SV) := hD
      exact hp.elim
set_option maxHeartbeats 1000000 in
set_option maxRecDepth 100000 in
theorem c_kind (l : Launch) (hl9 : l.stackTraces = false) (D : va_G) (a : Nat → Nat) (k : Nat → ClassId) (n : Nat) (K V : Nat → Int64) (kd : Nat → Int32) (SK SV : Nat → Int64) (slot : Int32) (sz : Nat)  : vx_Met l yX0_kind wsX0_kind ({ frames := 7, cells := 1, slots := 6, locals := 102 }) (cP D (tX k) (wX a k n K V kd SK SV) [.ref (a 0), .int slot] sz) (cQi D (tX k) (fun v => okS slot ∧ v = kd (ix slot)) (wX a k n K V kd SK SV) (va_A (wX a k n K V kd SK SV) sz)) (cX D (tX k) (fun E => E = "java/lang/IllegalArgumentException" ∧ ¬ okS slot) (wX a k n K V kd SK SV) (va_A (wX a k n K V kd SK SV) sz)) 1 6 (va_A (wX a k n K V kd SK SV) sz) := by
  refine mk_x (cc := cX0_kind) (maxL := 2) (ret := (some .int)) (fun A => cQi D (tX k) (fun v => okS slot ∧ v = kd (ix slot)) (wX a k n K V kd SK SV) A) (fun A => cX D (tX k) (fun E => E = "java/lang/IllegalArgumentException" ∧ ¬ okS slot) (wX a k n K V kd SK SV) A) (by decide) rfl (Nat.le_of_ble_eq_true rfl) ?_
  intro p e s m below meth c ls A hx hb hr hml ht9 hlocks hnm hown hts hP hK hD hZ hA hS hl
  have hown : s.vm.findClass RX0 = some m.cls := hown
  have hl : lv_has ls 2 [(0, .ref (a 0)), (1, .int slot)] := hl
  refine lv_iload_n hx hb dX0_kind_0 rfl (lv_at hl 1 rfl) ?_
  by_cases hs : okS slot
  · skip
    refine kn_v (wc := []) (wr := (wX a k n K V kd SK SV)) (w1 := []) (va_runS (As := [.int slot]) (rest := []) ⟨hx, hb, hml, hown, hts⟩ (c_requireSlot l hl9 D slot s.heap.size hs) (va_cwS 1 hts (gd_up (gd_S mb_10 mb_11 mb_12 mb_13)) rfl rfl rfl (by decide +kernel) ⟨by decide, by decide⟩) ⟨cP_blind, cPre hP hD hK hS hA hZ [] rfl (by decide) [] rfl⟩ rfl rfl hl.1 rfl (lv_room (Nat.le_of_ble_eq_true rfl)) dX0_kind_1 ⟨by decide, by decide⟩) hP hD hS hA [] [0, 1, 2, 3, 4, 5] rfl rfl (by decide) (by decide) (fun H locs hp hP hD hS => ?_)
    have hP : va_P D vwCl (wX a k n K V kd SK SV) H := hP
    have hD : va_D A (wX a k n K V kd SK SV) := hD
    obtain ⟨j, hj, rfl⟩ := okS_of hs
    rw [ix_n hj]
    refine lv_aload_n hx hb dX0_kind_4 rfl (lv_at hl 0 rfl) ?_
    refine va_get (D := D) (ci := 0) (v := .ref (a 3)) (C := RX0) (T := TX0) (N := 6) hx hb hts (fun w h => wm (ui_X0 w h)) hown hK hP 0 rfl rfl 3 (by decide) (hts (.fieldLink RX0 20 "LinkedIndex" "slotKinds" "[I") (wm mb_5)) (fun _ h9 => h9) rfl dX0_kind_5 ?_
    refine lv_iload_n hx hb dX0_kind_8 rfl (lv_at hl 1 rfl) ?_
    refine x_iald (j := j) hx hb hK hP 3 2 rfl rfl hj (by decide) dX0_kind_9 ?_
    exact fx_i hx hb hr hlocks (by decide) (by decide) ⟨okS_n hj, rfl⟩ hP hK hD hS dX0_kind_10
  · skip
    refine kx_v (wc := []) (wr := (wX a k n K V kd SK SV)) (w1 := []) (w2 := []) (vx_runS (As := [.int slot]) (rest := []) ⟨hx, hb, hml, hown, hts⟩ (t_requireSlot l hl9 D slot s.heap.size hs) (va_cwS 1 hts (gd_up (gd_S mb_10 mb_11 mb_12 mb_13)) rfl rfl rfl (by decide +kernel) ⟨by decide, by decide⟩) ⟨cP_blind, cPre hP hD hK hS hA hZ [] rfl (by decide) [] rfl⟩ rfl rfl hl.1 rfl (lv_room (Nat.le_of_ble_eq_true rfl)) dX0_kind_1 ⟨by decide, by decide⟩) hP hD hS hA [] [0, 1, 2, 3, 4, 5] rfl rfl (by decide) (by decide) (fun E ce q9 H locs hE hP hD hS hce hcv hcl => ?_) (fun H locs hp hP hD hS => ?_)
    · skip
      have hP : va_P D vwCl (wX a k n K V kd SK SV) H := hP
      have hD : va_D A (wX a k n K V kd SK SV) := hD
      subst hE
      exact fx_out ht9 hlocks hce hcv hcl hS (by decide) (by decide) ⟨rfl, hs⟩ hP hK hD
    · skip
      have hP : va_P D vwCl (wX a k n K V kd SK SV) H := hP
      have hD : va_D A (wX a k n K V kd SK SV) := hD
      exact hp.elim
set_option maxHeartbeats 1000000 in
set_option maxRecDepth 100000 in
theorem c_size (l : Launch) (hl9 : l.stackTraces = false) (D : va_G) (a : Nat → Nat) (k : Nat → ClassId) (n : Nat) (K V : Nat → Int64) (kd : Nat → Int32) (SK SV : Nat → Int64) (sz : Nat)  : Met l yX0_size wsX0_size ({ frames := 0, cells := 0, slots := 0, locals := 0 }) (cP D (tX k) (wX a k n K V kd SK SV) [.ref (a 0)] sz) (cQi D (tX k) (fun v => v = nI n) (wX a k n K V kd SK SV) (va_A (wX a k n K V kd SK SV) sz)) 0 0 (va_A (wX a k n K V kd SK SV) sz) := by
  refine mk_n (cc := cX0_size) (maxL := 1) (ret := (some .int)) (fun A => cQi D (tX k) (fun v => v = nI n) (wX a k n K V kd SK SV) A) (by decide) rfl (Nat.le_of_ble_eq_true rfl) ?_
  intro p e s m below meth c ls A hx hb hr hml hlocks hnm hown hts hP hK hD hZ hA hS hl
  have hown : s.vm.findClass RX0 = some m.cls := hown
  have hl : lv_has ls 1 [(0, .ref (a 0))] := hl
  refine lv_aload_n hx hb dX0_size_0 rfl (lv_at hl 0 rfl) ?_
  refine va_get (D := D) (ci := 0) (v := .int (nI n)) (C := RX0) (T := TX0) (N := 6) hx hb hts (fun w h => wm (ui_X0 w h)) hown hK hP 0 rfl rfl 2 (by decide) (hts (.fieldLink RX0 16 "LinkedIndex" "keyCount" "I") (wm mb_2)) (fun _ h9 => h9) rfl dX0_size_1 ?_
  exact fn_i hx hb hr hlocks (by decide) (by decide) rfl hP hK hD hS dX0_size_4
set_option maxHeartbeats 1000000 in
set_option maxRecDepth 100000 in
theorem c_key (l : Launch) (hl9 : l.stackTraces = false) (D : va_G) (a : Nat → Nat) (k : Nat → ClassId) (n : Nat) (K V : Nat → Int64) (kd : Nat → Int32) (SK SV : Nat → Int64) (x : Int32) (sz : Nat) (hn : n ≤ 100) : vx_Met l yX0_key wsX0_key ({ frames := 7, cells := 1, slots := 6, locals := 103 }) (cP D (tX k) (wX a k n K V kd SK SV) [.ref (a 0), .int x] sz) (cQl D (tX k) (fun v => okP x n ∧ v = K (ix x)) (wX a k n K V kd SK SV) (va_A (wX a k n K V kd SK SV) sz)) (cX D (tX k) (fun E => E = "java/lang/IndexOutOfBoundsException" ∧ ¬ okP x n) (wX a k n K V kd SK SV) (va_A (wX a k n K V kd SK SV) sz)) 1 6 (va_A (wX a k n K V kd SK SV) sz) := by
  refine mk_x (cc := cX0_key) (maxL := 2) (ret := (some .long)) (fun A => cQl D (tX k) (fun v => okP x n ∧ v = K (ix x)) (wX a k n K V kd SK SV) A) (fun A => cX D (tX k) (fun E => E = "java/lang/IndexOutOfBoundsException" ∧ ¬ okP x n) (wX a k n K V kd SK SV) A) (by decide) rfl (Nat.le_of_ble_eq_true rfl) ?_
  intro p e s m below meth c ls A hx hb hr hml ht9 hlocks hnm hown hts hP hK hD hZ hA hS hl
  have hown : s.vm.findClass RX0 = some m.cls := hown
  have hl : lv_has ls 2 [(0, .ref (a 0)), (1, .int x)] := hl
  refine lv_aload_n hx hb dX0_key_0 rfl (lv_at hl 0 rfl) ?_
  refine lv_iload_n hx hb dX0_key_1 rfl (lv_at hl 1 rfl) ?_
  by_cases hs : okP x n
  · skip
    refine kn_v (wc := (wX a k n K V kd SK SV)) (wr := []) (w1 := (wX a k n K V kd SK SV)) (va_runV (As := [.int x]) (rest := []) ⟨hx, hb, hml, hown, hts⟩ (c_requirePlace l hl9 D a k n K V kd SK SV x s.heap.size hs) (cwV 1 hts (gd_up (gd_V mb_23 mb_24 mb_25 mb_12 mb_26)) rfl rfl rfl (by decide +kernel) ⟨by decide, by decide⟩) ⟨cP_blind, va_recv (q0 := 0) (ci := 0) (q := (RX0, TX0, 6)) hK hP rfl rfl, cPre hP hD hK hS hA hZ [0, 1, 2, 3, 4, 5] rfl (by decide) [0, 1, 2, 3, 4] rfl⟩ rfl rfl hl.1 rfl (lv_room (Nat.le_of_ble_eq_true rfl)) dX0_key_2 ⟨by decide, by decide⟩) hP hD hS hA [0, 1, 2, 3, 4, 5] [] rfl rfl (by decide) (by decide) (fun H locs hp hP hD hS => ?_)
    have hP : va_P D vwCl (wX a k n K V kd SK SV) H := hP
    have hD : va_D A (wX a k n K V kd SK SV) := hD
    have hp0 := hs
    obtain ⟨j, hj, rfl⟩ := okP_of (by omega) hs
    rw [show ix (nI j) = j from nI_clamp (by omega)]
    refine lv_aload_n hx hb dX0_key_5 rfl (lv_at hl 0 rfl) ?_
    refine va_get (D := D) (ci := 0) (v := .ref (a 1)) (C := RX0) (T := TX0) (N := 6) hx hb hts (fun w h => wm (ui_X0 w h)) hown hK hP 0 rfl rfl 0 (by decide) (hts (.fieldLink RX0 9 "LinkedIndex" "keys" "[J") (wm mb_8)) (fun _ h9 => h9) rfl dX0_key_6 ?_
    refine lv_iload_n hx hb dX0_key_9 rfl (lv_at hl 1 rfl) ?_
    refine x_lald (j := j) hx hb hK hP 1 0 rfl rfl (by omega) (by decide) dX0_key_10 ?_
    exact fx_l hx hb hr hlocks (by decide) (by decide) ⟨hp0, rfl⟩ hP hK hD hS dX0_key_11
  · skip
    refine kx_v (wc := (wX a k n K V kd SK SV)) (wr := []) (w1 := (wX a k n K V kd SK SV)) (w2 := (wX a k n K V kd SK SV)) (vx_runV (As := [.int x]) (rest := []) ⟨hx, hb, hml, hown, hts⟩ (t_requirePlace l hl9 D a k n K V kd SK SV x s.heap.size hs) (cwV 1 hts (gd_up (gd_V mb_23 mb_24 mb_25 mb_12 mb_26)) rfl rfl rfl (by decide +kernel) ⟨by decide, by decide⟩) ⟨cP_blind, va_recv (q0 := 0) (ci := 0) (q := (RX0, TX0, 6)) hK hP rfl rfl, cPre hP hD hK hS hA hZ [0, 1, 2, 3, 4, 5] rfl (by decide) [0, 1, 2, 3, 4] rfl⟩ rfl rfl hl.1 rfl (lv_room (Nat.le_of_ble_eq_true rfl)) dX0_key_2 ⟨by decide, by decide⟩) hP hD hS hA [0, 1, 2, 3, 4, 5] [] rfl rfl (by decide) (by decide) (fun E ce q9 H locs hE hP hD hS hce hcv hcl => ?_) (fun H locs hp hP hD hS => ?_)
    · skip
      have hP : va_P D vwCl (wX a k n K V kd SK SV) H := hP
      have hD : va_D A (wX a k n K V kd SK SV) := hD
      subst hE
      exact fx_out ht9 hlocks hce hcv hcl hS (by decide) (by decide) ⟨rfl, hs⟩ hP hK hD
    · skip
      have hP : va_P D vwCl (wX a k n K V kd SK SV) H := hP
      have hD : va_D A (wX a k n K V kd SK SV) := hD
      exact hp.elim
set_option maxHeartbeats 1000000 in
set_option maxRecDepth 100000 in
theorem c_value (l : Launch) (hl9 : l.stackTraces = false) (D : va_G) (a : Nat → Nat) (k : Nat → ClassId) (n : Nat) (K V : Nat → Int64) (kd : Nat → Int32) (SK SV : Nat → Int64) (x : Int32) (sz : Nat) (hn : n ≤ 100) : vx_Met l yX0_value wsX0_value ({ frames := 7, cells := 1, slots := 6, locals := 103 }) (cP D (tX k) (wX a k n K V kd SK SV) [.ref (a 0), .int x] sz) (cQl D (tX k) (fun v => okP x n ∧ v = V (ix x)) (wX a k n K V kd SK SV) (va_A (wX a k n K V kd SK SV) sz)) (cX D (tX k) (fun E => E = "java/lang/IndexOutOfBoundsException" ∧ ¬ okP x n) (wX a k n K V kd SK SV) (va_A (wX a k n K V kd SK SV) sz)) 1 6 (va_A (wX a k n K V kd SK SV) sz) := by
  refine mk_x (cc := cX0_value) (maxL := 2) (ret := (some .long)) (fun A => cQl D (tX k) (fun v => okP x n ∧ v = V (ix x)) (wX a k n K V kd SK SV) A) (fun A => cX D (tX k) (fun E => E = "java/lang/IndexOutOfBoundsException" ∧ ¬ okP x n) (wX a k n K V kd SK SV) A) (by decide) rfl (Nat.le_of_ble_eq_true rfl) ?_
  intro p e s m below meth c ls A hx hb hr hml ht9 hlocks hnm hown hts hP hK hD hZ hA hS hl
  have hown : s.vm.findClass RX0 = some m.cls := hown
  have hl : lv_has ls 2 [(0, .ref (a 0)), (1, .int x)] := hl
  refine lv_aload_n hx hb dX0_value_0 rfl (lv_at hl 0 rfl) ?_
  refine lv_iload_n hx hb dX0_value_1 rfl (lv_at hl 1 rfl) ?_
  by_cases hs : okP x n
  · skip
    refine kn_v (wc := (wX a k n K V kd SK SV)) (wr := []) (w1 := (wX a k n K V kd SK SV)) (va_runV (As := [.int x]) (rest := []) ⟨hx, hb, hml, hown, hts⟩ (c_requirePlace l hl9 D a k n K V kd SK SV x s.heap.size hs) (cwV 1 hts (gd_up (gd_V mb_23 mb_24 mb_25 mb_12 mb_26)) rfl rfl rfl (by decide +kernel) ⟨by decide, by decide⟩) ⟨cP_blind, va_recv (q0 := 0) (ci := 0) (q := (RX0, TX0, 6)) hK hP rfl rfl, cPre hP hD hK hS hA hZ [0, 1, 2, 3, 4, 5] rfl (by decide) [0, 1, 2, 3, 4] rfl⟩ rfl rfl hl.1 rfl (lv_room (Nat.le_of_ble_eq_true rfl)) dX0_value_2 ⟨by decide, by decide⟩) hP hD hS hA [0, 1, 2, 3, 4, 5] [] rfl rfl (by decide) (by decide) (fun H locs hp hP hD hS => ?_)
    have hP : va_P D vwCl (wX a k n K V kd SK SV) H := hP
    have hD : va_D A (wX a k n K V kd SK SV) := hD
    have hp0 := hs
    obtain ⟨j, hj, rfl⟩ := okP_of (by omega) hs
    rw [show ix (nI j) = j from nI_clamp (by omega)]
    refine lv_aload_n hx hb dX0_value_5 rfl (lv_at hl 0 rfl) ?_
    refine va_get (D := D) (ci := 0) (v := .ref (a 2)) (C := RX0) (T := TX0) (N := 6) hx hb hts (fun w h => wm (ui_X0 w h)) hown hK hP 0 rfl rfl 1 (by decide) (hts (.fieldLink RX0 13 "LinkedIndex" "values" "[J") (wm mb_9)) (fun _ h9 => h9) rfl dX0_value_6 ?_
    refine lv_iload_n hx hb dX0_value_9 rfl (lv_at hl 1 rfl) ?_
    refine x_lald (j := j) hx hb hK hP 2 1 rfl rfl (by omega) (by decide) dX0_value_10 ?_
    exact fx_l hx hb hr hlocks (by decide) (by decide) ⟨hp0, rfl⟩ hP hK hD hS dX0_value_11
  · skip
    refine kx_v (wc := (wX a k n K V kd SK SV)) (wr := []) (w1 := (wX a k n K V kd SK SV)) (w2 := (wX a k n K V kd SK SV)) (vx_runV (As := [.int x]) (rest := []) ⟨hx, hb, hml, hown, hts⟩ (t_requirePlace l hl9 D a k n K V kd SK SV x s.heap.size hs) (cwV 1 hts (gd_up (gd_V mb_23 mb_24 mb_25 mb_12 mb_26)) rfl rfl rfl (by decide +kernel) ⟨by decide, by decide⟩) ⟨cP_blind, va_recv (q0 := 0) (ci := 0) (q := (RX0, TX0, 6)) hK hP rfl rfl, cPre hP hD hK hS hA hZ [0, 1, 2, 3, 4, 5] rfl (by decide) [0, 1, 2, 3, 4] rfl⟩ rfl rfl hl.1 rfl (lv_room (Nat.le_of_ble_eq_true rfl)) dX0_value_2 ⟨by decide, by decide⟩) hP hD hS hA [0, 1, 2, 3, 4, 5] [] rfl rfl (by decide) (by decide) (fun E ce q9 H locs hE hP hD hS hce hcv hcl => ?_) (fun H locs hp hP hD hS => ?_)
    · skip
      have hP : va_P D vwCl (wX a k n K V kd SK SV) H := hP
      have hD : va_D A (wX a k n K V kd SK SV) := hD
      subst hE
      exact fx_out ht9 hlocks hce hcv hcl hS (by decide) (by decide) ⟨rfl, hs⟩ hP hK hD
    · skip
      have hP : va_P D vwCl (wX a k n K V kd SK SV) H := hP
      have hD : va_D A (wX a k n K V kd SK SV) := hD
      exact hp.elim
set_option maxHeartbeats 1000000 in
set_option maxRecDepth 100000 in
theorem c_crash (l : Launch) (hl9 : l.stackTraces = false) (D : va_G) (a : Nat → Nat) (k : Nat → ClassId) (n : Nat) (K V : Nat → Int64) (kd : Nat → Int32) (SK SV : Nat → Int64) (sz : Nat)  : Met l yX0_crash wsX0_crash ({ frames := 0, cells := 0, slots := 0, locals := 0 }) (cP D (tX k) (wX a k n K V kd SK SV) [.ref (a 0)] sz) (cQi D (tX k) (fun v => v = (crF 8 0 kd 0).2) (wX a k n K V ((crF 8 0 kd 0).1) SK SV) (va_A (wX a k n K V kd SK SV) sz)) 0 0 (va_A (wX a k n K V kd SK SV) sz) := by
  refine mk_n (cc := cX0_crash) (maxL := 3) (ret := (some .int)) (fun A => cQi D (tX k) (fun v => v = (crF 8 0 kd 0).2) (wX a k n K V ((crF 8 0 kd 0).1) SK SV) A) (by decide) rfl (Nat.le_of_ble_eq_true rfl) ?_
  intro p e s m below meth c ls A hx hb hr hml hlocks hnm hown hts hP hK hD hZ hA hS hl
  have hown : s.vm.findClass RX0 = some m.cls := hown
  have hl : lv_has ls 3 [(0, .ref (a 0))] := hl
  refine lv_iconst (v := 0) hx hb dX0_crash_0 (by decide) ?_
  refine lv_istore_n (lv' := [(1, .int 0), (0, .ref (a 0))]) hx hb dX0_crash_1 rfl hl (by decide) rfl (fun ls hl => ?_)
  refine lv_iconst (v := 0) hx hb dX0_crash_2 (by decide) ?_
  refine lv_istore_n (lv' := [(2, .int 0), (1, .int 0), (0, .ref (a 0))]) hx hb dX0_crash_3 rfl hl (by decide) rfl (fun ls hl => ?_)
  have loop : ∀ (f i : Nat) (kc : Nat → Int32) (acc : Int32) (H : Heap) (locs : List Loc), 8 - i = f → i ≤ 8 → crF f i kc acc = crF 8 0 kd 0 → va_P D vwCl (wX a k n K V kc SK SV) H → va_D A (wX a k n K V kc SK SV) → va_S A s.heap H locs → ∀ ls : Array Slot, lv_has ls 3 [(2, .int (nI i)), (1, .int acc), (0, .ref (a 0))] → W p l e ({ frames := 0, cells := 0, slots := 0, locals := 0 }) s m ([.ref (a 0)] : List Value).toArray below meth c H locs 0 0 (MQ below (cQi D (tX k) (fun v => v = (crF 8 0 kd 0).2) (wX a k n K V ((crF 8 0 kd 0).1) SK SV) A) ([.ref (a 0)] : List Value).toArray s 0 0 A) (F0 m 4 ls []) := by
    intro f
    induction f with
    | zero =>
      intro i kc acc H locs hf hi e1 hP hD hS ls hl
      have e2 : kc = (crF 8 0 kd 0).1 := congrArg Prod.fst e1
      have e3 : acc = (crF 8 0 kd 0).2 := congrArg Prod.snd e1
      refine lv_iload_n hx hb dX0_crash_4 rfl (lv_at hl 0 rfl) ?_
      refine lv_bipush (v := 8) hx hb dX0_crash_5 (by decide) ?_
      refine lv_icmp_ge (tgt := 36) hx hb dX0_crash_7 (by decide) (fun h1 => ?_) (fun h1 => ?_)
      · skip
        rw [e2] at hP hD
        refine lv_iload_n hx hb dX0_crash_36 rfl (lv_at hl 1 rfl) ?_
        exact fn_i hx hb hr hlocks (by decide) (by decide) e3 hP hK hD hS dX0_crash_37
      · skip
        exact absurd ((nI_leI (a := 8) (by omega) (by omega)).mpr (by omega)) h1
    | succ f ih =>
      intro i kc acc H locs hf hi e1 hP hD hS ls hl
      refine lv_iload_n hx hb dX0_crash_4 rfl (lv_at hl 0 rfl) ?_
      refine lv_bipush (v := 8) hx hb dX0_crash_5 (by decide) ?_
      refine lv_icmp_ge (tgt := 36) hx hb dX0_crash_7 (by decide) (fun h1 => ?_) (fun h1 => ?_)
      · skip
        exact absurd ((nI_leI (a := 8) (by omega) (by omega)).mp h1) (by omega)
      · skip
        refine lv_aload_n hx hb dX0_crash_10 rfl (lv_at hl 2 rfl) ?_
        refine va_get (D := D) (ci := 0) (v := .ref (a 3)) (C := RX0) (T := TX0) (N := 6) hx hb hts (fun w h => wm (ui_X0 w h)) hown hK hP 0 rfl rfl 3 (by decide) (hts (.fieldLink RX0 20 "LinkedIndex" "slotKinds" "[I") (wm mb_5)) (fun _ h9 => h9) rfl dX0_crash_11 ?_
        refine lv_iload_n hx hb dX0_crash_14 rfl (lv_at hl 0 rfl) ?_
        refine x_iald (j := i) hx hb hK hP 3 2 rfl rfl (by omega) (by decide) dX0_crash_15 ?_
        refine lv_iconst (v := (-1)) hx hb dX0_crash_16 (by decide) ?_
        refine lv_icmp_eq (tgt := 30) hx hb dX0_crash_17 (by decide) (fun h2 => ?_) (fun h2 => ?_)
        · skip
          have e1 : crF f (i + 1) kc acc = crF 8 0 kd 0 := by
            rw [← e1]
            show _ = crF f (i + 1) (upd kc i (-1)) (if kc i = -1 then acc else acc + 1)
            rw [upd_same h2, if_pos h2]
          refine lv_iinc (k := 0) (v := nI (i + 1)) (lv' := [(2, .int (nI (i + 1))), (1, .int acc), (0, .ref (a 0))]) hx hb dX0_crash_30 hl rfl (by rw [show Int32.ofInt 1 = 1 from by decide]; exact nI_1 _) (by decide) rfl (fun ls hl => ?_)
          refine lv_goto (tgt := 4) hx hb dX0_crash_33 (by decide) ?_
          exact ih (i + 1) kc acc H locs (by omega) (by omega) e1 hP hD hS ls (lv_sub hl [0, 1, 2] rfl)
        · skip
          refine lv_aload_n hx hb dX0_crash_20 rfl (lv_at hl 2 rfl) ?_
          refine va_get (D := D) (ci := 0) (v := .ref (a 3)) (C := RX0) (T := TX0) (N := 6) hx hb hts (fun w h => wm (ui_X0 w h)) hown hK hP 0 rfl rfl 3 (by decide) (hts (.fieldLink RX0 20 "LinkedIndex" "slotKinds" "[I") (wm mb_5)) (fun _ h9 => h9) rfl dX0_crash_21 ?_
          refine lv_iload_n hx hb dX0_crash_24 rfl (lv_at hl 0 rfl) ?_
          refine lv_iconst (v := (-1)) hx hb dX0_crash_25 (by decide) ?_
          refine x_iast (j := i) hx hb hK hP hD hS 3 2 rfl rfl (by omega) (by decide) dX0_crash_26 (fun H locs hP hD hS => ?_)
          have hP : va_P D vwCl (wX a k n K V (upd kc i (-1)) SK SV) H := hP
          have hD : va_D A (wX a k n K V (upd kc i (-1)) SK SV) := hD
          have e1 : crF f (i + 1) (upd kc i (-1)) (acc + 1) = crF 8 0 kd 0 := by
            rw [← e1]
            show _ = crF f (i + 1) (upd kc i (-1)) (if kc i = -1 then acc else acc + 1)
            rw [if_neg h2]
          refine lv_iinc (k := 1) (v := acc + 1) (lv' := [(1, .int (acc + 1)), (2, .int (nI i)), (0, .ref (a 0))]) hx hb dX0_crash_27 hl rfl rfl (by decide) rfl (fun ls hl => ?_)
          refine lv_iinc (k := 1) (v := nI (i + 1)) (lv' := [(2, .int (nI (i + 1))), (1, .int (acc + 1)), (0, .ref (a 0))]) hx hb dX0_crash_30 hl rfl (by rw [show Int32.ofInt 1 = 1 from by decide]; exact nI_1 _) (by decide) rfl (fun ls hl => ?_)
          refine lv_goto (tgt := 4) hx hb dX0_crash_33 (by decide) ?_
          exact ih (i + 1) _ _ H locs (by omega) (by omega) e1 hP hD hS ls (lv_sub hl [0, 1, 2] rfl)
  exact loop 8 0 kd 0 s.heap [] rfl (by omega) rfl hP hD hS ls hl
set_option maxHeartbeats 1000000 in
set_option maxRecDepth 100000 in
theorem c_count (l : Launch) (hl9 : l.stackTraces = false) (D : va_G) (a : Nat → Nat) (k : Nat → ClassId) (n : Nat) (K V : Nat → Int64) (kd : Nat → Int32) (SK SV : Nat → Int64) (fr to_ : Int64) (sz : Nat) (hn : n ≤ 100) : Met l yX0_count wsX0_count ({ frames := 1, cells := 0, slots := 0, locals := 23 }) (cP D (tX k) (wX a k n K V kd SK SV) [.ref (a 0), .long fr, .long to_] sz) (cQi D (tX k) (fun v => v = cntS K n fr to_) (wX a k n K V kd SK SV) (va_A (wX a k n K V kd SK SV) sz)) 0 0 (va_A (wX a k n K V kd SK SV) sz) := by
  refine mk_n (cc := cX0_count) (maxL := 7) (ret := (some .int)) (fun A => cQi D (tX k) (fun v => v = cntS K n fr to_) (wX a k n K V kd SK SV) A) (by decide) rfl (Nat.le_of_ble_eq_true rfl) ?_
  intro p e s m below meth c ls A hx hb hr hml hlocks hnm hown hts hP hK hD hZ hA hS hl
  have hown : s.vm.findClass RX0 = some m.cls := hown
  have hl : lv_has ls 7 [(0, .ref (a 0)), (1, .long fr), (3, .long to_)] := hl
  refine lv_iconst (v := 0) hx hb dX0_count_0 (by decide) ?_
  refine lv_istore (lv' := [(5, .int 0), (0, .ref (a 0)), (1, .long fr), (3, .long to_)]) hx hb dX0_count_1 hl (by decide) rfl (fun ls hl => ?_)
  refine lv_aload_n hx hb dX0_count_3 rfl (lv_at hl 1 rfl) ?_
  refine lv_lload_n hx hb dX0_count_4 rfl (lv_at hl 2 rfl) ?_
  refine kn_i (wc := (wX a k n K V kd SK SV)) (wr := []) (w1 := (wX a k n K V kd SK SV)) (va_runV (As := [.long fr]) (rest := []) ⟨hx, hb, hml, hown, hts⟩ (c_placeOf l hl9 D a k n K V kd SK SV fr s.heap.size hn) (cwV 1 hts (gd_up (gd_V mb_27 mb_28 mb_29 mb_12 mb_30)) rfl rfl rfl (by decide +kernel) ⟨by decide, by decide⟩) ⟨cP_blind, va_recv (q0 := 0) (ci := 0) (q := (RX0, TX0, 6)) hK hP rfl rfl, cPre hP hD hK hS hA hZ [0, 1, 2, 3, 4, 5] rfl (by decide) [0, 1, 2, 3, 4] rfl⟩ rfl rfl hl.1 rfl (lv_room (Nat.le_of_ble_eq_true rfl)) dX0_count_5 ⟨by decide, by decide⟩) hP hD hS hA [0, 1, 2, 3, 4, 5] [] rfl rfl (by decide) (by decide) (fun r9 H locs hp hP hD hS => ?_)
  have hP : va_P D vwCl (wX a k n K V kd SK SV) H := hP
  have hD : va_D A (wX a k n K V kd SK SV) := hD
  have hle := rk_le K fr n
  subst hp
  refine lv_istore (lv' := [(6, .int (nI (rk K fr n))), (5, .int 0), (0, .ref (a 0)), (1, .long fr), (3, .long to_)]) hx hb dX0_count_8 hl (by decide) rfl (fun ls hl => ?_)
  have loop : ∀ (f i : Nat) (acc : Int32), n - i < f → i ≤ n → cC (fun x y : Int32 => x + y) (fun _ => 1) K to_ (n - i) i acc = cntS K n fr to_ → ∀ ls : Array Slot, lv_has ls 7 [(6, .int (nI i)), (5, .int acc), (0, .ref (a 0)), (1, .long fr), (3, .long to_)] → W p l e ({ frames := 1, cells := 0, slots := 0, locals := 23 }) s m ([.ref (a 0), .long fr, .long to_] : List Value).toArray below meth c H locs (0 + 0) (0 + 0) (MQ below (cQi D (tX k) (fun v => v = cntS K n fr to_) (wX a k n K V kd SK SV) A) ([.ref (a 0), .long fr, .long to_] : List Value).toArray s 0 0 A) (F0 m 10 ls []) := by
    intro f
    induction f with
    | zero => intro i acc hf; omega
    | succ f ih =>
      intro i acc hf hi hk ls hl
      refine lv_iload hx hb dX0_count_10 (lv_at hl 0 rfl) ?_
      refine lv_aload_n hx hb dX0_count_12 rfl (lv_at hl 2 rfl) ?_
      refine va_get (D := D) (ci := 0) (v := .int (nI n)) (C := RX0) (T := TX0) (N := 6) hx hb hts (fun w h => wm (ui_X0 w h)) hown hK hP 0 rfl rfl 2 (by decide) (hts (.fieldLink RX0 16 "LinkedIndex" "keyCount" "I") (wm mb_2)) (fun _ h9 => h9) rfl dX0_count_13 ?_
      refine lv_icmp_ge (tgt := 40) hx hb dX0_count_16 (by decide) (fun h1 => ?_) (fun h1 => ?_)
      · skip
        have h1 : n ≤ i := (nI_leI (by omega) (by omega)).mp h1
        refine lv_iload hx hb dX0_count_40 (lv_at hl 1 rfl) ?_
        exact fn_i hx hb hr hlocks (by decide) (by decide) (by rw [← hk, show n - i = 0 by omega]; rfl) hP hK hD hS dX0_count_42
      · skip
        have h1 : i < n := Nat.lt_of_not_le (fun q => h1 ((nI_leI (by omega) (by omega)).mpr q))
        refine lv_aload_n hx hb dX0_count_19 rfl (lv_at hl 2 rfl) ?_
        refine va_get (D := D) (ci := 0) (v := .ref (a 1)) (C := RX0) (T := TX0) (N := 6) hx hb hts (fun w h => wm (ui_X0 w h)) hown hK hP 0 rfl rfl 0 (by decide) (hts (.fieldLink RX0 9 "LinkedIndex" "keys" "[J") (wm mb_8)) (fun _ h9 => h9) rfl dX0_count_20 ?_
        refine lv_iload hx hb dX0_count_23 (lv_at hl 0 rfl) ?_
        refine x_lald (j := i) hx hb hK hP 1 0 rfl rfl (by omega) (by decide) dX0_count_25 ?_
        refine lv_lload_n hx hb dX0_count_26 rfl (lv_at hl 4 rfl) ?_
        refine W.lcmp hx hb dX0_count_27 ?_
        refine lv_if_gt (tgt := 40) hx hb dX0_count_28 (by decide) (fun h2 => ?_) (fun h2 => ?_)
        · skip
          have h2 : ¬ K i ≤ to_ := fun q => i64_nltle ((lg_cmp_gt _ _).mp h2) q
          refine lv_iload hx hb dX0_count_40 (lv_at hl 1 rfl) ?_
          exact fn_i hx hb hr hlocks (by decide) (by decide) (by rw [← hk, show n - i = (n - (i + 1)) + 1 by omega]; show acc = if K i ≤ to_ then _ else acc; rw [if_neg h2]) hP hK hD hS dX0_count_42
        · skip
          have h2 : K i ≤ to_ := i64_nlt (fun q => h2 ((lg_cmp_gt _ _).mpr q))
          have hk : cC (fun x y : Int32 => x + y) (fun _ => 1) K to_ (n - (i + 1)) (i + 1) (acc + 1) = cntS K n fr to_ := by
            rw [← hk, show n - i = (n - (i + 1)) + 1 by omega]
            show _ = if K i ≤ to_ then _ else acc
            rw [if_pos h2]
          refine lv_iinc (k := 1) (v := acc + 1) (lv' := [(5, .int (acc + 1)), (6, .int (nI i)), (0, .ref (a 0)), (1, .long fr), (3, .long to_)]) hx hb dX0_count_31 hl rfl rfl (by decide) rfl (fun ls hl => ?_)
          refine lv_iinc (k := 1) (v := nI (i + 1)) (lv' := [(6, .int (nI (i + 1))), (5, .int (acc + 1)), (0, .ref (a 0)), (1, .long fr), (3, .long to_)]) hx hb dX0_count_34 hl rfl (by rw [show Int32.ofInt 1 = 1 from by decide]; exact nI_1 _) (by decide) rfl (fun ls hl => ?_)
          refine lv_goto (tgt := 10) hx hb dX0_count_37 (by decide) ?_
          exact ih (i + 1) _ (by omega) (by omega) hk ls (lv_sub hl [0, 1, 2, 3, 4] rfl)
  exact loop (n + 1) _ _ (by omega) hle rfl ls hl
set_option maxHeartbeats 1000000 in
set_option maxRecDepth 100000 in
theorem c_sum (l : Launch) (hl9 : l.stackTraces = false) (D : va_G) (a : Nat → Nat) (k : Nat → ClassId) (n : Nat) (K V : Nat → Int64) (kd : Nat → Int32) (SK SV : Nat → Int64) (fr to_ : Int64) (sz : Nat) (hn : n ≤ 100) : Met l yX0_sum wsX0_sum ({ frames := 1, cells := 0, slots := 0, locals := 23 }) (cP D (tX k) (wX a k n K V kd SK SV) [.ref (a 0), .long fr, .long to_] sz) (cQl D (tX k) (fun v => v = sumS K V n fr to_) (wX a k n K V kd SK SV) (va_A (wX a k n K V kd SK SV) sz)) 0 0 (va_A (wX a k n K V kd SK SV) sz) := by
  refine mk_n (cc := cX0_sum) (maxL := 8) (ret := (some .long)) (fun A => cQl D (tX k) (fun v => v = sumS K V n fr to_) (wX a k n K V kd SK SV) A) (by decide) rfl (Nat.le_of_ble_eq_true rfl) ?_
  intro p e s m below meth c ls A hx hb hr hml hlocks hnm hown hts hP hK hD hZ hA hS hl
  have hown : s.vm.findClass RX0 = some m.cls := hown
  have hl : lv_has ls 8 [(0, .ref (a 0)), (1, .long fr), (3, .long to_)] := hl
  refine lv_lconst (v := 0) hx hb dX0_sum_0 (by decide) ?_
  refine lv_lstore (lv' := [(5, .long 0), (0, .ref (a 0)), (1, .long fr), (3, .long to_)]) hx hb dX0_sum_1 hl (by decide) rfl (fun ls hl => ?_)
  refine lv_aload_n hx hb dX0_sum_3 rfl (lv_at hl 1 rfl) ?_
  refine lv_lload_n hx hb dX0_sum_4 rfl (lv_at hl 2 rfl) ?_
  refine kn_i (wc := (wX a k n K V kd SK SV)) (wr := []) (w1 := (wX a k n K V kd SK SV)) (va_runV (As := [.long fr]) (rest := []) ⟨hx, hb, hml, hown, hts⟩ (c_placeOf l hl9 D a k n K V kd SK SV fr s.heap.size hn) (cwV 1 hts (gd_up (gd_V mb_27 mb_28 mb_29 mb_12 mb_30)) rfl rfl rfl (by decide +kernel) ⟨by decide, by decide⟩) ⟨cP_blind, va_recv (q0 := 0) (ci := 0) (q := (RX0, TX0, 6)) hK hP rfl rfl, cPre hP hD hK hS hA hZ [0, 1, 2, 3, 4, 5] rfl (by decide) [0, 1, 2, 3, 4] rfl⟩ rfl rfl hl.1 rfl (lv_room (Nat.le_of_ble_eq_true rfl)) dX0_sum_5 ⟨by decide, by decide⟩) hP hD hS hA [0, 1, 2, 3, 4, 5] [] rfl rfl (by decide) (by decide) (fun r9 H locs hp hP hD hS => ?_)
  have hP : va_P D vwCl (wX a k n K V kd SK SV) H := hP
  have hD : va_D A (wX a k n K V kd SK SV) := hD
  have hle := rk_le K fr n
  subst hp
  refine lv_istore (lv' := [(7, .int (nI (rk K fr n))), (5, .long 0), (0, .ref (a 0)), (1, .long fr), (3, .long to_)]) hx hb dX0_sum_8 hl (by decide) rfl (fun ls hl => ?_)
  have loop : ∀ (f i : Nat) (acc : Int64), n - i < f → i ≤ n → cC (fun x y : Int64 => x + y) V K to_ (n - i) i acc = sumS K V n fr to_ → ∀ ls : Array Slot, lv_has ls 8 [(7, .int (nI i)), (5, .long acc), (0, .ref (a 0)), (1, .long fr), (3, .long to_)] → W p l e ({ frames := 1, cells := 0, slots := 0, locals := 23 }) s m ([.ref (a 0), .long fr, .long to_] : List Value).toArray below meth c H locs (0 + 0) (0 + 0) (MQ below (cQl D (tX k) (fun v => v = sumS K V n fr to_) (wX a k n K V kd SK SV) A) ([.ref (a 0), .long fr, .long to_] : List Value).toArray s 0 0 A) (F0 m 10 ls []) := by
    intro f
    induction f with
    | zero => intro i acc hf; omega
    | succ f ih =>
      intro i acc hf hi hk ls hl
      refine lv_iload hx hb dX0_sum_10 (lv_at hl 0 rfl) ?_
      refine lv_aload_n hx hb dX0_sum_12 rfl (lv_at hl 2 rfl) ?_
      refine va_get (D := D) (ci := 0) (v := .int (nI n)) (C := RX0) (T := TX0) (N := 6) hx hb hts (fun w h => wm (ui_X0 w h)) hown hK hP 0 rfl rfl 2 (by decide) (hts (.fieldLink RX0 16 "LinkedIndex" "keyCount" "I") (wm mb_2)) (fun _ h9 => h9) rfl dX0_sum_13 ?_
      refine lv_icmp_ge (tgt := 49) hx hb dX0_sum_16 (by decide) (fun h1 => ?_) (fun h1 => ?_)
      · skip
        have h1 : n ≤ i := (nI_leI (by omega) (by omega)).mp h1
        refine lv_lload hx hb dX0_sum_49 (lv_at hl 1 rfl) ?_
        exact fn_l hx hb hr hlocks (by decide) (by decide) (by rw [← hk, show n - i = 0 by omega]; rfl) hP hK hD hS dX0_sum_51
      · skip
        have h1 : i < n := Nat.lt_of_not_le (fun q => h1 ((nI_leI (by omega) (by omega)).mpr q))
        refine lv_aload_n hx hb dX0_sum_19 rfl (lv_at hl 2 rfl) ?_
        refine va_get (D := D) (ci := 0) (v := .ref (a 1)) (C := RX0) (T := TX0) (N := 6) hx hb hts (fun w h => wm (ui_X0 w h)) hown hK hP 0 rfl rfl 0 (by decide) (hts (.fieldLink RX0 9 "LinkedIndex" "keys" "[J") (wm mb_8)) (fun _ h9 => h9) rfl dX0_sum_20 ?_
        refine lv_iload hx hb dX0_sum_23 (lv_at hl 0 rfl) ?_
        refine x_lald (j := i) hx hb hK hP 1 0 rfl rfl (by omega) (by decide) dX0_sum_25 ?_
        refine lv_lload_n hx hb dX0_sum_26 rfl (lv_at hl 4 rfl) ?_
        refine W.lcmp hx hb dX0_sum_27 ?_
        refine lv_if_gt (tgt := 49) hx hb dX0_sum_28 (by decide) (fun h2 => ?_) (fun h2 => ?_)
        · skip
          have h2 : ¬ K i ≤ to_ := fun q => i64_nltle ((lg_cmp_gt _ _).mp h2) q
          refine lv_lload hx hb dX0_sum_49 (lv_at hl 1 rfl) ?_
          exact fn_l hx hb hr hlocks (by decide) (by decide) (by rw [← hk, show n - i = (n - (i + 1)) + 1 by omega]; show acc = if K i ≤ to_ then _ else acc; rw [if_neg h2]) hP hK hD hS dX0_sum_51
        · skip
          have h2 : K i ≤ to_ := i64_nlt (fun q => h2 ((lg_cmp_gt _ _).mpr q))
          have hk : cC (fun x y : Int64 => x + y) V K to_ (n - (i + 1)) (i + 1) (acc + V i) = sumS K V n fr to_ := by
            rw [← hk, show n - i = (n - (i + 1)) + 1 by omega]
            show _ = if K i ≤ to_ then _ else acc
            rw [if_pos h2]
          refine lv_lload hx hb dX0_sum_31 (lv_at hl 1 rfl) ?_
          refine lv_aload_n hx hb dX0_sum_33 rfl (lv_at hl 2 rfl) ?_
          refine va_get (D := D) (ci := 0) (v := .ref (a 2)) (C := RX0) (T := TX0) (N := 6) hx hb hts (fun w h => wm (ui_X0 w h)) hown hK hP 0 rfl rfl 1 (by decide) (hts (.fieldLink RX0 13 "LinkedIndex" "values" "[J") (wm mb_9)) (fun _ h9 => h9) rfl dX0_sum_34 ?_
          refine lv_iload hx hb dX0_sum_37 (lv_at hl 0 rfl) ?_
          refine x_lald (j := i) hx hb hK hP 2 1 rfl rfl (by omega) (by decide) dX0_sum_39 ?_
          refine lv_ladd hx hb dX0_sum_40 ?_
          refine lv_lstore (lv' := [(5, .long (acc + (V i))), (7, .int (nI i)), (0, .ref (a 0)), (1, .long fr), (3, .long to_)]) hx hb dX0_sum_41 hl (by decide) rfl (fun ls hl => ?_)
          refine lv_iinc (k := 1) (v := nI (i + 1)) (lv' := [(7, .int (nI (i + 1))), (5, .long (acc + (V i))), (0, .ref (a 0)), (1, .long fr), (3, .long to_)]) hx hb dX0_sum_43 hl rfl (by rw [show Int32.ofInt 1 = 1 from by decide]; exact nI_1 _) (by decide) rfl (fun ls hl => ?_)
          refine lv_goto (tgt := 10) hx hb dX0_sum_46 (by decide) ?_
          exact ih (i + 1) _ (by omega) (by omega) hk ls (lv_sub hl [0, 1, 2, 3, 4] rfl)
  exact loop (n + 1) _ _ (by omega) hle rfl ls hl
