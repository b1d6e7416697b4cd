set_option maxHeartbeats 1000000 in
set_option maxRecDepth 100000 in
theorem c_finishPut (l : Launch) (hl9 : l.stackTraces = false) (D : va_G) (a : Nat → Nat) (k : Nat → ClassId) (n : Nat) (K V : Nat → Int64) (kd : Nat → Int32) (SK SV : Nat → Int64) (j r : Nat) (sz : Nat) (hj : j < 8) (hr9 : r ≤ n) (hn : n ≤ 100) : vx_Met l yX0_finishPut wsX0_finishPut ({ frames := 6, cells := 1, slots := 6, locals := 82 }) (cP D (tX k) (wX a k n K V kd SK SV) [.ref (a 0), .int (nI j), .int (nI r)] sz) (cQl D (tX k) (fun v => (atR K n (SK j) r ∨ n < 100) ∧ v = (if atR K n (SK j) r then 1 else 0)) (wX a k (fpN n K (SK j) r) (fpK n K (SK j) r) (fpV n K V (SK j) (SV j) r) (upd kd j (-1)) SK SV) (va_A (wX a k n K V kd SK SV) sz)) (cX D (tX k) (fun E => E = "java/lang/IllegalStateException" ∧ ¬ atR K n (SK j) r ∧ 100 ≤ n) (wX a k n K V kd SK SV) (va_A (wX a k n K V kd SK SV) sz)) 1 6 (va_A (wX a k n K V kd SK SV) sz) := by
  refine mk_x (cc := cX0_finishPut) (maxL := 4) (ret := (some .long)) (fun A => cQl D (tX k) (fun v => (atR K n (SK j) r ∨ n < 100) ∧ v = (if atR K n (SK j) r then 1 else 0)) (wX a k (fpN n K (SK j) r) (fpK n K (SK j) r) (fpV n K V (SK j) (SV j) r) (upd kd j (-1)) SK SV) A) (fun A => cX D (tX k) (fun E => E = "java/lang/IllegalStateException" ∧ ¬ atR K n (SK j) r ∧ 100 ≤ n) (wX a k n K V kd SK SV) A) (by decide) rfl (Nat.le_of_ble_eq_true rfl) ?_
  intro p e s m below meth c ls A hx hb hr hml ht9 hlocks hnm hown hts hP hK hD hZ hA hS hl
  have hown : s.vm.findClass RX0 = some m.cls := hown
  have hl : lv_has ls 4 [(0, .ref (a 0)), (1, .int (nI j)), (2, .int (nI r))] := hl
  refine lv_aload_n hx hb dX0_finishPut_0 rfl (lv_at hl 0 rfl) ?_
  refine lv_iload_n hx hb dX0_finishPut_1 rfl (lv_at hl 2 rfl) ?_
  refine lv_aload_n hx hb dX0_finishPut_2 rfl (lv_at hl 0 rfl) ?_
  refine va_get (D := D) (ci := 0) (v := .ref (a 4)) (C := RX0) (T := TX0) (N := 6) hx hb hts (fun w h => wm (ui_X0 w h)) hown hK hP 0 rfl rfl 4 (by decide) (hts (.fieldLink RX0 24 "LinkedIndex" "slotKeys" "[J") (wm mb_14)) (fun _ h9 => h9) rfl dX0_finishPut_3 ?_
  refine lv_iload_n hx hb dX0_finishPut_6 rfl (lv_at hl 1 rfl) ?_
  refine x_lald (j := j) hx hb hK hP 4 3 rfl rfl (by omega) (by decide) dX0_finishPut_7 ?_
  refine kn_i (wc := (wX a k n K V kd SK SV)) (wr := []) (w1 := (wX a k n K V kd SK SV)) (va_runV (As := [.int (nI r), .long (SK j)]) (rest := []) ⟨hx, hb, hml, hown, hts⟩ (c_isAt l hl9 D a k n K V kd SK SV r (SK j) s.heap.size (by omega) hn) (cwV 2 hts (gd_up (gd_V mb_31 mb_32 mb_33 mb_12 mb_34)) rfl rfl rfl (by decide +kernel) ⟨by decide, by decide⟩) ⟨cP_blind, va_recv (q0 := 0) (ci := 0) (q := (RX0, TX0, 6)) hK hP rfl rfl, cPre hP hD hK hS hA hZ [0, 1, 2, 3, 4, 5] rfl (by decide) [0, 1, 2, 3, 4] rfl⟩ rfl rfl hl.1 rfl (lv_room (Nat.le_of_ble_eq_true rfl)) dX0_finishPut_8 ⟨by decide, by decide⟩) hP hD hS hA [0, 1, 2, 3, 4, 5] [] rfl rfl (by decide) (by decide) (fun r9 H locs hp hP hD hS => ?_)
  have hP : va_P D vwCl (wX a k n K V kd SK SV) H := hP
  have hD : va_D A (wX a k n K V kd SK SV) := hD
  by_cases h4 : atR K n (SK j) r
  · skip
    rw [if_pos h4] at hp
    subst hp
    refine lv_istore_n (lv' := [(3, .int 1), (0, .ref (a 0)), (1, .int (nI j)), (2, .int (nI r))]) hx hb dX0_finishPut_11 rfl hl (by decide) rfl (fun ls hl => ?_)
    refine lv_iload_n hx hb dX0_finishPut_12 rfl (lv_at hl 0 rfl) ?_
    refine lv_if_ne (tgt := 52) hx hb dX0_finishPut_13 (by decide) (fun h1 => ?_) (fun h1 => ?_)
    · skip
      refine lv_aload_n hx hb dX0_finishPut_52 rfl (lv_at hl 1 rfl) ?_
      refine va_get (D := D) (ci := 0) (v := .ref (a 2)) (C := RX0) (T := TX0) (N := 6) hx hb hts (fun w h => wm (ui_X0 w h)) hown hK hP 0 rfl rfl 1 (by decide) (hts (.fieldLink RX0 13 "LinkedIndex" "values" "[J") (wm mb_9)) (fun _ h9 => h9) rfl dX0_finishPut_53 ?_
      refine lv_iload_n hx hb dX0_finishPut_56 rfl (lv_at hl 3 rfl) ?_
      refine lv_aload_n hx hb dX0_finishPut_57 rfl (lv_at hl 1 rfl) ?_
      refine va_get (D := D) (ci := 0) (v := .ref (a 5)) (C := RX0) (T := TX0) (N := 6) hx hb hts (fun w h => wm (ui_X0 w h)) hown hK hP 0 rfl rfl 5 (by decide) (hts (.fieldLink RX0 27 "LinkedIndex" "slotValues" "[J") (wm mb_15)) (fun _ h9 => h9) rfl dX0_finishPut_58 ?_
      refine lv_iload_n hx hb dX0_finishPut_61 rfl (lv_at hl 2 rfl) ?_
      refine x_lald (j := j) hx hb hK hP 5 4 rfl rfl (by omega) (by decide) dX0_finishPut_62 ?_
      refine x_last (j := r) hx hb hK hP hD hS 2 1 rfl rfl (by omega) (by decide) dX0_finishPut_63 (fun H locs hP hD hS => ?_)
      have hP : va_P D vwCl (wX a k n K (vp_updL V r (SV j)) kd SK SV) H := hP
      have hD : va_D A (wX a k n K (vp_updL V r (SV j)) kd SK SV) := hD
      refine lv_aload_n hx hb dX0_finishPut_64 rfl (lv_at hl 1 rfl) ?_
      refine va_get (D := D) (ci := 0) (v := .ref (a 3)) (C := RX0) (T := TX0) (N := 6) hx hb hts (fun w h => wm (ui_X0 w h)) hown hK hP 0 rfl rfl 3 (by decide) (hts (.fieldLink RX0 20 "LinkedIndex" "slotKinds" "[I") (wm mb_5)) (fun _ h9 => h9) rfl dX0_finishPut_65 ?_
      refine lv_iload_n hx hb dX0_finishPut_68 rfl (lv_at hl 2 rfl) ?_
      refine lv_iconst (v := (-1)) hx hb dX0_finishPut_69 (by decide) ?_
      refine x_iast (j := j) hx hb hK hP hD hS 3 2 rfl rfl (by omega) (by decide) dX0_finishPut_70 (fun H locs hP hD hS => ?_)
      have hP : va_P D vwCl (wX a k n K (vp_updL V r (SV j)) (upd kd j (-1)) SK SV) H := hP
      have hD : va_D A (wX a k n K (vp_updL V r (SV j)) (upd kd j (-1)) SK SV) := hD
      refine lv_iload_n hx hb dX0_finishPut_71 rfl (lv_at hl 0 rfl) ?_
      refine lv_if_eq (tgt := 79) hx hb dX0_finishPut_72 (by decide) (fun h2 => ?_) (fun h2 => ?_)
      · skip
        exact absurd h2 (by decide)
      · skip
        refine lv_lconst (v := 1) hx hb dX0_finishPut_75 (by decide) ?_
        refine lv_goto (tgt := 80) hx hb dX0_finishPut_76 (by decide) ?_
        have e1 : fpN n K (SK j) r = n := if_pos h4
        have e2 : fpK n K (SK j) r = K := if_pos h4
        have e3 : fpV n K V (SK j) (SV j) r = vp_updL V r (SV j) := by unfold fpV; rw [if_pos h4]
        rw [e1, e2, e3, if_pos h4]
        exact fx_l hx hb hr hlocks (by decide) (by decide) ⟨Or.inl h4, by rfl⟩ hP hK hD hS dX0_finishPut_80
    · skip
      exact absurd h1 (by decide)
  · skip
    rw [if_neg h4] at hp
    subst hp
    refine lv_istore_n (lv' := [(3, .int 0), (0, .ref (a 0)), (1, .int (nI j)), (2, .int (nI r))]) hx hb dX0_finishPut_11 rfl hl (by decide) rfl (fun ls hl => ?_)
    refine lv_iload_n hx hb dX0_finishPut_12 rfl (lv_at hl 0 rfl) ?_
    refine lv_if_ne (tgt := 52) hx hb dX0_finishPut_13 (by decide) (fun h1 => ?_) (fun h1 => ?_)
    · skip
      exact absurd rfl h1
    · skip
      refine lv_aload_n hx hb dX0_finishPut_16 rfl (lv_at hl 1 rfl) ?_
      refine va_get (D := D) (ci := 0) (v := .int (nI n)) (C := RX0) (T := TX0) (N := 6) hx hb hts (fun w h => wm (ui_X0 w h)) hown hK hP 0 rfl rfl 2 (by decide) (hts (.fieldLink RX0 16 "LinkedIndex" "keyCount" "I") (wm mb_2)) (fun _ h9 => h9) rfl dX0_finishPut_17 ?_
      refine lv_bipush (v := 100) hx hb dX0_finishPut_20 (by decide) ?_
      refine lv_icmp_lt (tgt := 35) hx hb dX0_finishPut_22 (by decide) (fun h5 => ?_) (fun h5 => ?_)
      · skip
        have h5 : n < 100 := (nI_ltI (a := n) (b := 100) (by omega) (by decide)).mp h5
        refine lv_aload_n hx hb dX0_finishPut_35 rfl (lv_at hl 1 rfl) ?_
        refine lv_iload_n hx hb dX0_finishPut_36 rfl (lv_at hl 3 rfl) ?_
        refine kn_v (wc := (wX a k n K V kd SK SV)) (wr := []) (w1 := (wX a k (n + 1) (opF r (n - r) K) (opF r (n - r) V) kd SK SV)) (va_runV (As := [.int (nI r)]) (rest := []) ⟨hx, hb, hml, hown, hts⟩ (c_openGap l hl9 D a k n K V kd SK SV r H.size hr9 h5) (cwV 1 hts (gd_up (gd_V mb_35 mb_36 mb_37 mb_12 mb_38)) rfl rfl rfl (by decide +kernel) ⟨by decide, by decide⟩) ⟨cP_blind, va_recv (q0 := 0) (ci := 0) (q := (RX0, TX0, 6)) hK hP rfl rfl, cPre hP hD hK hS hA hZ [0, 1, 2, 3, 4, 5] rfl (by decide) [0, 1, 2, 3, 4] rfl⟩ rfl rfl hl.1 rfl (lv_room (Nat.le_of_ble_eq_true rfl)) dX0_finishPut_37 ⟨by decide, by decide⟩) hP hD hS hA [0, 1, 2, 3, 4, 5] [] rfl rfl (by decide) (by decide) (fun H locs hp hP hD hS => ?_)
        have hP : va_P D vwCl (wX a k (n + 1) (opF r (n - r) K) (opF r (n - r) V) kd SK SV) H := hP
        have hD : va_D A (wX a k (n + 1) (opF r (n - r) K) (opF r (n - r) V) kd SK SV) := hD
        refine lv_aload_n hx hb dX0_finishPut_40 rfl (lv_at hl 1 rfl) ?_
        refine va_get (D := D) (ci := 0) (v := .ref (a 1)) (C := RX0) (T := TX0) (N := 6) hx hb hts (fun w h => wm (ui_X0 w h)) hown hK hP 0 rfl rfl 0 (by decide) (hts (.fieldLink RX0 9 "LinkedIndex" "keys" "[J") (wm mb_8)) (fun _ h9 => h9) rfl dX0_finishPut_41 ?_
        refine lv_iload_n hx hb dX0_finishPut_44 rfl (lv_at hl 3 rfl) ?_
        refine lv_aload_n hx hb dX0_finishPut_45 rfl (lv_at hl 1 rfl) ?_
        refine va_get (D := D) (ci := 0) (v := .ref (a 4)) (C := RX0) (T := TX0) (N := 6) hx hb hts (fun w h => wm (ui_X0 w h)) hown hK hP 0 rfl rfl 4 (by decide) (hts (.fieldLink RX0 24 "LinkedIndex" "slotKeys" "[J") (wm mb_14)) (fun _ h9 => h9) rfl dX0_finishPut_46 ?_
        refine lv_iload_n hx hb dX0_finishPut_49 rfl (lv_at hl 2 rfl) ?_
        refine x_lald (j := j) hx hb hK hP 4 3 rfl rfl (by omega) (by decide) dX0_finishPut_50 ?_
        refine x_last (j := r) hx hb hK hP hD hS 1 0 rfl rfl (by omega) (by decide) dX0_finishPut_51 (fun H locs hP hD hS => ?_)
        have hP : va_P D vwCl (wX a k (n + 1) (vp_updL (opF r (n - r) K) r (SK j)) (opF r (n - r) V) kd SK SV) H := hP
        have hD : va_D A (wX a k (n + 1) (vp_updL (opF r (n - r) K) r (SK j)) (opF r (n - r) V) kd SK SV) := hD
        refine lv_aload_n hx hb dX0_finishPut_52 rfl (lv_at hl 1 rfl) ?_
        refine va_get (D := D) (ci := 0) (v := .ref (a 2)) (C := RX0) (T := TX0) (N := 6) hx hb hts (fun w h => wm (ui_X0 w h)) hown hK hP 0 rfl rfl 1 (by decide) (hts (.fieldLink RX0 13 "LinkedIndex" "values" "[J") (wm mb_9)) (fun _ h9 => h9) rfl dX0_finishPut_53 ?_
        refine lv_iload_n hx hb dX0_finishPut_56 rfl (lv_at hl 3 rfl) ?_
        refine lv_aload_n hx hb dX0_finishPut_57 rfl (lv_at hl 1 rfl) ?_
        refine va_get (D := D) (ci := 0) (v := .ref (a 5)) (C := RX0) (T := TX0) (N := 6) hx hb hts (fun w h => wm (ui_X0 w h)) hown hK hP 0 rfl rfl 5 (by decide) (hts (.fieldLink RX0 27 "LinkedIndex" "slotValues" "[J") (wm mb_15)) (fun _ h9 => h9) rfl dX0_finishPut_58 ?_
        refine lv_iload_n hx hb dX0_finishPut_61 rfl (lv_at hl 2 rfl) ?_
        refine x_lald (j := j) hx hb hK hP 5 4 rfl rfl (by omega) (by decide) dX0_finishPut_62 ?_
        refine x_last (j := r) hx hb hK hP hD hS 2 1 rfl rfl (by omega) (by decide) dX0_finishPut_63 (fun H locs hP hD hS => ?_)
        have hP : va_P D vwCl (wX a k (n + 1) (vp_updL (opF r (n - r) K) r (SK j)) (vp_updL (opF r (n - r) V) r (SV j)) kd SK SV) H := hP
        have hD : va_D A (wX a k (n + 1) (vp_updL (opF r (n - r) K) r (SK j)) (vp_updL (opF r (n - r) V) r (SV j)) kd SK SV) := hD
        refine lv_aload_n hx hb dX0_finishPut_64 rfl (lv_at hl 1 rfl) ?_
        refine va_get (D := D) (ci := 0) (v := .ref (a 3)) (C := RX0) (T := TX0) (N := 6) hx hb hts (fun w h => wm (ui_X0 w h)) hown hK hP 0 rfl rfl 3 (by decide) (hts (.fieldLink RX0 20 "LinkedIndex" "slotKinds" "[I") (wm mb_5)) (fun _ h9 => h9) rfl dX0_finishPut_65 ?_
        refine lv_iload_n hx hb dX0_finishPut_68 rfl (lv_at hl 2 rfl) ?_
        refine lv_iconst (v := (-1)) hx hb dX0_finishPut_69 (by decide) ?_
        refine x_iast (j := j) hx hb hK hP hD hS 3 2 rfl rfl (by omega) (by decide) dX0_finishPut_70 (fun H locs hP hD hS => ?_)
        have hP : va_P D vwCl (wX a k (n + 1) (vp_updL (opF r (n - r) K) r (SK j)) (vp_updL (opF r (n - r) V) r (SV j)) (upd kd j (-1)) SK SV) H := hP
        have hD : va_D A (wX a k (n + 1) (vp_updL (opF r (n - r) K) r (SK j)) (vp_updL (opF r (n - r) V) r (SV j)) (upd kd j (-1)) SK SV) := hD
        refine lv_iload_n hx hb dX0_finishPut_71 rfl (lv_at hl 0 rfl) ?_
        refine lv_if_eq (tgt := 79) hx hb dX0_finishPut_72 (by decide) (fun h2 => ?_) (fun h2 => ?_)
        · skip
          refine lv_lconst (v := 0) hx hb dX0_finishPut_79 (by decide) ?_
          have e1 : fpN n K (SK j) r = n + 1 := if_neg h4
          have e2 : fpK n K (SK j) r = vp_updL (opF r (n - r) K) r (SK j) := if_neg h4
          have e3 : fpV n K V (SK j) (SV j) r = vp_updL (opF r (n - r) V) r (SV j) := by unfold fpV; rw [if_neg h4]
          rw [e1, e2, e3, if_neg h4]
          exact fx_l hx hb hr hlocks (by decide) (by decide) ⟨Or.inr h5, by rfl⟩ hP hK hD hS dX0_finishPut_80
        · skip
          exact absurd rfl h2
      · skip
        have h5 : 100 ≤ n := Nat.le_of_not_lt (fun q => h5 ((nI_ltI (a := n) (b := 100) (by omega) (by decide)).mpr q))
        exact fx_throw (cls := "java/lang/IllegalStateException") (text := "there are 100 keys") (ic := 45) hx hb hl9 hown (by decide +kernel) (hts (.classLink RX0 41 "java/lang/IllegalStateException") (wm mb_6)) (hts (.initialized "java/lang/IllegalStateException") (wm mb_7)) (by decide) (hat_45 hts hZ.2.2) hgd_45 hZ hS (hl.1.trans hml.symm) dX0_finishPut_25 dX0_finishPut_28 dX0_finishPut_29 dX0_finishPut_31 dX0_finishPut_34 ht9 (by decide) (by decide) (by decide) (by decide) hlocks (by decide) (by decide) ⟨rfl, h4, h5⟩ hP hK hD
set_option maxHeartbeats 1000000 in
set_option maxRecDepth 100000 in
theorem c_finish (l : Launch) (hl9 : l.stackTraces = false) (D : va_G) (a : Nat → Nat) (k : Nat → ClassId) (n : Nat) (K V : Nat → Int64) (kd : Nat → Int32) (SK SV : Nat → Int64) (slot : Int32) (sz : Nat) (hn : n ≤ 100) : vx_Met l yX0_finish wsX0_finish ({ frames := 7, cells := 1, slots := 6, locals := 105 }) (cP D (tX k) (wX a k n K V kd SK SV) [.ref (a 0), .int slot] sz) (cQl D (tX k) (fun v => (fin n K V kd SK SV slot).1 = 0 ∧ v = (fin n K V kd SK SV slot).2.1) (wX a k (fin n K V kd SK SV slot).2.2.1 (fin n K V kd SK SV slot).2.2.2.1 (fin n K V kd SK SV slot).2.2.2.2.1 (fin n K V kd SK SV slot).2.2.2.2.2 SK SV) (va_A (wX a k n K V kd SK SV) sz)) (cX D (tX k) (tcE (fin n K V kd SK SV slot).1) (wX a k (fin n K V kd SK SV slot).2.2.1 (fin n K V kd SK SV slot).2.2.2.1 (fin n K V kd SK SV slot).2.2.2.2.1 (fin n K V kd SK SV slot).2.2.2.2.2 SK SV) (va_A (wX a k n K V kd SK SV) sz)) 1 6 (va_A (wX a k n K V kd SK SV) sz) := by
  refine mk_x (cc := cX0_finish) (maxL := 7) (ret := (some .long)) (fun A => cQl D (tX k) (fun v => (fin n K V kd SK SV slot).1 = 0 ∧ v = (fin n K V kd SK SV slot).2.1) (wX a k (fin n K V kd SK SV slot).2.2.1 (fin n K V kd SK SV slot).2.2.2.1 (fin n K V kd SK SV slot).2.2.2.2.1 (fin n K V kd SK SV slot).2.2.2.2.2 SK SV) A) (fun A => cX D (tX k) (tcE (fin n K V kd SK SV slot).1) (wX a k (fin n K V kd SK SV slot).2.2.1 (fin n K V kd SK SV slot).2.2.2.1 (fin n K V kd SK SV slot).2.2.2.2.1 (fin n K V kd SK SV slot).2.2.2.2.2 SK SV) A) (by decide) rfl (Nat.le_of_ble_eq_true rfl) ?_
  intro p e s m below meth c ls A hx hb hr hml ht9 hlocks hnm hown hts hP hK hD hZ hA hS hl
  have hown : s.vm.findClass RX0 = some m.cls := hown
  have hl : lv_has ls 7 [(0, .ref (a 0)), (1, .int slot)] := hl
  refine lv_iload_n hx hb dX0_finish_0 rfl (lv_at hl 1 rfl) ?_
  by_cases hs : okS slot
  · skip
    refine kn_v (wc := []) (wr := (wX a k n K V kd SK SV)) (w1 := []) (va_runS (As := [.int slot]) (rest := []) ⟨hx, hb, hml, hown, hts⟩ (c_requireSlot l hl9 D slot s.heap.size hs) (va_cwS 1 hts (gd_up (gd_S mb_10 mb_11 mb_12 mb_13)) rfl rfl rfl (by decide +kernel) ⟨by decide, by decide⟩) ⟨cP_blind, cPre hP hD hK hS hA hZ [] rfl (by decide) [] rfl⟩ rfl rfl hl.1 rfl (lv_room (Nat.le_of_ble_eq_true rfl)) dX0_finish_1 ⟨by decide, by decide⟩) hP hD hS hA [] [0, 1, 2, 3, 4, 5] rfl rfl (by decide) (by decide) (fun H locs hp hP hD hS => ?_)
    have hP : va_P D vwCl (wX a k n K V kd SK SV) H := hP
    have hD : va_D A (wX a k n K V kd SK SV) := hD
    obtain ⟨j, hj, rfl⟩ := okS_of hs
    refine lv_aload_n hx hb dX0_finish_4 rfl (lv_at hl 0 rfl) ?_
    refine lv_iload_n hx hb dX0_finish_5 rfl (lv_at hl 1 rfl) ?_
    by_cases h0 : kd j = -1
    · skip
      refine kx_v (wc := (wX a k n K V kd SK SV)) (wr := []) (w1 := (wX a k n K V kd SK SV)) (w2 := (wX a k n K V kd SK SV)) (vx_runV (As := [.int (nI j)]) (rest := []) ⟨hx, hb, hml, hown, hts⟩ (t_requireOperation l hl9 D a k n K V kd SK SV j H.size hj h0) (cwV 1 hts (gd_up (gd_V mb_19 mb_20 mb_21 mb_12 mb_22)) rfl rfl rfl (by decide +kernel) ⟨by decide, by decide⟩) ⟨cP_blind, va_recv (q0 := 0) (ci := 0) (q := (RX0, TX0, 6)) hK hP rfl rfl, cPre hP hD hK hS hA hZ [0, 1, 2, 3, 4, 5] rfl (by decide) [0, 1, 2, 3, 4] rfl⟩ rfl rfl hl.1 rfl (lv_room (Nat.le_of_ble_eq_true rfl)) dX0_finish_6 ⟨by decide, by decide⟩) hP hD hS hA [0, 1, 2, 3, 4, 5] [] rfl rfl (by decide) (by decide) (fun E ce q9 H locs hE hP hD hS hce hcv hcl => ?_) (fun H locs hp hP hD hS => ?_)
      · skip
        have hP : va_P D vwCl (wX a k n K V kd SK SV) H := hP
        have hD : va_D A (wX a k n K V kd SK SV) := hD
        subst hE
        have hf : fin n K V kd SK SV (nI j) = (2, 0, n, K, V, kd) := by unfold fin; rw [ix_n hj, if_pos (okS_n hj), if_pos h0]
        rw [hf]
        exact fx_out ht9 hlocks hce hcv hcl hS (by decide) (by decide) (tcE_2 rfl) hP hK hD
      · skip
        have hP : va_P D vwCl (wX a k n K V kd SK SV) H := hP
        have hD : va_D A (wX a k n K V kd SK SV) := hD
        exact hp.elim
    · skip
      refine kn_v (wc := (wX a k n K V kd SK SV)) (wr := []) (w1 := (wX a k n K V kd SK SV)) (va_runV (As := [.int (nI j)]) (rest := []) ⟨hx, hb, hml, hown, hts⟩ (c_requireOperation l hl9 D a k n K V kd SK SV j H.size hj h0) (cwV 1 hts (gd_up (gd_V mb_19 mb_20 mb_21 mb_12 mb_22)) rfl rfl rfl (by decide +kernel) ⟨by decide, by decide⟩) ⟨cP_blind, va_recv (q0 := 0) (ci := 0) (q := (RX0, TX0, 6)) hK hP rfl rfl, cPre hP hD hK hS hA hZ [0, 1, 2, 3, 4, 5] rfl (by decide) [0, 1, 2, 3, 4] rfl⟩ rfl rfl hl.1 rfl (lv_room (Nat.le_of_ble_eq_true rfl)) dX0_finish_6 ⟨by decide, by decide⟩) hP hD hS hA [0, 1, 2, 3, 4, 5] [] rfl rfl (by decide) (by decide) (fun H locs hp hP hD hS => ?_)
      have hP : va_P D vwCl (wX a k n K V kd SK SV) H := hP
      have hD : va_D A (wX a k n K V kd SK SV) := hD
      refine lv_aload_n hx hb dX0_finish_9 rfl (lv_at hl 0 rfl) ?_
      refine va_get (D := D) (ci := 0) (v := .ref (a 3)) (C := RX0) (T := TX0) (N := 6) hx hb hts (fun w h => wm (ui_X0 w h)) hown hK hP 0 rfl rfl 3 (by decide) (hts (.fieldLink RX0 20 "LinkedIndex" "slotKinds" "[I") (wm mb_5)) (fun _ h9 => h9) rfl dX0_finish_10 ?_
      refine lv_iload_n hx hb dX0_finish_13 rfl (lv_at hl 1 rfl) ?_
      refine x_iald (j := j) hx hb hK hP 3 2 rfl rfl (by omega) (by decide) dX0_finish_14 ?_
      refine lv_istore_n (lv' := [(2, .int (kd j)), (0, .ref (a 0)), (1, .int (nI j))]) hx hb dX0_finish_15 rfl hl (by decide) rfl (fun ls hl => ?_)
      refine lv_aload_n hx hb dX0_finish_16 rfl (lv_at hl 1 rfl) ?_
      refine lv_aload_n hx hb dX0_finish_17 rfl (lv_at hl 1 rfl) ?_
      refine va_get (D := D) (ci := 0) (v := .ref (a 4)) (C := RX0) (T := TX0) (N := 6) hx hb hts (fun w h => wm (ui_X0 w h)) hown hK hP 0 rfl rfl 4 (by decide) (hts (.fieldLink RX0 24 "LinkedIndex" "slotKeys" "[J") (wm mb_14)) (fun _ h9 => h9) rfl dX0_finish_18 ?_
      refine lv_iload_n hx hb dX0_finish_21 rfl (lv_at hl 2 rfl) ?_
      refine x_lald (j := j) hx hb hK hP 4 3 rfl rfl (by omega) (by decide) dX0_finish_22 ?_
      refine kn_i (wc := (wX a k n K V kd SK SV)) (wr := []) (w1 := (wX a k n K V kd SK SV)) (va_runV (As := [.long (SK j)]) (rest := []) ⟨hx, hb, hml, hown, hts⟩ (c_placeOf l hl9 D a k n K V kd SK SV (SK j) H.size hn) (cwV 1 hts (gd_up (gd_V mb_27 mb_28 mb_29 mb_12 mb_30)) rfl rfl rfl (by decide +kernel) ⟨by decide, by decide⟩) ⟨cP_blind, va_recv (q0 := 0) (ci := 0) (q := (RX0, TX0, 6)) hK hP rfl rfl, cPre hP hD hK hS hA hZ [0, 1, 2, 3, 4, 5] rfl (by decide) [0, 1, 2, 3, 4] rfl⟩ rfl rfl hl.1 rfl (lv_room (Nat.le_of_ble_eq_true rfl)) dX0_finish_23 ⟨by decide, by decide⟩) hP hD hS hA [0, 1, 2, 3, 4, 5] [] rfl rfl (by decide) (by decide) (fun r9 H locs hp hP hD hS => ?_)
      have hP : va_P D vwCl (wX a k n K V kd SK SV) H := hP
      have hD : va_D A (wX a k n K V kd SK SV) := hD
      have hle := rk_le K (SK j) n
      obtain ⟨r, hr0⟩ : ∃ r, r = rk K (SK j) n := ⟨_, rfl⟩
      rw [← hr0] at hp hle
      subst hp
      refine lv_istore_n (lv' := [(3, .int (nI r)), (2, .int (kd j)), (0, .ref (a 0)), (1, .int (nI j))]) hx hb dX0_finish_26 rfl hl (by decide) rfl (fun ls hl => ?_)
      refine lv_iload_n hx hb dX0_finish_27 rfl (lv_at hl 1 rfl) ?_
      refine lv_iconst (v := 1) hx hb dX0_finish_28 (by decide) ?_
      refine lv_icmp_ne (tgt := 39) hx hb dX0_finish_29 (by decide) (fun h1 => ?_) (fun h1 => ?_)
      · skip
        refine lv_iload_n hx hb dX0_finish_39 rfl (lv_at hl 1 rfl) ?_
        refine lv_iconst (v := 3) hx hb dX0_finish_40 (by decide) ?_
        refine lv_icmp_ne (tgt := 60) hx hb dX0_finish_41 (by decide) (fun h2 => ?_) (fun h2 => ?_)
        · skip
          refine lv_aload_n hx hb dX0_finish_60 rfl (lv_at hl 2 rfl) ?_
          refine lv_iload_n hx hb dX0_finish_61 rfl (lv_at hl 0 rfl) ?_
          refine lv_aload_n hx hb dX0_finish_62 rfl (lv_at hl 2 rfl) ?_
          refine va_get (D := D) (ci := 0) (v := .ref (a 4)) (C := RX0) (T := TX0) (N := 6) hx hb hts (fun w h => wm (ui_X0 w h)) hown hK hP 0 rfl rfl 4 (by decide) (hts (.fieldLink RX0 24 "LinkedIndex" "slotKeys" "[J") (wm mb_14)) (fun _ h9 => h9) rfl dX0_finish_63 ?_
          refine lv_iload_n hx hb dX0_finish_66 rfl (lv_at hl 3 rfl) ?_
          refine x_lald (j := j) hx hb hK hP 4 3 rfl rfl (by omega) (by decide) dX0_finish_67 ?_
          refine kn_i (wc := (wX a k n K V kd SK SV)) (wr := []) (w1 := (wX a k n K V kd SK SV)) (va_runV (As := [.int (nI r), .long (SK j)]) (rest := []) ⟨hx, hb, hml, hown, hts⟩ (c_isAt l hl9 D a k n K V kd SK SV r (SK j) H.size (by omega) hn) (cwV 2 hts (gd_up (gd_V mb_31 mb_32 mb_33 mb_12 mb_34)) rfl rfl rfl (by decide +kernel) ⟨by decide, by decide⟩) ⟨cP_blind, va_recv (q0 := 0) (ci := 0) (q := (RX0, TX0, 6)) hK hP rfl rfl, cPre hP hD hK hS hA hZ [0, 1, 2, 3, 4, 5] rfl (by decide) [0, 1, 2, 3, 4] rfl⟩ rfl rfl hl.1 rfl (lv_room (Nat.le_of_ble_eq_true rfl)) dX0_finish_68 ⟨by decide, by decide⟩) hP hD hS hA [0, 1, 2, 3, 4, 5] [] rfl rfl (by decide) (by decide) (fun r9 H locs hp hP hD hS => ?_)
          have hP : va_P D vwCl (wX a k n K V kd SK SV) H := hP
          have hD : va_D A (wX a k n K V kd SK SV) := hD
          by_cases h4 : atR K n (SK j) r
          · skip
            rw [if_pos h4] at hp
            subst hp
            refine lv_istore (lv' := [(4, .int 1), (3, .int (nI r)), (2, .int (kd j)), (0, .ref (a 0)), (1, .int (nI j))]) hx hb dX0_finish_71 hl (by decide) rfl (fun ls hl => ?_)
            refine lv_aload_n hx hb dX0_finish_73 rfl (lv_at hl 3 rfl) ?_
            refine va_get (D := D) (ci := 0) (v := .ref (a 3)) (C := RX0) (T := TX0) (N := 6) hx hb hts (fun w h => wm (ui_X0 w h)) hown hK hP 0 rfl rfl 3 (by decide) (hts (.fieldLink RX0 20 "LinkedIndex" "slotKinds" "[I") (wm mb_5)) (fun _ h9 => h9) rfl dX0_finish_74 ?_
            refine lv_iload_n hx hb dX0_finish_77 rfl (lv_at hl 4 rfl) ?_
            refine lv_iconst (v := (-1)) hx hb dX0_finish_78 (by decide) ?_
            refine x_iast (j := j) hx hb hK hP hD hS 3 2 rfl rfl (by omega) (by decide) dX0_finish_79 (fun H locs hP hD hS => ?_)
            have hP : va_P D vwCl (wX a k n K V (upd kd j (-1)) SK SV) H := hP
            have hD : va_D A (wX a k n K V (upd kd j (-1)) SK SV) := hD
            refine lv_iload hx hb dX0_finish_80 (lv_at hl 0 rfl) ?_
            refine lv_if_ne (tgt := 95) hx hb dX0_finish_82 (by decide) (fun h6 => ?_) (fun h6 => ?_)
            · skip
              refine lv_iload_n hx hb dX0_finish_95 rfl (lv_at hl 2 rfl) ?_
              refine lv_iconst (v := 3) hx hb dX0_finish_96 (by decide) ?_
              refine lv_icmp_ne (tgt := 107) hx hb dX0_finish_97 (by decide) (fun h7 => ?_) (fun h7 => ?_)
              · skip
                have hlt := h4.1
                refine lv_aload_n hx hb dX0_finish_107 rfl (lv_at hl 3 rfl) ?_
                refine va_get (D := D) (ci := 0) (v := .ref (a 2)) (C := RX0) (T := TX0) (N := 6) hx hb hts (fun w h => wm (ui_X0 w h)) hown hK hP 0 rfl rfl 1 (by decide) (hts (.fieldLink RX0 13 "LinkedIndex" "values" "[J") (wm mb_9)) (fun _ h9 => h9) rfl dX0_finish_108 ?_
                refine lv_iload_n hx hb dX0_finish_111 rfl (lv_at hl 1 rfl) ?_
                refine x_lald (j := r) hx hb hK hP 2 1 rfl rfl (by omega) (by decide) dX0_finish_112 ?_
                refine lv_lstore (lv' := [(5, .long (V r)), (4, .int 1), (3, .int (nI r)), (2, .int (kd j)), (0, .ref (a 0)), (1, .int (nI j))]) hx hb dX0_finish_113 hl (by decide) rfl (fun ls hl => ?_)
                refine lv_iload_n hx hb dX0_finish_115 rfl (lv_at hl 3 rfl) ?_
                refine lv_iconst (v := 2) hx hb dX0_finish_116 (by decide) ?_
                refine lv_icmp_ne (tgt := 125) hx hb dX0_finish_117 (by decide) (fun h8 => ?_) (fun h8 => ?_)
                · skip
                  have hf : fin n K V kd SK SV (nI j) = (0, V r, n, K, V, upd kd j (-1)) := by
                    unfold fin
                    rw [ix_n hj, ← hr0, if_pos (okS_n hj), if_neg h0, if_neg h1, if_neg h2, if_pos h4, if_neg h8]
                  rw [hf]
                  refine lv_lload hx hb dX0_finish_125 (lv_at hl 0 rfl) ?_
                  exact fx_l hx hb hr hlocks (by decide) (by decide) ⟨rfl, rfl⟩ hP hK hD hS dX0_finish_127
                · skip
                  refine lv_aload_n hx hb dX0_finish_120 rfl (lv_at hl 4 rfl) ?_
                  refine lv_iload_n hx hb dX0_finish_121 rfl (lv_at hl 2 rfl) ?_
                  refine kn_v (wc := (wX a k n K V (upd kd j (-1)) SK SV)) (wr := []) (w1 := (wX a k (n - 1) (clF (n - 1 - r) r K) (clF (n - 1 - r) r V) (upd kd j (-1)) SK SV)) (va_runV (As := [.int (nI r)]) (rest := []) ⟨hx, hb, hml, hown, hts⟩ (c_closeGap l hl9 D a k n K V (upd kd j (-1)) SK SV r H.size hlt hn) (cwV 1 hts (gd_up (gd_V mb_39 mb_40 mb_41 mb_12 mb_42)) rfl rfl rfl (by decide +kernel) ⟨by decide, by decide⟩) ⟨cP_blind, va_recv (q0 := 0) (ci := 0) (q := (RX0, TX0, 6)) hK hP rfl rfl, cPre hP hD hK hS hA hZ [0, 1, 2, 3, 4, 5] rfl (by decide) [0, 1, 2, 3, 4] rfl⟩ rfl rfl hl.1 rfl (lv_room (Nat.le_of_ble_eq_true rfl)) dX0_finish_122 ⟨by decide, by decide⟩) hP hD hS hA [0, 1, 2, 3, 4, 5] [] rfl rfl (by decide) (by decide) (fun H locs hp hP hD hS => ?_)
                  have hP : va_P D vwCl (wX a k (n - 1) (clF (n - 1 - r) r K) (clF (n - 1 - r) r V) (upd kd j (-1)) SK SV) H := hP
                  have hD : va_D A (wX a k (n - 1) (clF (n - 1 - r) r K) (clF (n - 1 - r) r V) (upd kd j (-1)) SK SV) := hD
                  have hf : fin n K V kd SK SV (nI j) = (0, V r, n - 1, clF (n - 1 - r) r K, clF (n - 1 - r) r V, upd kd j (-1)) := by
                    unfold fin
                    rw [ix_n hj, ← hr0, if_pos (okS_n hj), if_neg h0, if_neg h1, if_neg h2, if_pos h4, if_pos h8]
                  rw [hf]
                  refine lv_lload hx hb dX0_finish_125 (lv_at hl 0 rfl) ?_
                  exact fx_l hx hb hr hlocks (by decide) (by decide) ⟨rfl, rfl⟩ hP hK hD hS dX0_finish_127
              · skip
                exact absurd h7 h2
            · skip
              exact absurd h6 (by decide)
          · skip
            rw [if_neg h4] at hp
            subst hp
            refine lv_istore (lv' := [(4, .int 0), (3, .int (nI r)), (2, .int (kd j)), (0, .ref (a 0)), (1, .int (nI j))]) hx hb dX0_finish_71 hl (by decide) rfl (fun ls hl => ?_)
            refine lv_aload_n hx hb dX0_finish_73 rfl (lv_at hl 3 rfl) ?_
            refine va_get (D := D) (ci := 0) (v := .ref (a 3)) (C := RX0) (T := TX0) (N := 6) hx hb hts (fun w h => wm (ui_X0 w h)) hown hK hP 0 rfl rfl 3 (by decide) (hts (.fieldLink RX0 20 "LinkedIndex" "slotKinds" "[I") (wm mb_5)) (fun _ h9 => h9) rfl dX0_finish_74 ?_
            refine lv_iload_n hx hb dX0_finish_77 rfl (lv_at hl 4 rfl) ?_
            refine lv_iconst (v := (-1)) hx hb dX0_finish_78 (by decide) ?_
            refine x_iast (j := j) hx hb hK hP hD hS 3 2 rfl rfl (by omega) (by decide) dX0_finish_79 (fun H locs hP hD hS => ?_)
            have hP : va_P D vwCl (wX a k n K V (upd kd j (-1)) SK SV) H := hP
            have hD : va_D A (wX a k n K V (upd kd j (-1)) SK SV) := hD
            refine lv_iload hx hb dX0_finish_80 (lv_at hl 0 rfl) ?_
            refine lv_if_ne (tgt := 95) hx hb dX0_finish_82 (by decide) (fun h6 => ?_) (fun h6 => ?_)
            · skip
              exact absurd rfl h6
            · skip
              have hf : fin n K V kd SK SV (nI j) = (3, 0, n, K, V, upd kd j (-1)) := by
                unfold fin
                rw [ix_n hj, ← hr0, if_pos (okS_n hj), if_neg h0, if_neg h1, if_neg h2, if_neg h4]
              rw [hf]
              exact fx_nse hx hb hl9 hown hts hZ hS (hl.1.trans hml.symm) dX0_finish_85 dX0_finish_88 dX0_finish_89 dX0_finish_91 dX0_finish_94 ht9 (by decide) (by decide) (by decide) (by decide) hlocks (by decide) (by decide) (tcE_3 rfl) hP hK hD
        · skip
          refine lv_iload_n hx hb dX0_finish_44 rfl (lv_at hl 0 rfl) ?_
          refine lv_aload_n hx hb dX0_finish_45 rfl (lv_at hl 2 rfl) ?_
          refine va_get (D := D) (ci := 0) (v := .int (nI n)) (C := RX0) (T := TX0) (N := 6) hx hb hts (fun w h => wm (ui_X0 w h)) hown hK hP 0 rfl rfl 2 (by decide) (hts (.fieldLink RX0 16 "LinkedIndex" "keyCount" "I") (wm mb_2)) (fun _ h9 => h9) rfl dX0_finish_46 ?_
          refine lv_icmp_ge (tgt := 56) hx hb dX0_finish_49 (by decide) (fun h4 => ?_) (fun h4 => ?_)
          · skip
            have h4 : ¬ r < n := fun q => absurd ((nI_leI (by omega) (by omega)).mp h4) (by omega)
            refine lv_iconst (v := 0) hx hb dX0_finish_56 (by decide) ?_
            refine lv_goto (tgt := 71) hx hb dX0_finish_57 (by decide) ?_
            refine lv_istore (lv' := [(4, .int 0), (3, .int (nI r)), (2, .int (kd j)), (0, .ref (a 0)), (1, .int (nI j))]) hx hb dX0_finish_71 hl (by decide) rfl (fun ls hl => ?_)
            refine lv_aload_n hx hb dX0_finish_73 rfl (lv_at hl 3 rfl) ?_
            refine va_get (D := D) (ci := 0) (v := .ref (a 3)) (C := RX0) (T := TX0) (N := 6) hx hb hts (fun w h => wm (ui_X0 w h)) hown hK hP 0 rfl rfl 3 (by decide) (hts (.fieldLink RX0 20 "LinkedIndex" "slotKinds" "[I") (wm mb_5)) (fun _ h9 => h9) rfl dX0_finish_74 ?_
            refine lv_iload_n hx hb dX0_finish_77 rfl (lv_at hl 4 rfl) ?_
            refine lv_iconst (v := (-1)) hx hb dX0_finish_78 (by decide) ?_
            refine x_iast (j := j) hx hb hK hP hD hS 3 2 rfl rfl (by omega) (by decide) dX0_finish_79 (fun H locs hP hD hS => ?_)
            have hP : va_P D vwCl (wX a k n K V (upd kd j (-1)) SK SV) H := hP
            have hD : va_D A (wX a k n K V (upd kd j (-1)) SK SV) := hD
            refine lv_iload hx hb dX0_finish_80 (lv_at hl 0 rfl) ?_
            refine lv_if_ne (tgt := 95) hx hb dX0_finish_82 (by decide) (fun h6 => ?_) (fun h6 => ?_)
            · skip
              exact absurd rfl h6
            · skip
              have hf : fin n K V kd SK SV (nI j) = (3, 0, n, K, V, upd kd j (-1)) := by
                unfold fin
                rw [ix_n hj, ← hr0, if_pos (okS_n hj), if_neg h0, if_neg h1, if_pos h2, if_neg h4]
              rw [hf]
              exact fx_nse hx hb hl9 hown hts hZ hS (hl.1.trans hml.symm) dX0_finish_85 dX0_finish_88 dX0_finish_89 dX0_finish_91 dX0_finish_94 ht9 (by decide) (by decide) (by decide) (by decide) hlocks (by decide) (by decide) (tcE_3 rfl) hP hK hD
          · skip
            have h4 : r < n := Nat.lt_of_not_le (fun q => h4 ((nI_leI (by omega) (by omega)).mpr q))
            refine lv_iconst (v := 1) hx hb dX0_finish_52 (by decide) ?_
            refine lv_goto (tgt := 71) hx hb dX0_finish_53 (by decide) ?_
            refine lv_istore (lv' := [(4, .int 1), (3, .int (nI r)), (2, .int (kd j)), (0, .ref (a 0)), (1, .int (nI j))]) hx hb dX0_finish_71 hl (by decide) rfl (fun ls hl => ?_)
            refine lv_aload_n hx hb dX0_finish_73 rfl (lv_at hl 3 rfl) ?_
            refine va_get (D := D) (ci := 0) (v := .ref (a 3)) (C := RX0) (T := TX0) (N := 6) hx hb hts (fun w h => wm (ui_X0 w h)) hown hK hP 0 rfl rfl 3 (by decide) (hts (.fieldLink RX0 20 "LinkedIndex" "slotKinds" "[I") (wm mb_5)) (fun _ h9 => h9) rfl dX0_finish_74 ?_
            refine lv_iload_n hx hb dX0_finish_77 rfl (lv_at hl 4 rfl) ?_
            refine lv_iconst (v := (-1)) hx hb dX0_finish_78 (by decide) ?_
            refine x_iast (j := j) hx hb hK hP hD hS 3 2 rfl rfl (by omega) (by decide) dX0_finish_79 (fun H locs hP hD hS => ?_)
            have hP : va_P D vwCl (wX a k n K V (upd kd j (-1)) SK SV) H := hP
            have hD : va_D A (wX a k n K V (upd kd j (-1)) SK SV) := hD
            refine lv_iload hx hb dX0_finish_80 (lv_at hl 0 rfl) ?_
            refine lv_if_ne (tgt := 95) hx hb dX0_finish_82 (by decide) (fun h6 => ?_) (fun h6 => ?_)
            · skip
              refine lv_iload_n hx hb dX0_finish_95 rfl (lv_at hl 2 rfl) ?_
              refine lv_iconst (v := 3) hx hb dX0_finish_96 (by decide) ?_
              refine lv_icmp_ne (tgt := 107) hx hb dX0_finish_97 (by decide) (fun h7 => ?_) (fun h7 => ?_)
              · skip
                exact absurd h2 h7
              · skip
                have hf : fin n K V kd SK SV (nI j) = (0, K r, n, K, V, upd kd j (-1)) := by
                  unfold fin
                  rw [ix_n hj, ← hr0, if_pos (okS_n hj), if_neg h0, if_neg h1, if_pos h2, if_pos h4]
                rw [hf]
                refine lv_aload_n hx hb dX0_finish_100 rfl (lv_at hl 3 rfl) ?_
                refine va_get (D := D) (ci := 0) (v := .ref (a 1)) (C := RX0) (T := TX0) (N := 6) hx hb hts (fun w h => wm (ui_X0 w h)) hown hK hP 0 rfl rfl 0 (by decide) (hts (.fieldLink RX0 9 "LinkedIndex" "keys" "[J") (wm mb_8)) (fun _ h9 => h9) rfl dX0_finish_101 ?_
                refine lv_iload_n hx hb dX0_finish_104 rfl (lv_at hl 1 rfl) ?_
                refine x_lald (j := r) hx hb hK hP 1 0 rfl rfl (by omega) (by decide) dX0_finish_105 ?_
                exact fx_l hx hb hr hlocks (by decide) (by decide) ⟨rfl, rfl⟩ hP hK hD hS dX0_finish_106
            · skip
              exact absurd h6 (by decide)
      · skip
        refine lv_aload_n hx hb dX0_finish_32 rfl (lv_at hl 2 rfl) ?_
        refine lv_iload_n hx hb dX0_finish_33 rfl (lv_at hl 3 rfl) ?_
        refine lv_iload_n hx hb dX0_finish_34 rfl (lv_at hl 0 rfl) ?_
        refine kx_l (wc := (wX a k n K V kd SK SV)) (wr := []) (w1 := (wX a k (fpN n K (SK j) r) (fpK n K (SK j) r) (fpV n K V (SK j) (SV j) r) (upd kd j (-1)) SK SV)) (w2 := (wX a k n K V kd SK SV)) (vx_runV (As := [.int (nI j), .int (nI r)]) (rest := []) ⟨hx, hb, hml, hown, hts⟩ (c_finishPut l hl9 D a k n K V kd SK SV j r H.size hj hle hn) (cwV 2 hts (gd_up (gd_V mb_43 mb_44 mb_45 mb_12 mb_46)) rfl rfl rfl (by decide +kernel) ⟨by decide, by decide⟩) ⟨cP_blind, va_recv (q0 := 0) (ci := 0) (q := (RX0, TX0, 6)) hK hP rfl rfl, cPre hP hD hK hS hA hZ [0, 1, 2, 3, 4, 5] rfl (by decide) [0, 1, 2, 3, 4] rfl⟩ rfl rfl hl.1 rfl (lv_room (Nat.le_of_ble_eq_true rfl)) dX0_finish_35 ⟨by decide, by decide⟩) hP hD hS hA [0, 1, 2, 3, 4, 5] [] rfl rfl (by decide) (by decide) (fun E ce q9 H locs hE hP hD hS hce hcv hcl => ?_) (fun r9 H locs hp hP hD hS => ?_)
        · skip
          have hP : va_P D vwCl (wX a k n K V kd SK SV) H := hP
          have hD : va_D A (wX a k n K V kd SK SV) := hD
          have hf : fin n K V kd SK SV (nI j) = (2, 0, n, K, V, kd) := by
            unfold fin
            rw [ix_n hj, ← hr0, if_pos (okS_n hj), if_neg h0, if_pos h1, if_neg hE.2.1, if_pos hE.2.2]
          rw [hf]
          exact fx_out ht9 hlocks hce hcv hcl hS (by decide) (by decide) (hE.1 ▸ tcE_2 rfl) hP hK hD
        · skip
          have hP : va_P D vwCl (wX a k (fpN n K (SK j) r) (fpK n K (SK j) r) (fpV n K V (SK j) (SV j) r) (upd kd j (-1)) SK SV) H := hP
          have hD : va_D A (wX a k (fpN n K (SK j) r) (fpK n K (SK j) r) (fpV n K V (SK j) (SV j) r) (upd kd j (-1)) SK SV) := hD
          by_cases h4 : atR K n (SK j) r
          · skip
            have hf : fin n K V kd SK SV (nI j) = (0, 1, n, K, vp_updL V r (SV j), upd kd j (-1)) := by
              unfold fin
              rw [ix_n hj, ← hr0, if_pos (okS_n hj), if_neg h0, if_pos h1, if_pos h4]
            rw [hf]
            rw [show fpN n K (SK j) r = n from if_pos h4, show fpK n K (SK j) r = K from if_pos h4, show fpV n K V (SK j) (SV j) r = vp_updL V r (SV j) by unfold fpV; rw [if_pos h4]] at hP hD
            have hp := hp.2
            rw [if_pos h4] at hp
            exact fx_l hx hb hr hlocks (by decide) (by decide) ⟨rfl, hp⟩ hP hK hD hS dX0_finish_38
          · skip
            have h5 : ¬ 100 ≤ n := by rcases hp.1 with q | q; exact absurd q h4; omega
            have hf : fin n K V kd SK SV (nI j) = (0, 0, n + 1, vp_updL (opF r (n - r) K) r (SK j), vp_updL (opF r (n - r) V) r (SV j), upd kd j (-1)) := by
              unfold fin
              rw [ix_n hj, ← hr0, if_pos (okS_n hj), if_neg h0, if_pos h1, if_neg h4, if_neg h5]
            rw [hf]
            rw [show fpN n K (SK j) r = n + 1 from if_neg h4, show fpK n K (SK j) r = vp_updL (opF r (n - r) K) r (SK j) from if_neg h4, show fpV n K V (SK j) (SV j) r = vp_updL (opF r (n - r) V) r (SV j) by unfold fpV; rw [if_neg h4]] at hP hD
            have hp := hp.2
            rw [if_neg h4] at hp
            exact fx_l hx hb hr hlocks (by decide) (by decide) ⟨rfl, hp⟩ hP hK hD hS dX0_finish_38
  · skip
    refine kx_v (wc := []) (wr := (wX a k n K V kd SK SV)) (w1 := []) (w2 := []) (vx_runS (As := [.int slot]) (rest := []) ⟨hx, hb, hml, hown, hts⟩ (t_requireSlot l hl9 D slot s.heap.size hs) (va_cwS 1 hts (gd_up (gd_S mb_10 mb_11 mb_12 mb_13)) rfl rfl rfl (by decide +kernel) ⟨by decide, by decide⟩) ⟨cP_blind, cPre hP hD hK hS hA hZ [] rfl (by decide) [] rfl⟩ rfl rfl hl.1 rfl (lv_room (Nat.le_of_ble_eq_true rfl)) dX0_finish_1 ⟨by decide, by decide⟩) hP hD hS hA [] [0, 1, 2, 3, 4, 5] rfl rfl (by decide) (by decide) (fun E ce q9 H locs hE hP hD hS hce hcv hcl => ?_) (fun H locs hp hP hD hS => ?_)
    · skip
      have hP : va_P D vwCl (wX a k n K V kd SK SV) H := hP
      have hD : va_D A (wX a k n K V kd SK SV) := hD
      subst hE
      have hf : fin n K V kd SK SV slot = (1, 0, n, K, V, kd) := by unfold fin; rw [if_neg hs]
      rw [hf]
      exact fx_out ht9 hlocks hce hcv hcl hS (by decide) (by decide) (tcE_1 rfl) hP hK hD
    · skip
      have hP : va_P D vwCl (wX a k n K V kd SK SV) H := hP
      have hD : va_D A (wX a k n K V kd SK SV) := hD
      exact hp.elim
