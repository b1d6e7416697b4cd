set_option maxHeartbeats 1000000 in
set_option maxRecDepth 100000 in
theorem m_thrown (l : Launch) (hl9 : l.stackTraces = false) (D : va_G) (b : Nat → Nat) (g : Nat → ClassId) (cd : Int32) (n : Nat) (K V : Nat → Int64) (kd : Nat → Int32) (SK SV : Nat → Int64) (sz : Nat)  : Met l yX1_thrown wsX1_thrown ({ frames := 0, cells := 0, slots := 0, locals := 0 }) (cP D (tM g) (wM b g cd n K V (fun i9 => kd i9 + 1) SK SV) [.ref (b 0)] sz) (cQi D (tM g) (fun v => v = cd) (wM b g cd n K V (fun i9 => kd i9 + 1) SK SV) (va_A (wM b g cd n K V (fun i9 => kd i9 + 1) SK SV) sz)) 0 0 (va_A (wM b g cd n K V (fun i9 => kd i9 + 1) SK SV) sz) := by
  refine mk_n (cc := cX1_thrown) (maxL := 1) (ret := (some .int)) (fun A => cQi D (tM g) (fun v => v = cd) (wM b g cd n K V (fun i9 => kd i9 + 1) SK SV) A) (by decide) rfl (Nat.le_of_ble_eq_true rfl) ?_
  intro p e s m below meth c ls A hx hb hr hml hlocks hnm hown hts hP hK hD hZ hA hS hl
  have hown : s.vm.findClass RX1 = some m.cls := hown
  have hl : lv_has ls 1 [(0, .ref (b 0))] := hl
  refine lv_aload_n hx hb dX1_thrown_0 rfl (lv_at hl 0 rfl) ?_
  refine va_get (D := D) (ci := 1) (v := .int cd) (C := RX1) (T := TX1) (N := 7) hx hb hts (fun w h => wm (ui_X1 w h)) hown hK hP 0 rfl rfl 0 (by decide) (hts (.fieldLink RX1 26 "LinkedIndexModel" "code" "I") (wm mb_47)) (fun _ h9 => h9) rfl dX1_thrown_1 ?_
  exact fn_i hx hb hr hlocks (by decide) (by decide) rfl hP hK hD hS dX1_thrown_4
set_option maxHeartbeats 1000000 in
set_option maxRecDepth 100000 in
theorem m_isSlot (l : Launch) (hl9 : l.stackTraces = false) (D : va_G) (slot : Int32) (sz : Nat)  : Met l yX1_isSlot wsX1_isSlot ({ frames := 0, cells := 0, slots := 0, locals := 0 }) (cP D ([]) [] [.int slot] sz) (cQi D ([]) (fun v => v = (if okS slot then 1 else 0)) ([]) (va_A [] sz)) 0 0 (va_A [] sz) := by
  refine mk_n (cc := cX1_isSlot) (maxL := 1) (ret := (some .boolean)) (fun A => cQi D ([]) (fun v => v = (if okS slot then 1 else 0)) ([]) A) (by decide) rfl (Nat.le_of_ble_eq_true rfl) ?_
  intro p e s m below meth c ls A hx hb hr hml hlocks hnm hown hts hP hK hD hZ hA hS hl
  have hown : s.vm.findClass RX1 = some m.cls := hown
  have hl : lv_has ls 1 [(0, .int slot)] := hl
  refine lv_iload_n hx hb dX1_isSlot_0 rfl (lv_at hl 0 rfl) ?_
  refine lv_if_lt (tgt := 14) hx hb dX1_isSlot_1 (by decide) (fun h1 => ?_) (fun h1 => ?_)
  · skip
    refine lv_iconst (v := 0) hx hb dX1_isSlot_14 (by decide) ?_
    exact fn_z hx hb hr (by decide) hlocks (by decide) (by decide) (by rw [if_neg (fun q => q.1 h1)]) hP hK hD hS dX1_isSlot_15
  · skip
    refine lv_iload_n hx hb dX1_isSlot_4 rfl (lv_at hl 0 rfl) ?_
    refine lv_bipush (v := 7) hx hb dX1_isSlot_5 (by decide) ?_
    refine lv_icmp_gt (tgt := 14) hx hb dX1_isSlot_7 (by decide) (fun h2 => ?_) (fun h2 => ?_)
    · skip
      refine lv_iconst (v := 0) hx hb dX1_isSlot_14 (by decide) ?_
      exact fn_z hx hb hr (by decide) hlocks (by decide) (by decide) (by rw [if_neg (okS_7n h2)]) hP hK hD hS dX1_isSlot_15
    · skip
      refine lv_iconst (v := 1) hx hb dX1_isSlot_10 (by decide) ?_
      refine lv_goto (tgt := 15) hx hb dX1_isSlot_11 (by decide) ?_
      exact fn_z hx hb hr (by decide) hlocks (by decide) (by decide) (by rw [if_pos (okS_7 h1 h2)]) hP hK hD hS dX1_isSlot_15
set_option maxHeartbeats 1000000 in
set_option maxRecDepth 100000 in
theorem m_begin (l : Launch) (hl9 : l.stackTraces = false) (D : va_G) (b : Nat → Nat) (g : Nat → ClassId) (cd : Int32) (n : Nat) (K V : Nat → Int64) (kd : Nat → Int32) (SK SV : Nat → Int64) (slot kind : Int32) (key value : Int64) (sz : Nat) (hk : ∀ j, j < 8 → kOk (kd j)) : Met l yX1_begin wsX1_begin ({ frames := 1, cells := 0, slots := 0, locals := 20 }) (cP D (tM g) (wM b g cd n K V (fun i9 => kd i9 + 1) SK SV) [.ref (b 0), .int slot, .int kind, .long key, .long value] sz) (cQv D (tM g) True (wM b g (cdB slot kind kd) n K V (fun i9 => kdB slot kind kd i9 + 1) (svB slot kind kd key SK) (svB slot kind kd value SV)) (va_A (wM b g cd n K V (fun i9 => kd i9 + 1) SK SV) sz)) 0 0 (va_A (wM b g cd n K V (fun i9 => kd i9 + 1) SK SV) sz) := by
  refine mk_n (cc := cX1_begin) (maxL := 7) (ret := none) (fun A => cQv D (tM g) True (wM b g (cdB slot kind kd) n K V (fun i9 => kdB slot kind kd i9 + 1) (svB slot kind kd key SK) (svB slot kind kd value SV)) A) (by decide) rfl (Nat.le_of_ble_eq_true rfl) ?_
  intro p e s m below meth c ls A hx hb hr hml hlocks hnm hown hts hP hK hD hZ hA hS hl
  have hown : s.vm.findClass RX1 = some m.cls := hown
  have hl : lv_has ls 7 [(0, .ref (b 0)), (1, .int slot), (2, .int kind), (3, .long key), (5, .long value)] := hl
  refine lv_aload_n hx hb dX1_begin_0 rfl (lv_at hl 0 rfl) ?_
  refine lv_iload_n hx hb dX1_begin_1 rfl (lv_at hl 1 rfl) ?_
  refine kn_i (wc := []) (wr := (wM b g cd n K V (fun i9 => kd i9 + 1) SK SV)) (w1 := []) (va_runS (As := [.int slot]) (rest := [.ref (b 0)]) ⟨hx, hb, hml, hown, hts⟩ (m_isSlot l hl9 D slot s.heap.size) (va_cwS 1 hts (gd_up (gd_S mb_48 mb_49 mb_50 mb_51)) rfl rfl rfl (by decide +kernel) ⟨by decide, by decide⟩) ⟨cP_blind, cPre hP hD hK hS hA hZ [] rfl (by decide) [] rfl⟩ rfl rfl hl.1 rfl (lv_room (Nat.le_of_ble_eq_true rfl)) dX1_begin_2 ⟨by decide, by decide⟩) hP hD hS hA [] [0, 1, 2, 3, 4, 5] rfl rfl (by decide) (by decide) (fun r9 H locs hp hP hD hS => ?_)
  have hP : va_P D vwCl (wM b g cd n K V (fun i9 => kd i9 + 1) SK SV) H := hP
  have hD : va_D A (wM b g cd n K V (fun i9 => kd i9 + 1) SK SV) := hD
  by_cases hs : okS slot
  · skip
    rw [if_pos hs] at hp
    subst hp
    refine lv_if_eq (tgt := 17) hx hb dX1_begin_5 (by decide) (fun h0 => ?_) (fun h0 => ?_)
    · skip
      first | exact absurd h0 (by decide) | exact (h0 rfl).elim
    · skip
      refine lv_iload_n hx hb dX1_begin_8 rfl (lv_at hl 2 rfl) ?_
      refine lv_if_lt (tgt := 17) hx hb dX1_begin_9 (by decide) (fun h1 => ?_) (fun h1 => ?_)
      · skip
        refine lv_iconst (v := 1) hx hb dX1_begin_17 (by decide) ?_
        refine lv_goto (tgt := 35) hx hb dX1_begin_18 (by decide) ?_
        refine va_put (D := D) (ci := 1) (v := .int 1) (ty := .int) (C := RX1) (T := TX1) (N := 7) hx hb hts (fun w h => wm (ui_X1 w h)) tyX1 tyX1_ok nmX1 hown hK hP hD hS 0 rfl rfl 0 (by decide) (hts (.fieldLink RX1 26 "LinkedIndexModel" "code" "I") (wm mb_47)) (fun _ h9 => h9) rfl (by decide +kernel) rfl rfl (Nat.le_of_ble_eq_true rfl) dX1_begin_35 (fun H locs hP hD hS => ?_)
        have hP : va_P D vwCl (wM b g 1 n K V (fun i9 => kd i9 + 1) SK SV) H := hP
        have hD : va_D A (wM b g 1 n K V (fun i9 => kd i9 + 1) SK SV) := hD
        have e0 : cdB slot kind kd = 1 := cdB_1 (fun q => q.2.1 h1)
        refine lv_aload_n hx hb dX1_begin_38 rfl (lv_at hl 0 rfl) ?_
        refine va_get (D := D) (ci := 1) (v := .int 1) (C := RX1) (T := TX1) (N := 7) hx hb hts (fun w h => wm (ui_X1 w h)) hown hK hP 0 rfl rfl 0 (by decide) (hts (.fieldLink RX1 26 "LinkedIndexModel" "code" "I") (wm mb_47)) (fun _ h9 => h9) rfl dX1_begin_39 ?_
        refine lv_if_ne (tgt := 69) hx hb dX1_begin_42 (by decide) (fun h9 => ?_) (fun h9 => ?_)
        · skip
          have e1 : kdB slot kind kd = kd := by unfold kdB; rw [e0]; rfl
          have e2 : svB slot kind kd key SK = SK := by unfold svB; rw [e0]; rfl
          have e3 : svB slot kind kd value SV = SV := by unfold svB; rw [e0]; rfl
          rw [e0, e1, e2, e3]
          exact fn_v hx hb hr hlocks (by decide) (by decide) trivial hP hK hD hS dX1_begin_69
        · skip
          first | exact absurd h9 (by decide) | exact (h9 rfl).elim
      · skip
        refine lv_iload_n hx hb dX1_begin_12 rfl (lv_at hl 2 rfl) ?_
        refine lv_iconst (v := 3) hx hb dX1_begin_13 (by decide) ?_
        refine lv_icmp_le (tgt := 21) hx hb dX1_begin_14 (by decide) (fun h2 => ?_) (fun h2 => ?_)
        · skip
          obtain ⟨j, hj, rfl⟩ := okS_of hs
          refine lv_aload_n hx hb dX1_begin_21 rfl (lv_at hl 0 rfl) ?_
          refine va_get (D := D) (ci := 1) (v := .ref (b 3)) (C := RX1) (T := TX1) (N := 7) hx hb hts (fun w h => wm (ui_X1 w h)) hown hK hP 0 rfl rfl 4 (by decide) (hts (.fieldLink RX1 16 "LinkedIndexModel" "kinds" "[I") (wm mb_52)) (fun _ h9 => h9) rfl dX1_begin_22 ?_
          refine lv_iload_n hx hb dX1_begin_25 rfl (lv_at hl 1 rfl) ?_
          refine x_iald (j := j) hx hb hK hP 3 2 rfl rfl hj (by decide) dX1_begin_26 ?_
          refine lv_if_le (tgt := 34) hx hb dX1_begin_27 (by decide) (fun h3 => ?_) (fun h3 => ?_)
          · skip
            have h3 : kd j = -1 := Classical.byContradiction (fun q => absurd ((kOk_pos (hk j hj)).mpr q) (fun q2 => absurd q2 (by rw [Int32.lt_iff_toInt_lt]; rw [Int32.le_iff_toInt_le] at h3; omega)))
            have e0 : cdB (nI j) kind kd = 0 := cdB_0 ⟨okS_n hj, h1, h2⟩ (by rw [ix_n hj]; exact h3)
            refine lv_iconst (v := 0) hx hb dX1_begin_34 (by decide) ?_
            refine va_put (D := D) (ci := 1) (v := .int 0) (ty := .int) (C := RX1) (T := TX1) (N := 7) hx hb hts (fun w h => wm (ui_X1 w h)) tyX1 tyX1_ok nmX1 hown hK hP hD hS 0 rfl rfl 0 (by decide) (hts (.fieldLink RX1 26 "LinkedIndexModel" "code" "I") (wm mb_47)) (fun _ h9 => h9) rfl (by decide +kernel) rfl rfl (Nat.le_of_ble_eq_true rfl) dX1_begin_35 (fun H locs hP hD hS => ?_)
            have hP : va_P D vwCl (wM b g 0 n K V (fun i9 => kd i9 + 1) SK SV) H := hP
            have hD : va_D A (wM b g 0 n K V (fun i9 => kd i9 + 1) SK SV) := hD
            refine lv_aload_n hx hb dX1_begin_38 rfl (lv_at hl 0 rfl) ?_
            refine va_get (D := D) (ci := 1) (v := .int 0) (C := RX1) (T := TX1) (N := 7) hx hb hts (fun w h => wm (ui_X1 w h)) hown hK hP 0 rfl rfl 0 (by decide) (hts (.fieldLink RX1 26 "LinkedIndexModel" "code" "I") (wm mb_47)) (fun _ h9 => h9) rfl dX1_begin_39 ?_
            refine lv_if_ne (tgt := 69) hx hb dX1_begin_42 (by decide) (fun h9 => ?_) (fun h9 => ?_)
            · skip
              first | exact absurd h9 (by decide) | exact (h9 rfl).elim
            · skip
              refine lv_aload_n hx hb dX1_begin_45 rfl (lv_at hl 0 rfl) ?_
              refine va_get (D := D) (ci := 1) (v := .ref (b 3)) (C := RX1) (T := TX1) (N := 7) hx hb hts (fun w h => wm (ui_X1 w h)) hown hK hP 0 rfl rfl 4 (by decide) (hts (.fieldLink RX1 16 "LinkedIndexModel" "kinds" "[I") (wm mb_52)) (fun _ h9 => h9) rfl dX1_begin_46 ?_
              refine lv_iload_n hx hb dX1_begin_49 rfl (lv_at hl 1 rfl) ?_
              refine lv_iload_n hx hb dX1_begin_50 rfl (lv_at hl 2 rfl) ?_
              refine lv_iconst (v := 1) hx hb dX1_begin_51 (by decide) ?_
              refine lv_iadd hx hb dX1_begin_52 ?_
              refine x_iast (j := j) hx hb hK hP hD hS 3 2 rfl rfl hj (by decide) dX1_begin_53 (fun H locs hP hD hS => ?_)
              have hP : va_P D vwCl (wM b g 0 n K V (upd (fun i9 => kd i9 + 1) j (kind + 1)) SK SV) H := hP
              have hD : va_D A (wM b g 0 n K V (upd (fun i9 => kd i9 + 1) j (kind + 1)) SK SV) := hD
              refine lv_aload_n hx hb dX1_begin_54 rfl (lv_at hl 0 rfl) ?_
              refine va_get (D := D) (ci := 1) (v := .ref (b 4)) (C := RX1) (T := TX1) (N := 7) hx hb hts (fun w h => wm (ui_X1 w h)) hown hK hP 0 rfl rfl 5 (by decide) (hts (.fieldLink RX1 20 "LinkedIndexModel" "asked" "[J") (wm mb_53)) (fun _ h9 => h9) rfl dX1_begin_55 ?_
              refine lv_iload_n hx hb dX1_begin_58 rfl (lv_at hl 1 rfl) ?_
              refine lv_lload_n hx hb dX1_begin_59 rfl (lv_at hl 3 rfl) ?_
              refine x_last (j := j) hx hb hK hP hD hS 4 3 rfl rfl hj (by decide) dX1_begin_60 (fun H locs hP hD hS => ?_)
              have hP : va_P D vwCl (wM b g 0 n K V (upd (fun i9 => kd i9 + 1) j (kind + 1)) (vp_updL SK j key) SV) H := hP
              have hD : va_D A (wM b g 0 n K V (upd (fun i9 => kd i9 + 1) j (kind + 1)) (vp_updL SK j key) SV) := hD
              refine lv_aload_n hx hb dX1_begin_61 rfl (lv_at hl 0 rfl) ?_
              refine va_get (D := D) (ci := 1) (v := .ref (b 5)) (C := RX1) (T := TX1) (N := 7) hx hb hts (fun w h => wm (ui_X1 w h)) hown hK hP 0 rfl rfl 6 (by decide) (hts (.fieldLink RX1 23 "LinkedIndexModel" "given" "[J") (wm mb_54)) (fun _ h9 => h9) rfl dX1_begin_62 ?_
              refine lv_iload_n hx hb dX1_begin_65 rfl (lv_at hl 1 rfl) ?_
              refine lv_lload hx hb dX1_begin_66 (lv_at hl 4 rfl) ?_
              refine x_last (j := j) hx hb hK hP hD hS 5 4 rfl rfl hj (by decide) dX1_begin_68 (fun H locs hP hD hS => ?_)
              have hP : va_P D vwCl (wM b g 0 n K V (upd (fun i9 => kd i9 + 1) j (kind + 1)) (vp_updL SK j key) (vp_updL SV j value)) H := hP
              have hD : va_D A (wM b g 0 n K V (upd (fun i9 => kd i9 + 1) j (kind + 1)) (vp_updL SK j key) (vp_updL SV j value)) := hD
              have e1 : kdB (nI j) kind kd = upd kd j kind := by unfold kdB; rw [e0, ix_n hj]; rfl
              have e2 : svB (nI j) kind kd key SK = vp_updL SK j key := by unfold svB; rw [e0, ix_n hj]; rfl
              have e3 : svB (nI j) kind kd value SV = vp_updL SV j value := by unfold svB; rw [e0, ix_n hj]; rfl
              rw [e0, e1, e2, e3, ← upd_1]
              exact fn_v hx hb hr hlocks (by decide) (by decide) trivial hP hK hD hS dX1_begin_69
          · skip
            have h3 : ¬ kd j = -1 := fun q => h3 (by rw [q]; decide)
            refine lv_iconst (v := 2) hx hb dX1_begin_30 (by decide) ?_
            refine lv_goto (tgt := 35) hx hb dX1_begin_31 (by decide) ?_
            refine va_put (D := D) (ci := 1) (v := .int 2) (ty := .int) (C := RX1) (T := TX1) (N := 7) hx hb hts (fun w h => wm (ui_X1 w h)) tyX1 tyX1_ok nmX1 hown hK hP hD hS 0 rfl rfl 0 (by decide) (hts (.fieldLink RX1 26 "LinkedIndexModel" "code" "I") (wm mb_47)) (fun _ h9 => h9) rfl (by decide +kernel) rfl rfl (Nat.le_of_ble_eq_true rfl) dX1_begin_35 (fun H locs hP hD hS => ?_)
            have hP : va_P D vwCl (wM b g 2 n K V (fun i9 => kd i9 + 1) SK SV) H := hP
            have hD : va_D A (wM b g 2 n K V (fun i9 => kd i9 + 1) SK SV) := hD
            have e0 : cdB (nI j) kind kd = 2 := cdB_2 ⟨okS_n hj, h1, h2⟩ (by rw [ix_n hj]; exact h3)
            refine lv_aload_n hx hb dX1_begin_38 rfl (lv_at hl 0 rfl) ?_
            refine va_get (D := D) (ci := 1) (v := .int 2) (C := RX1) (T := TX1) (N := 7) hx hb hts (fun w h => wm (ui_X1 w h)) hown hK hP 0 rfl rfl 0 (by decide) (hts (.fieldLink RX1 26 "LinkedIndexModel" "code" "I") (wm mb_47)) (fun _ h9 => h9) rfl dX1_begin_39 ?_
            refine lv_if_ne (tgt := 69) hx hb dX1_begin_42 (by decide) (fun h9 => ?_) (fun h9 => ?_)
            · skip
              have e1 : kdB (nI j) kind kd = kd := by unfold kdB; rw [e0]; rfl
              have e2 : svB (nI j) kind kd key SK = SK := by unfold svB; rw [e0]; rfl
              have e3 : svB (nI j) kind kd value SV = SV := by unfold svB; rw [e0]; rfl
              rw [e0, e1, e2, e3]
              exact fn_v hx hb hr hlocks (by decide) (by decide) trivial hP hK hD hS dX1_begin_69
            · skip
              first | exact absurd h9 (by decide) | exact (h9 rfl).elim
        · skip
          refine lv_iconst (v := 1) hx hb dX1_begin_17 (by decide) ?_
          refine lv_goto (tgt := 35) hx hb dX1_begin_18 (by decide) ?_
          refine va_put (D := D) (ci := 1) (v := .int 1) (ty := .int) (C := RX1) (T := TX1) (N := 7) hx hb hts (fun w h => wm (ui_X1 w h)) tyX1 tyX1_ok nmX1 hown hK hP hD hS 0 rfl rfl 0 (by decide) (hts (.fieldLink RX1 26 "LinkedIndexModel" "code" "I") (wm mb_47)) (fun _ h9 => h9) rfl (by decide +kernel) rfl rfl (Nat.le_of_ble_eq_true rfl) dX1_begin_35 (fun H locs hP hD hS => ?_)
          have hP : va_P D vwCl (wM b g 1 n K V (fun i9 => kd i9 + 1) SK SV) H := hP
          have hD : va_D A (wM b g 1 n K V (fun i9 => kd i9 + 1) SK SV) := hD
          have e0 : cdB slot kind kd = 1 := cdB_1 (fun q => h2 q.2.2)
          refine lv_aload_n hx hb dX1_begin_38 rfl (lv_at hl 0 rfl) ?_
          refine va_get (D := D) (ci := 1) (v := .int 1) (C := RX1) (T := TX1) (N := 7) hx hb hts (fun w h => wm (ui_X1 w h)) hown hK hP 0 rfl rfl 0 (by decide) (hts (.fieldLink RX1 26 "LinkedIndexModel" "code" "I") (wm mb_47)) (fun _ h9 => h9) rfl dX1_begin_39 ?_
          refine lv_if_ne (tgt := 69) hx hb dX1_begin_42 (by decide) (fun h9 => ?_) (fun h9 => ?_)
          · skip
            have e1 : kdB slot kind kd = kd := by unfold kdB; rw [e0]; rfl
            have e2 : svB slot kind kd key SK = SK := by unfold svB; rw [e0]; rfl
            have e3 : svB slot kind kd value SV = SV := by unfold svB; rw [e0]; rfl
            rw [e0, e1, e2, e3]
            exact fn_v hx hb hr hlocks (by decide) (by decide) trivial hP hK hD hS dX1_begin_69
          · skip
            first | exact absurd h9 (by decide) | exact (h9 rfl).elim
  · skip
    rw [if_neg hs] at hp
    subst hp
    refine lv_if_eq (tgt := 17) hx hb dX1_begin_5 (by decide) (fun h0 => ?_) (fun h0 => ?_)
    · skip
      refine lv_iconst (v := 1) hx hb dX1_begin_17 (by decide) ?_
      refine lv_goto (tgt := 35) hx hb dX1_begin_18 (by decide) ?_
      refine va_put (D := D) (ci := 1) (v := .int 1) (ty := .int) (C := RX1) (T := TX1) (N := 7) hx hb hts (fun w h => wm (ui_X1 w h)) tyX1 tyX1_ok nmX1 hown hK hP hD hS 0 rfl rfl 0 (by decide) (hts (.fieldLink RX1 26 "LinkedIndexModel" "code" "I") (wm mb_47)) (fun _ h9 => h9) rfl (by decide +kernel) rfl rfl (Nat.le_of_ble_eq_true rfl) dX1_begin_35 (fun H locs hP hD hS => ?_)
      have hP : va_P D vwCl (wM b g 1 n K V (fun i9 => kd i9 + 1) SK SV) H := hP
      have hD : va_D A (wM b g 1 n K V (fun i9 => kd i9 + 1) SK SV) := hD
      have e0 : cdB slot kind kd = 1 := cdB_1 (fun q => hs q.1)
      refine lv_aload_n hx hb dX1_begin_38 rfl (lv_at hl 0 rfl) ?_
      refine va_get (D := D) (ci := 1) (v := .int 1) (C := RX1) (T := TX1) (N := 7) hx hb hts (fun w h => wm (ui_X1 w h)) hown hK hP 0 rfl rfl 0 (by decide) (hts (.fieldLink RX1 26 "LinkedIndexModel" "code" "I") (wm mb_47)) (fun _ h9 => h9) rfl dX1_begin_39 ?_
      refine lv_if_ne (tgt := 69) hx hb dX1_begin_42 (by decide) (fun h9 => ?_) (fun h9 => ?_)
      · skip
        have e1 : kdB slot kind kd = kd := by unfold kdB; rw [e0]; rfl
        have e2 : svB slot kind kd key SK = SK := by unfold svB; rw [e0]; rfl
        have e3 : svB slot kind kd value SV = SV := by unfold svB; rw [e0]; rfl
        rw [e0, e1, e2, e3]
        exact fn_v hx hb hr hlocks (by decide) (by decide) trivial hP hK hD hS dX1_begin_69
      · skip
        first | exact absurd h9 (by decide) | exact (h9 rfl).elim
    · skip
      first | exact absurd h0 (by decide) | exact (h0 rfl).elim
set_option maxHeartbeats 1000000 in
set_option maxRecDepth 100000 in
theorem m_step (l : Launch) (hl9 : l.stackTraces = false) (D : va_G) (b : Nat → Nat) (g : Nat → ClassId) (cd : Int32) (n : Nat) (K V : Nat → Int64) (kd : Nat → Int32) (SK SV : Nat → Int64) (slot x : Int32) (sz : Nat) (hk : ∀ j, j < 8 → kOk (kd j)) : Met l yX1_step wsX1_step ({ frames := 1, cells := 0, slots := 0, locals := 20 }) (cP D (tM g) (wM b g cd n K V (fun i9 => kd i9 + 1) SK SV) [.ref (b 0), .int slot, .int x] sz) (cQv D (tM g) True (wM b g (cdT slot x kd) n K V (fun i9 => kd i9 + 1) SK SV) (va_A (wM b g cd n K V (fun i9 => kd i9 + 1) SK SV) sz)) 0 0 (va_A (wM b g cd n K V (fun i9 => kd i9 + 1) SK SV) sz) := by
  refine mk_n (cc := cX1_step) (maxL := 3) (ret := none) (fun A => cQv D (tM g) True (wM b g (cdT slot x kd) n K V (fun i9 => kd i9 + 1) SK SV) A) (by decide) rfl (Nat.le_of_ble_eq_true rfl) ?_
  intro p e s m below meth c ls A hx hb hr hml hlocks hnm hown hts hP hK hD hZ hA hS hl
  have hown : s.vm.findClass RX1 = some m.cls := hown
  have hl : lv_has ls 3 [(0, .ref (b 0)), (1, .int slot), (2, .int x)] := hl
  refine lv_aload_n hx hb dX1_step_0 rfl (lv_at hl 0 rfl) ?_
  refine lv_iload_n hx hb dX1_step_1 rfl (lv_at hl 1 rfl) ?_
  refine kn_i (wc := []) (wr := (wM b g cd n K V (fun i9 => kd i9 + 1) SK SV)) (w1 := []) (va_runS (As := [.int slot]) (rest := [.ref (b 0)]) ⟨hx, hb, hml, hown, hts⟩ (m_isSlot l hl9 D slot s.heap.size) (va_cwS 1 hts (gd_up (gd_S mb_48 mb_49 mb_50 mb_51)) rfl rfl rfl (by decide +kernel) ⟨by decide, by decide⟩) ⟨cP_blind, cPre hP hD hK hS hA hZ [] rfl (by decide) [] rfl⟩ rfl rfl hl.1 rfl (lv_room (Nat.le_of_ble_eq_true rfl)) dX1_step_2 ⟨by decide, by decide⟩) hP hD hS hA [] [0, 1, 2, 3, 4, 5] rfl rfl (by decide) (by decide) (fun r9 H locs hp hP hD hS => ?_)
  have hP : va_P D vwCl (wM b g cd n K V (fun i9 => kd i9 + 1) SK SV) H := hP
  have hD : va_D A (wM b g cd n K V (fun i9 => kd i9 + 1) SK SV) := hD
  by_cases hs : okS slot
  · skip
    rw [if_pos hs] at hp
    subst hp
    refine lv_if_eq (tgt := 18) hx hb dX1_step_5 (by decide) (fun h0 => ?_) (fun h0 => ?_)
    · skip
      first | exact absurd h0 (by decide) | exact (h0 rfl).elim
    · skip
      refine lv_iload_n hx hb dX1_step_8 rfl (lv_at hl 2 rfl) ?_
      refine lv_if_lt (tgt := 18) hx hb dX1_step_9 (by decide) (fun h1 => ?_) (fun h1 => ?_)
      · skip
        refine lv_iconst (v := 1) hx hb dX1_step_18 (by decide) ?_
        refine lv_goto (tgt := 36) hx hb dX1_step_19 (by decide) ?_
        refine va_put (D := D) (ci := 1) (v := .int 1) (ty := .int) (C := RX1) (T := TX1) (N := 7) hx hb hts (fun w h => wm (ui_X1 w h)) tyX1 tyX1_ok nmX1 hown hK hP hD hS 0 rfl rfl 0 (by decide) (hts (.fieldLink RX1 26 "LinkedIndexModel" "code" "I") (wm mb_47)) (fun _ h9 => h9) rfl (by decide +kernel) rfl rfl (Nat.le_of_ble_eq_true rfl) dX1_step_36 (fun H locs hP hD hS => ?_)
        have hP : va_P D vwCl (wM b g 1 n K V (fun i9 => kd i9 + 1) SK SV) H := hP
        have hD : va_D A (wM b g 1 n K V (fun i9 => kd i9 + 1) SK SV) := hD
        rw [show cdT slot x kd = 1 from cdT_1 (fun q => q.2.1 h1)]
        exact fn_v hx hb hr hlocks (by decide) (by decide) trivial hP hK hD hS dX1_step_39
      · skip
        refine lv_iload_n hx hb dX1_step_12 rfl (lv_at hl 2 rfl) ?_
        refine lv_bipush (v := 20) hx hb dX1_step_13 (by decide) ?_
        refine lv_icmp_le (tgt := 22) hx hb dX1_step_15 (by decide) (fun h2 => ?_) (fun h2 => ?_)
        · skip
          obtain ⟨j, hj, rfl⟩ := okS_of hs
          refine lv_aload_n hx hb dX1_step_22 rfl (lv_at hl 0 rfl) ?_
          refine va_get (D := D) (ci := 1) (v := .ref (b 3)) (C := RX1) (T := TX1) (N := 7) hx hb hts (fun w h => wm (ui_X1 w h)) hown hK hP 0 rfl rfl 4 (by decide) (hts (.fieldLink RX1 16 "LinkedIndexModel" "kinds" "[I") (wm mb_52)) (fun _ h9 => h9) rfl dX1_step_23 ?_
          refine lv_iload_n hx hb dX1_step_26 rfl (lv_at hl 1 rfl) ?_
          refine x_iald (j := j) hx hb hK hP 3 2 rfl rfl hj (by decide) dX1_step_27 ?_
          refine lv_if_ne (tgt := 35) hx hb dX1_step_28 (by decide) (fun h3 => ?_) (fun h3 => ?_)
          · skip
            refine lv_iconst (v := 0) hx hb dX1_step_35 (by decide) ?_
            refine va_put (D := D) (ci := 1) (v := .int 0) (ty := .int) (C := RX1) (T := TX1) (N := 7) hx hb hts (fun w h => wm (ui_X1 w h)) tyX1 tyX1_ok nmX1 hown hK hP hD hS 0 rfl rfl 0 (by decide) (hts (.fieldLink RX1 26 "LinkedIndexModel" "code" "I") (wm mb_47)) (fun _ h9 => h9) rfl (by decide +kernel) rfl rfl (Nat.le_of_ble_eq_true rfl) dX1_step_36 (fun H locs hP hD hS => ?_)
            have hP : va_P D vwCl (wM b g 0 n K V (fun i9 => kd i9 + 1) SK SV) H := hP
            have hD : va_D A (wM b g 0 n K V (fun i9 => kd i9 + 1) SK SV) := hD
            rw [show cdT (nI j) x kd = 0 from cdT_0 ⟨okS_n hj, h1, h2⟩ (by rw [ix_n hj]; exact fun q => h3 ((kOk_nz (hk j hj)).mpr q))]
            exact fn_v hx hb hr hlocks (by decide) (by decide) trivial hP hK hD hS dX1_step_39
          · skip
            refine lv_iconst (v := 2) hx hb dX1_step_31 (by decide) ?_
            refine lv_goto (tgt := 36) hx hb dX1_step_32 (by decide) ?_
            refine va_put (D := D) (ci := 1) (v := .int 2) (ty := .int) (C := RX1) (T := TX1) (N := 7) hx hb hts (fun w h => wm (ui_X1 w h)) tyX1 tyX1_ok nmX1 hown hK hP hD hS 0 rfl rfl 0 (by decide) (hts (.fieldLink RX1 26 "LinkedIndexModel" "code" "I") (wm mb_47)) (fun _ h9 => h9) rfl (by decide +kernel) rfl rfl (Nat.le_of_ble_eq_true rfl) dX1_step_36 (fun H locs hP hD hS => ?_)
            have hP : va_P D vwCl (wM b g 2 n K V (fun i9 => kd i9 + 1) SK SV) H := hP
            have hD : va_D A (wM b g 2 n K V (fun i9 => kd i9 + 1) SK SV) := hD
            rw [show cdT (nI j) x kd = 2 from cdT_2 ⟨okS_n hj, h1, h2⟩ (by rw [ix_n hj]; exact (kOk_nz (hk j hj)).mp h3)]
            exact fn_v hx hb hr hlocks (by decide) (by decide) trivial hP hK hD hS dX1_step_39
        · skip
          refine lv_iconst (v := 1) hx hb dX1_step_18 (by decide) ?_
          refine lv_goto (tgt := 36) hx hb dX1_step_19 (by decide) ?_
          refine va_put (D := D) (ci := 1) (v := .int 1) (ty := .int) (C := RX1) (T := TX1) (N := 7) hx hb hts (fun w h => wm (ui_X1 w h)) tyX1 tyX1_ok nmX1 hown hK hP hD hS 0 rfl rfl 0 (by decide) (hts (.fieldLink RX1 26 "LinkedIndexModel" "code" "I") (wm mb_47)) (fun _ h9 => h9) rfl (by decide +kernel) rfl rfl (Nat.le_of_ble_eq_true rfl) dX1_step_36 (fun H locs hP hD hS => ?_)
          have hP : va_P D vwCl (wM b g 1 n K V (fun i9 => kd i9 + 1) SK SV) H := hP
          have hD : va_D A (wM b g 1 n K V (fun i9 => kd i9 + 1) SK SV) := hD
          rw [show cdT slot x kd = 1 from cdT_1 (fun q => h2 q.2.2)]
          exact fn_v hx hb hr hlocks (by decide) (by decide) trivial hP hK hD hS dX1_step_39
  · skip
    rw [if_neg hs] at hp
    subst hp
    refine lv_if_eq (tgt := 18) hx hb dX1_step_5 (by decide) (fun h0 => ?_) (fun h0 => ?_)
    · skip
      refine lv_iconst (v := 1) hx hb dX1_step_18 (by decide) ?_
      refine lv_goto (tgt := 36) hx hb dX1_step_19 (by decide) ?_
      refine va_put (D := D) (ci := 1) (v := .int 1) (ty := .int) (C := RX1) (T := TX1) (N := 7) hx hb hts (fun w h => wm (ui_X1 w h)) tyX1 tyX1_ok nmX1 hown hK hP hD hS 0 rfl rfl 0 (by decide) (hts (.fieldLink RX1 26 "LinkedIndexModel" "code" "I") (wm mb_47)) (fun _ h9 => h9) rfl (by decide +kernel) rfl rfl (Nat.le_of_ble_eq_true rfl) dX1_step_36 (fun H locs hP hD hS => ?_)
      have hP : va_P D vwCl (wM b g 1 n K V (fun i9 => kd i9 + 1) SK SV) H := hP
      have hD : va_D A (wM b g 1 n K V (fun i9 => kd i9 + 1) SK SV) := hD
      rw [show cdT slot x kd = 1 from cdT_1 (fun q => hs q.1)]
      exact fn_v hx hb hr hlocks (by decide) (by decide) trivial hP hK hD hS dX1_step_39
    · skip
      first | exact absurd h0 (by decide) | exact (h0 rfl).elim
set_option maxHeartbeats 1000000 in
set_option maxRecDepth 100000 in
theorem m_rank (l : Launch) (hl9 : l.stackTraces = false) (D : va_G) (b : Nat → Nat) (g : Nat → ClassId) (cd : Int32) (n : Nat) (K V : Nat → Int64) (kd : Nat → Int32) (SK SV : Nat → Int64) (key : Int64) (sz : Nat) (hn : n ≤ 100) : Met l yX1_rank wsX1_rank ({ frames := 0, cells := 0, slots := 0, locals := 0 }) (cP D (tM g) (wM b g cd n K V (fun i9 => kd i9 + 1) SK SV) [.ref (b 0), .long key] sz) (cQi D (tM g) (fun r => r = nI (rk K key n)) (wM b g cd n K V (fun i9 => kd i9 + 1) SK SV) (va_A (wM b g cd n K V (fun i9 => kd i9 + 1) SK SV) sz)) 0 0 (va_A (wM b g cd n K V (fun i9 => kd i9 + 1) SK SV) sz) := by
  refine mk_n (cc := cX1_rank) (maxL := 4) (ret := (some .int)) (fun A => cQi D (tM g) (fun r => r = nI (rk K key n)) (wM b g cd n K V (fun i9 => kd i9 + 1) SK SV) A) (by decide) rfl (Nat.le_of_ble_eq_true rfl) ?_
  intro p e s m below meth c ls A hx hb hr hml hlocks hnm hown hts hP hK hD hZ hA hS hl
  have hown : s.vm.findClass RX1 = some m.cls := hown
  have hl : lv_has ls 4 [(0, .ref (b 0)), (1, .long key)] := hl
  refine lv_iconst (v := 0) hx hb dX1_rank_0 (by decide) ?_
  refine lv_istore_n (lv' := [(3, .int 0), (0, .ref (b 0)), (1, .long key)]) hx hb dX1_rank_1 rfl hl (by decide) rfl (fun ls hl => ?_)
  have loop : ∀ (f i : Nat), n - i < f → i ≤ n → rkF K key (n - i) i = rk K key n → ∀ ls : Array Slot, lv_has ls 4 [(3, .int (nI i)), (0, .ref (b 0)), (1, .long key)] → W p l e ({ frames := 0, cells := 0, slots := 0, locals := 0 }) s m ([.ref (b 0), .long key] : List Value).toArray below meth c s.heap [] 0 0 (MQ below (cQi D (tM g) (fun r => r = nI (rk K key n)) (wM b g cd n K V (fun i9 => kd i9 + 1) SK SV) A) ([.ref (b 0), .long key] : List Value).toArray s 0 0 A) (F0 m 2 ls []) := by
    intro f
    induction f with
    | zero => intro i hf; omega
    | succ f ih =>
      intro i hf hi hk ls hl
      refine lv_iload_n hx hb dX1_rank_2 rfl (lv_at hl 0 rfl) ?_
      refine lv_aload_n hx hb dX1_rank_3 rfl (lv_at hl 1 rfl) ?_
      refine va_get (D := D) (ci := 1) (v := .int (nI n)) (C := RX1) (T := TX1) (N := 7) hx hb hts (fun w h => wm (ui_X1 w h)) hown hK hP 0 rfl rfl 1 (by decide) (hts (.fieldLink RX1 34 "LinkedIndexModel" "size" "I") (wm mb_55)) (fun _ h9 => h9) rfl dX1_rank_4 ?_
      refine lv_icmp_ge (tgt := 27) hx hb dX1_rank_7 (by decide) (fun h1 => ?_) (fun h1 => ?_)
      · skip
        have h1 : n ≤ i := (nI_leI (by omega) (by omega)).mp h1
        refine lv_iload_n hx hb dX1_rank_27 rfl (lv_at hl 0 rfl) ?_
        exact fn_i hx hb hr hlocks (by decide) (by decide) (by rw [← hk, rkF_z h1]) hP hK hD hS dX1_rank_28
      · skip
        have h1 : i < n := Nat.lt_of_not_le (fun q => h1 ((nI_leI (by omega) (by omega)).mpr q))
        refine lv_aload_n hx hb dX1_rank_10 rfl (lv_at hl 1 rfl) ?_
        refine va_get (D := D) (ci := 1) (v := .ref (b 1)) (C := RX1) (T := TX1) (N := 7) hx hb hts (fun w h => wm (ui_X1 w h)) hown hK hP 0 rfl rfl 2 (by decide) (hts (.fieldLink RX1 7 "LinkedIndexModel" "keys" "[J") (wm mb_56)) (fun _ h9 => h9) rfl dX1_rank_11 ?_
        refine lv_iload_n hx hb dX1_rank_14 rfl (lv_at hl 0 rfl) ?_
        refine x_lald (j := i) hx hb hK hP 1 0 rfl rfl (by omega) (by decide) dX1_rank_15 ?_
        refine lv_lload_n hx hb dX1_rank_16 rfl (lv_at hl 2 rfl) ?_
        refine W.lcmp hx hb dX1_rank_17 ?_
        refine lv_if_ge (tgt := 27) hx hb dX1_rank_18 (by decide) (fun h2 => ?_) (fun h2 => ?_)
        · skip
          have h2 : ¬ K i < key := fun q => i64_nltle q ((lg_cmp_ge _ _).mp h2)
          refine lv_iload_n hx hb dX1_rank_27 rfl (lv_at hl 0 rfl) ?_
          exact fn_i hx hb hr hlocks (by decide) (by decide) (by rw [← hk, rkF_e h1 h2]) hP hK hD hS dX1_rank_28
        · skip
          have h2 : K i < key := i64_nle (fun q => h2 ((lg_cmp_ge _ _).mpr q))
          refine lv_iinc (k := 0) (v := nI (i + 1)) (lv' := [(3, .int (nI (i + 1))), (0, .ref (b 0)), (1, .long key)]) hx hb dX1_rank_21 hl rfl (by rw [show Int32.ofInt 1 = 1 from by decide]; exact nI_1 _) (by decide) rfl (fun ls hl => ?_)
          refine lv_goto (tgt := 2) hx hb dX1_rank_24 (by decide) ?_
          exact ih (i + 1) (by omega) (by omega) (by rw [← rkF_s h1 h2]; exact hk) ls hl
  exact loop (n + 1) 0 (by omega) (by omega) rfl ls hl
set_option maxHeartbeats 1000000 in
set_option maxRecDepth 100000 in
theorem m_put (l : Launch) (hl9 : l.stackTraces = false) (D : va_G) (b : Nat → Nat) (g : Nat → ClassId) (cd : Int32) (n : Nat) (K V : Nat → Int64) (kd : Nat → Int32) (SK SV : Nat → Int64) (r : Nat) (t : Int32) (key val : Int64) (sz : Nat) (hr9 : r ≤ n) (hn : n ≤ 100) (ht : t = (if atR K n key r then 1 else 0)) (hf9 : atR K n key r ∨ n < 100) : Met l yX1_put wsX1_put ({ frames := 0, cells := 0, slots := 0, locals := 0 }) (cP D (tM g) (wM b g cd n K V (fun i9 => kd i9 + 1) SK SV) [.ref (b 0), .int (nI r), .int t, .long key, .long val] sz) (cQl D (tM g) (fun v => v = (if atR K n key r then 1 else 0)) (wM b g cd (fpN n K key r) (fpK n K key r) (fpV n K V key val r) (fun i9 => kd i9 + 1) SK SV) (va_A (wM b g cd n K V (fun i9 => kd i9 + 1) SK SV) sz)) 0 0 (va_A (wM b g cd n K V (fun i9 => kd i9 + 1) SK SV) sz) := by
  refine mk_n (cc := cX1_put) (maxL := 8) (ret := (some .long)) (fun A => cQl D (tM g) (fun v => v = (if atR K n key r then 1 else 0)) (wM b g cd (fpN n K key r) (fpK n K key r) (fpV n K V key val r) (fun i9 => kd i9 + 1) SK SV) A) (by decide) rfl (Nat.le_of_ble_eq_true rfl) ?_
  intro p e s m below meth c ls A hx hb hr hml hlocks hnm hown hts hP hK hD hZ hA hS hl
  have hown : s.vm.findClass RX1 = some m.cls := hown
  have hl : lv_has ls 8 [(0, .ref (b 0)), (1, .int (nI r)), (2, .int t), (3, .long key), (5, .long val)] := hl
  by_cases h4 : atR K n key r
  · skip
    have hlt := h4.1
    rw [if_pos h4] at ht
    subst ht
    refine lv_iload_n hx hb dX1_put_0 rfl (lv_at hl 2 rfl) ?_
    refine lv_if_eq (tgt := 14) hx hb dX1_put_1 (by decide) (fun h0 => ?_) (fun h0 => ?_)
    · skip
      first | exact absurd h0 (by decide) | exact (h0 rfl).elim
    · skip
      refine lv_aload_n hx hb dX1_put_4 rfl (lv_at hl 0 rfl) ?_
      refine va_get (D := D) (ci := 1) (v := .ref (b 2)) (C := RX1) (T := TX1) (N := 7) hx hb hts (fun w h => wm (ui_X1 w h)) hown hK hP 0 rfl rfl 3 (by decide) (hts (.fieldLink RX1 13 "LinkedIndexModel" "values" "[J") (wm mb_57)) (fun _ h9 => h9) rfl dX1_put_5 ?_
      refine lv_iload_n hx hb dX1_put_8 rfl (lv_at hl 1 rfl) ?_
      refine lv_lload hx hb dX1_put_9 (lv_at hl 4 rfl) ?_
      refine x_last (j := r) hx hb hK hP hD hS 2 1 rfl rfl (by omega) (by decide) dX1_put_11 (fun H locs hP hD hS => ?_)
      have hP : va_P D vwCl (wM b g cd n K (vp_updL V r val) (fun i9 => kd i9 + 1) SK SV) H := hP
      have hD : va_D A (wM b g cd n K (vp_updL V r val) (fun i9 => kd i9 + 1) SK SV) := hD
      refine lv_lconst (v := 1) hx hb dX1_put_12 (by decide) ?_
      have e1 : fpN n K key r = n := if_pos h4
      have e2 : fpK n K key r = K := if_pos h4
      have e3 : fpV n K V key val r = vp_updL V r val := by unfold fpV; rw [if_pos h4]
      rw [e1, e2, e3, if_pos h4]
      exact fn_l hx hb hr hlocks (by decide) (by decide) rfl hP hK hD hS dX1_put_13
  · skip
    have h5 : n < 100 := hf9.resolve_left h4
    rw [if_neg h4] at ht
    subst ht
    refine lv_iload_n hx hb dX1_put_0 rfl (lv_at hl 2 rfl) ?_
    refine lv_if_eq (tgt := 14) hx hb dX1_put_1 (by decide) (fun h0 => ?_) (fun h0 => ?_)
    · skip
      refine lv_aload_n hx hb dX1_put_14 rfl (lv_at hl 0 rfl) ?_
      refine va_get (D := D) (ci := 1) (v := .int (nI n)) (C := RX1) (T := TX1) (N := 7) hx hb hts (fun w h => wm (ui_X1 w h)) hown hK hP 0 rfl rfl 1 (by decide) (hts (.fieldLink RX1 34 "LinkedIndexModel" "size" "I") (wm mb_55)) (fun _ h9 => h9) rfl dX1_put_15 ?_
      refine lv_istore (lv' := [(7, .int (nI n)), (0, .ref (b 0)), (1, .int (nI r)), (2, .int 0), (3, .long key), (5, .long val)]) hx hb dX1_put_18 hl (by decide) rfl (fun ls hl => ?_)
      have loop : ∀ (d : Nat) (Kc Vc : Nat → Int64) (H : Heap) (locs : List Loc), r + d ≤ n → opF r d Kc = opF r (n - r) K → opF r d Vc = opF r (n - r) V → va_P D vwCl (wM b g cd n Kc Vc (fun i9 => kd i9 + 1) SK SV) H → va_D A (wM b g cd n Kc Vc (fun i9 => kd i9 + 1) SK SV) → va_S A s.heap H locs → ∀ ls : Array Slot, lv_has ls 8 [(7, .int (nI (r + d))), (0, .ref (b 0)), (1, .int (nI r)), (2, .int 0), (3, .long key), (5, .long val)] → W p l e ({ frames := 0, cells := 0, slots := 0, locals := 0 }) s m ([.ref (b 0), .int (nI r), .int 0, .long key, .long val] : List Value).toArray below meth c H locs 0 0 (MQ below (cQl D (tM g) (fun v => v = (if atR K n key r then 1 else 0)) (wM b g cd (fpN n K key r) (fpK n K key r) (fpV n K V key val r) (fun i9 => kd i9 + 1) SK SV) A) ([.ref (b 0), .int (nI r), .int 0, .long key, .long val] : List Value).toArray s 0 0 A) (F0 m 20 ls []) := by
        intro d
        induction d with
        | zero =>
          intro Kc Vc H locs hd e1 e2 hP hD hS ls hl
          have e1 : Kc = opF r (n - r) K := e1
          have e2 : Vc = opF r (n - r) V := e2
          subst e1
          subst e2
          refine lv_iload hx hb dX1_put_20 (lv_at hl 0 rfl) ?_
          refine lv_iload_n hx hb dX1_put_22 rfl (lv_at hl 2 rfl) ?_
          refine lv_icmp_le (tgt := 64) hx hb dX1_put_23 (by decide) (fun h1 => ?_) (fun h1 => ?_)
          · skip
            refine lv_aload_n hx hb dX1_put_64 rfl (lv_at hl 1 rfl) ?_
            refine va_get (D := D) (ci := 1) (v := .ref (b 1)) (C := RX1) (T := TX1) (N := 7) hx hb hts (fun w h => wm (ui_X1 w h)) hown hK hP 0 rfl rfl 2 (by decide) (hts (.fieldLink RX1 7 "LinkedIndexModel" "keys" "[J") (wm mb_56)) (fun _ h9 => h9) rfl dX1_put_65 ?_
            refine lv_iload_n hx hb dX1_put_68 rfl (lv_at hl 2 rfl) ?_
            refine lv_lload_n hx hb dX1_put_69 rfl (lv_at hl 4 rfl) ?_
            refine x_last (j := r) hx hb hK hP hD hS 1 0 rfl rfl (by omega) (by decide) dX1_put_70 (fun H locs hP hD hS => ?_)
            have hP : va_P D vwCl (wM b g cd n (vp_updL (opF r (n - r) K) r key) (opF r (n - r) V) (fun i9 => kd i9 + 1) SK SV) H := hP
            have hD : va_D A (wM b g cd n (vp_updL (opF r (n - r) K) r key) (opF r (n - r) V) (fun i9 => kd i9 + 1) SK SV) := hD
            refine lv_aload_n hx hb dX1_put_71 rfl (lv_at hl 1 rfl) ?_
            refine va_get (D := D) (ci := 1) (v := .ref (b 2)) (C := RX1) (T := TX1) (N := 7) hx hb hts (fun w h => wm (ui_X1 w h)) hown hK hP 0 rfl rfl 3 (by decide) (hts (.fieldLink RX1 13 "LinkedIndexModel" "values" "[J") (wm mb_57)) (fun _ h9 => h9) rfl dX1_put_72 ?_
            refine lv_iload_n hx hb dX1_put_75 rfl (lv_at hl 2 rfl) ?_
            refine lv_lload hx hb dX1_put_76 (lv_at hl 5 rfl) ?_
            refine x_last (j := r) hx hb hK hP hD hS 2 1 rfl rfl (by omega) (by decide) dX1_put_78 (fun H locs hP hD hS => ?_)
            have hP : va_P D vwCl (wM b g cd n (vp_updL (opF r (n - r) K) r key) (vp_updL (opF r (n - r) V) r val) (fun i9 => kd i9 + 1) SK SV) H := hP
            have hD : va_D A (wM b g cd n (vp_updL (opF r (n - r) K) r key) (vp_updL (opF r (n - r) V) r val) (fun i9 => kd i9 + 1) SK SV) := hD
            refine lv_aload_n hx hb dX1_put_79 rfl (lv_at hl 1 rfl) ?_
            refine lv_dup hx hb dX1_put_80 rfl ?_
            refine va_get (D := D) (ci := 1) (v := .int (nI n)) (C := RX1) (T := TX1) (N := 7) hx hb hts (fun w h => wm (ui_X1 w h)) hown hK hP 0 rfl rfl 1 (by decide) (hts (.fieldLink RX1 34 "LinkedIndexModel" "size" "I") (wm mb_55)) (fun _ h9 => h9) rfl dX1_put_81 ?_
            refine lv_iconst (v := 1) hx hb dX1_put_84 (by decide) ?_
            refine lv_iadd hx hb dX1_put_85 ?_
            refine xi (y := nI (n + 1)) (nI_add n 1) ?_
            refine va_put (D := D) (ci := 1) (v := .int (nI (n + 1))) (ty := .int) (C := RX1) (T := TX1) (N := 7) hx hb hts (fun w h => wm (ui_X1 w h)) tyX1 tyX1_ok nmX1 hown hK hP hD hS 0 rfl rfl 1 (by decide) (hts (.fieldLink RX1 34 "LinkedIndexModel" "size" "I") (wm mb_55)) (fun _ h9 => h9) rfl (by decide +kernel) rfl rfl (Nat.le_of_ble_eq_true rfl) dX1_put_86 (fun H locs hP hD hS => ?_)
            have hP : va_P D vwCl (wM b g cd (n + 1) (vp_updL (opF r (n - r) K) r key) (vp_updL (opF r (n - r) V) r val) (fun i9 => kd i9 + 1) SK SV) H := hP
            have hD : va_D A (wM b g cd (n + 1) (vp_updL (opF r (n - r) K) r key) (vp_updL (opF r (n - r) V) r val) (fun i9 => kd i9 + 1) SK SV) := hD
            refine lv_lconst (v := 0) hx hb dX1_put_89 (by decide) ?_
            have e1 : fpN n K key r = n + 1 := if_neg h4
            have e2 : fpK n K key r = vp_updL (opF r (n - r) K) r key := if_neg h4
            have e3 : fpV n K V key val r = vp_updL (opF r (n - r) V) r val := by unfold fpV; rw [if_neg h4]
            rw [e1, e2, e3, if_neg h4]
            exact fn_l hx hb hr hlocks (by decide) (by decide) rfl hP hK hD hS dX1_put_90
          · skip
            exact absurd ((nI_leI (by omega) (by omega)).mpr (Nat.le_refl _)) h1
        | succ d ih =>
          intro Kc Vc H locs hd e1 e2 hP hD hS ls hl
          refine lv_iload hx hb dX1_put_20 (lv_at hl 0 rfl) ?_
          refine lv_iload_n hx hb dX1_put_22 rfl (lv_at hl 2 rfl) ?_
          refine lv_icmp_le (tgt := 64) hx hb dX1_put_23 (by decide) (fun h1 => ?_) (fun h1 => ?_)
          · skip
            exact absurd ((nI_leI (by omega) (by omega)).mp h1) (by omega)
          · skip
            refine lv_aload_n hx hb dX1_put_26 rfl (lv_at hl 1 rfl) ?_
            refine va_get (D := D) (ci := 1) (v := .ref (b 1)) (C := RX1) (T := TX1) (N := 7) hx hb hts (fun w h => wm (ui_X1 w h)) hown hK hP 0 rfl rfl 2 (by decide) (hts (.fieldLink RX1 7 "LinkedIndexModel" "keys" "[J") (wm mb_56)) (fun _ h9 => h9) rfl dX1_put_27 ?_
            refine lv_iload hx hb dX1_put_30 (lv_at hl 0 rfl) ?_
            refine lv_aload_n hx hb dX1_put_32 rfl (lv_at hl 1 rfl) ?_
            refine va_get (D := D) (ci := 1) (v := .ref (b 1)) (C := RX1) (T := TX1) (N := 7) hx hb hts (fun w h => wm (ui_X1 w h)) hown hK hP 0 rfl rfl 2 (by decide) (hts (.fieldLink RX1 7 "LinkedIndexModel" "keys" "[J") (wm mb_56)) (fun _ h9 => h9) rfl dX1_put_33 ?_
            refine lv_iload hx hb dX1_put_36 (lv_at hl 0 rfl) ?_
            refine lv_iconst (v := 1) hx hb dX1_put_38 (by decide) ?_
            refine lv_isub hx hb dX1_put_39 ?_
            refine xi (y := nI (r + d)) (nI_pred _) ?_
            refine x_lald (j := (r + d)) hx hb hK hP 1 0 rfl rfl (by omega) (by decide) dX1_put_40 ?_
            refine x_last (j := (r + d + 1)) hx hb hK hP hD hS 1 0 rfl rfl (by omega) (by decide) dX1_put_41 (fun H locs hP hD hS => ?_)
            have hP : va_P D vwCl (wM b g cd n (vp_updL Kc (r + d + 1) (Kc (r + d))) Vc (fun i9 => kd i9 + 1) SK SV) H := hP
            have hD : va_D A (wM b g cd n (vp_updL Kc (r + d + 1) (Kc (r + d))) Vc (fun i9 => kd i9 + 1) SK SV) := hD
            refine lv_aload_n hx hb dX1_put_42 rfl (lv_at hl 1 rfl) ?_
            refine va_get (D := D) (ci := 1) (v := .ref (b 2)) (C := RX1) (T := TX1) (N := 7) hx hb hts (fun w h => wm (ui_X1 w h)) hown hK hP 0 rfl rfl 3 (by decide) (hts (.fieldLink RX1 13 "LinkedIndexModel" "values" "[J") (wm mb_57)) (fun _ h9 => h9) rfl dX1_put_43 ?_
            refine lv_iload hx hb dX1_put_46 (lv_at hl 0 rfl) ?_
            refine lv_aload_n hx hb dX1_put_48 rfl (lv_at hl 1 rfl) ?_
            refine va_get (D := D) (ci := 1) (v := .ref (b 2)) (C := RX1) (T := TX1) (N := 7) hx hb hts (fun w h => wm (ui_X1 w h)) hown hK hP 0 rfl rfl 3 (by decide) (hts (.fieldLink RX1 13 "LinkedIndexModel" "values" "[J") (wm mb_57)) (fun _ h9 => h9) rfl dX1_put_49 ?_
            refine lv_iload hx hb dX1_put_52 (lv_at hl 0 rfl) ?_
            refine lv_iconst (v := 1) hx hb dX1_put_54 (by decide) ?_
            refine lv_isub hx hb dX1_put_55 ?_
            refine xi (y := nI (r + d)) (nI_pred _) ?_
            refine x_lald (j := (r + d)) hx hb hK hP 2 1 rfl rfl (by omega) (by decide) dX1_put_56 ?_
            refine x_last (j := (r + d + 1)) hx hb hK hP hD hS 2 1 rfl rfl (by omega) (by decide) dX1_put_57 (fun H locs hP hD hS => ?_)
            have hP : va_P D vwCl (wM b g cd n (vp_updL Kc (r + d + 1) (Kc (r + d))) (vp_updL Vc (r + d + 1) (Vc (r + d))) (fun i9 => kd i9 + 1) SK SV) H := hP
            have hD : va_D A (wM b g cd n (vp_updL Kc (r + d + 1) (Kc (r + d))) (vp_updL Vc (r + d + 1) (Vc (r + d))) (fun i9 => kd i9 + 1) SK SV) := hD
            refine lv_iinc (k := 0) (v := nI (r + d)) (lv' := [(7, .int (nI (r + d))), (0, .ref (b 0)), (1, .int (nI r)), (2, .int 0), (3, .long key), (5, .long val)]) hx hb dX1_put_58 hl rfl (by rw [show Int32.ofInt (-1) = -1 from by decide]; exact pk_m1 _) (by decide) rfl (fun ls hl => ?_)
            refine lv_goto (tgt := 20) hx hb dX1_put_61 (by decide) ?_
            exact ih _ _ H locs (by omega) e1 e2 hP hD hS ls hl
      have e9 : r + (n - r) = n := by omega
      have hl : lv_has ls 8 [(7, .int (nI (r + (n - r)))), (0, .ref (b 0)), (1, .int (nI r)), (2, .int 0), (3, .long key), (5, .long val)] := by rw [e9]; exact hl
      exact loop (n - r) K V s.heap [] (by omega) rfl rfl hP hD hS ls hl
    · skip
      first | exact absurd h0 (by decide) | exact (h0 rfl).elim
set_option maxHeartbeats 1000000 in
set_option maxRecDepth 100000 in
theorem m_take (l : Launch) (hl9 : l.stackTraces = false) (D : va_G) (b : Nat → Nat) (g : Nat → ClassId) (cd : Int32) (n : Nat) (K V : Nat → Int64) (kd : Nat → Int32) (SK SV : Nat → Int64) (r : Nat) (sz : Nat) (hr9 : r < n) (hn : n ≤ 100) : Met l yX1_take wsX1_take ({ frames := 0, cells := 0, slots := 0, locals := 0 }) (cP D (tM g) (wM b g cd n K V (fun i9 => kd i9 + 1) SK SV) [.ref (b 0), .int (nI r)] sz) (cQl D (tM g) (fun v => v = V r) (wM b g cd (n - 1) (clF (n - 1 - r) r K) (clF (n - 1 - r) r V) (fun i9 => kd i9 + 1) SK SV) (va_A (wM b g cd n K V (fun i9 => kd i9 + 1) SK SV) sz)) 0 0 (va_A (wM b g cd n K V (fun i9 => kd i9 + 1) SK SV) sz) := by
  refine mk_n (cc := cX1_take) (maxL := 5) (ret := (some .long)) (fun A => cQl D (tM g) (fun v => v = V r) (wM b g cd (n - 1) (clF (n - 1 - r) r K) (clF (n - 1 - r) r V) (fun i9 => kd i9 + 1) SK SV) A) (by decide) rfl (Nat.le_of_ble_eq_true rfl) ?_
  intro p e s m below meth c ls A hx hb hr hml hlocks hnm hown hts hP hK hD hZ hA hS hl
  have hown : s.vm.findClass RX1 = some m.cls := hown
  have hl : lv_has ls 5 [(0, .ref (b 0)), (1, .int (nI r))] := hl
  refine lv_aload_n hx hb dX1_take_0 rfl (lv_at hl 0 rfl) ?_
  refine va_get (D := D) (ci := 1) (v := .ref (b 2)) (C := RX1) (T := TX1) (N := 7) hx hb hts (fun w h => wm (ui_X1 w h)) hown hK hP 0 rfl rfl 3 (by decide) (hts (.fieldLink RX1 13 "LinkedIndexModel" "values" "[J") (wm mb_57)) (fun _ h9 => h9) rfl dX1_take_1 ?_
  refine lv_iload_n hx hb dX1_take_4 rfl (lv_at hl 1 rfl) ?_
  refine x_lald (j := r) hx hb hK hP 2 1 rfl rfl (by omega) (by decide) dX1_take_5 ?_
  refine lv_lstore_n (lv' := [(2, .long (V r)), (0, .ref (b 0)), (1, .int (nI r))]) hx hb dX1_take_6 rfl hl (by decide) rfl (fun ls hl => ?_)
  refine lv_aload_n hx hb dX1_take_7 rfl (lv_at hl 1 rfl) ?_
  refine lv_dup hx hb dX1_take_8 rfl ?_
  refine va_get (D := D) (ci := 1) (v := .int (nI n)) (C := RX1) (T := TX1) (N := 7) hx hb hts (fun w h => wm (ui_X1 w h)) hown hK hP 0 rfl rfl 1 (by decide) (hts (.fieldLink RX1 34 "LinkedIndexModel" "size" "I") (wm mb_55)) (fun _ h9 => h9) rfl dX1_take_9 ?_
  refine lv_iconst (v := 1) hx hb dX1_take_12 (by decide) ?_
  refine lv_isub hx hb dX1_take_13 ?_
  refine xi (y := nI (n - 1)) (pk_sub (a := n) (b := 1) (by omega)) ?_
  refine va_put (D := D) (ci := 1) (v := .int (nI (n - 1))) (ty := .int) (C := RX1) (T := TX1) (N := 7) hx hb hts (fun w h => wm (ui_X1 w h)) tyX1 tyX1_ok nmX1 hown hK hP hD hS 0 rfl rfl 1 (by decide) (hts (.fieldLink RX1 34 "LinkedIndexModel" "size" "I") (wm mb_55)) (fun _ h9 => h9) rfl (by decide +kernel) rfl rfl (Nat.le_of_ble_eq_true rfl) dX1_take_14 (fun H locs hP hD hS => ?_)
  have hP : va_P D vwCl (wM b g cd (n - 1) K V (fun i9 => kd i9 + 1) SK SV) H := hP
  have hD : va_D A (wM b g cd (n - 1) K V (fun i9 => kd i9 + 1) SK SV) := hD
  refine lv_iload_n hx hb dX1_take_17 rfl (lv_at hl 2 rfl) ?_
  refine lv_istore (lv' := [(4, .int (nI r)), (2, .long (V r)), (0, .ref (b 0)), (1, .int (nI r))]) hx hb dX1_take_18 hl (by decide) rfl (fun ls hl => ?_)
  have loop : ∀ (f i : Nat) (Kc Vc : Nat → Int64) (H : Heap) (locs : List Loc), n - 1 - i < f → i ≤ n - 1 → clF (n - 1 - i) i Kc = clF (n - 1 - r) r K → clF (n - 1 - i) i Vc = clF (n - 1 - r) r V → va_P D vwCl (wM b g cd (n - 1) Kc Vc (fun i9 => kd i9 + 1) SK SV) H → va_D A (wM b g cd (n - 1) Kc Vc (fun i9 => kd i9 + 1) SK SV) → va_S A s.heap H locs → ∀ ls : Array Slot, lv_has ls 5 [(4, .int (nI i)), (2, .long (V r)), (0, .ref (b 0)), (1, .int (nI r))] → W p l e ({ frames := 0, cells := 0, slots := 0, locals := 0 }) s m ([.ref (b 0), .int (nI r)] : List Value).toArray below meth c H locs 0 0 (MQ below (cQl D (tM g) (fun v => v = V r) (wM b g cd (n - 1) (clF (n - 1 - r) r K) (clF (n - 1 - r) r V) (fun i9 => kd i9 + 1) SK SV) A) ([.ref (b 0), .int (nI r)] : List Value).toArray s 0 0 A) (F0 m 20 ls []) := by
    intro f
    induction f with
    | zero => intro i Kc Vc H locs hf; omega
    | succ f ih =>
      intro i Kc Vc H locs hf hi e1 e2 hP hD hS ls hl
      refine lv_iload hx hb dX1_take_20 (lv_at hl 0 rfl) ?_
      refine lv_aload_n hx hb dX1_take_22 rfl (lv_at hl 2 rfl) ?_
      refine va_get (D := D) (ci := 1) (v := .int (nI (n - 1))) (C := RX1) (T := TX1) (N := 7) hx hb hts (fun w h => wm (ui_X1 w h)) hown hK hP 0 rfl rfl 1 (by decide) (hts (.fieldLink RX1 34 "LinkedIndexModel" "size" "I") (wm mb_55)) (fun _ h9 => h9) rfl dX1_take_23 ?_
      refine lv_icmp_ge (tgt := 67) hx hb dX1_take_26 (by decide) (fun h1 => ?_) (fun h1 => ?_)
      · skip
        have h1 : n - 1 ≤ i := (nI_leI (by omega) (by omega)).mp h1
        have e0 : n - 1 - i = 0 := by omega
        rw [e0] at e1 e2
        have e1 : Kc = clF (n - 1 - r) r K := e1
        have e2 : Vc = clF (n - 1 - r) r V := e2
        subst e1
        subst e2
        refine lv_lload_n hx hb dX1_take_67 rfl (lv_at hl 1 rfl) ?_
        exact fn_l hx hb hr hlocks (by decide) (by decide) rfl hP hK hD hS dX1_take_68
      · skip
        have h1 : i < n - 1 := Nat.lt_of_not_le (fun q => h1 ((nI_leI (by omega) (by omega)).mpr q))
        refine lv_aload_n hx hb dX1_take_29 rfl (lv_at hl 2 rfl) ?_
        refine va_get (D := D) (ci := 1) (v := .ref (b 1)) (C := RX1) (T := TX1) (N := 7) hx hb hts (fun w h => wm (ui_X1 w h)) hown hK hP 0 rfl rfl 2 (by decide) (hts (.fieldLink RX1 7 "LinkedIndexModel" "keys" "[J") (wm mb_56)) (fun _ h9 => h9) rfl dX1_take_30 ?_
        refine lv_iload hx hb dX1_take_33 (lv_at hl 0 rfl) ?_
        refine lv_aload_n hx hb dX1_take_35 rfl (lv_at hl 2 rfl) ?_
        refine va_get (D := D) (ci := 1) (v := .ref (b 1)) (C := RX1) (T := TX1) (N := 7) hx hb hts (fun w h => wm (ui_X1 w h)) hown hK hP 0 rfl rfl 2 (by decide) (hts (.fieldLink RX1 7 "LinkedIndexModel" "keys" "[J") (wm mb_56)) (fun _ h9 => h9) rfl dX1_take_36 ?_
        refine lv_iload hx hb dX1_take_39 (lv_at hl 0 rfl) ?_
        refine lv_iconst (v := 1) hx hb dX1_take_41 (by decide) ?_
        refine lv_iadd hx hb dX1_take_42 ?_
        refine xi (y := nI (i + 1)) (nI_add i 1) ?_
        refine x_lald (j := (i + 1)) hx hb hK hP 1 0 rfl rfl (by omega) (by decide) dX1_take_43 ?_
        refine x_last (j := i) hx hb hK hP hD hS 1 0 rfl rfl (by omega) (by decide) dX1_take_44 (fun H locs hP hD hS => ?_)
        have hP : va_P D vwCl (wM b g cd (n - 1) (vp_updL Kc i (Kc (i + 1))) Vc (fun i9 => kd i9 + 1) SK SV) H := hP
        have hD : va_D A (wM b g cd (n - 1) (vp_updL Kc i (Kc (i + 1))) Vc (fun i9 => kd i9 + 1) SK SV) := hD
        refine lv_aload_n hx hb dX1_take_45 rfl (lv_at hl 2 rfl) ?_
        refine va_get (D := D) (ci := 1) (v := .ref (b 2)) (C := RX1) (T := TX1) (N := 7) hx hb hts (fun w h => wm (ui_X1 w h)) hown hK hP 0 rfl rfl 3 (by decide) (hts (.fieldLink RX1 13 "LinkedIndexModel" "values" "[J") (wm mb_57)) (fun _ h9 => h9) rfl dX1_take_46 ?_
        refine lv_iload hx hb dX1_take_49 (lv_at hl 0 rfl) ?_
        refine lv_aload_n hx hb dX1_take_51 rfl (lv_at hl 2 rfl) ?_
        refine va_get (D := D) (ci := 1) (v := .ref (b 2)) (C := RX1) (T := TX1) (N := 7) hx hb hts (fun w h => wm (ui_X1 w h)) hown hK hP 0 rfl rfl 3 (by decide) (hts (.fieldLink RX1 13 "LinkedIndexModel" "values" "[J") (wm mb_57)) (fun _ h9 => h9) rfl dX1_take_52 ?_
        refine lv_iload hx hb dX1_take_55 (lv_at hl 0 rfl) ?_
        refine lv_iconst (v := 1) hx hb dX1_take_57 (by decide) ?_
        refine lv_iadd hx hb dX1_take_58 ?_
        refine xi (y := nI (i + 1)) (nI_add i 1) ?_
        refine x_lald (j := (i + 1)) hx hb hK hP 2 1 rfl rfl (by omega) (by decide) dX1_take_59 ?_
        refine x_last (j := i) hx hb hK hP hD hS 2 1 rfl rfl (by omega) (by decide) dX1_take_60 (fun H locs hP hD hS => ?_)
        have hP : va_P D vwCl (wM b g cd (n - 1) (vp_updL Kc i (Kc (i + 1))) (vp_updL Vc i (Vc (i + 1))) (fun i9 => kd i9 + 1) SK SV) H := hP
        have hD : va_D A (wM b g cd (n - 1) (vp_updL Kc i (Kc (i + 1))) (vp_updL Vc i (Vc (i + 1))) (fun i9 => kd i9 + 1) SK SV) := hD
        refine lv_iinc (k := 0) (v := nI (i + 1)) (lv' := [(4, .int (nI (i + 1))), (2, .long (V r)), (0, .ref (b 0)), (1, .int (nI r))]) hx hb dX1_take_61 hl rfl (by rw [show Int32.ofInt 1 = 1 from by decide]; exact nI_1 _) (by decide) rfl (fun ls hl => ?_)
        refine lv_goto (tgt := 20) hx hb dX1_take_64 (by decide) ?_
        have e0 : n - 1 - i = (n - 1 - (i + 1)) + 1 := by omega
        rw [e0] at e1 e2
        exact ih (i + 1) _ _ H locs (by omega) (by omega) e1 e2 hP hD hS ls hl
  exact loop n r K V H locs (by omega) (by omega) rfl rfl hP hD hS ls hl
set_option maxHeartbeats 1000000 in
set_option maxRecDepth 100000 in
theorem m_drop (l : Launch) (hl9 : l.stackTraces = false) (D : va_G) (b : Nat → Nat) (g : Nat → ClassId) (cd : Int32) (n : Nat) (K V : Nat → Int64) (kd : Nat → Int32) (SK SV : Nat → Int64) (slot : Int32) (sz : Nat) (hk : ∀ j, j < 8 → kOk (kd j)) : Met l yX1_drop wsX1_drop ({ frames := 1, cells := 0, slots := 0, locals := 20 }) (cP D (tM g) (wM b g cd n K V (fun i9 => kd i9 + 1) SK SV) [.ref (b 0), .int slot] sz) (cQi D (tM g) (fun v => okS slot → v = (if kd (ix slot) = -1 then 0 else 1)) (wM b g (cdD slot) n K V (fun i9 => kdD slot kd i9 + 1) SK SV) (va_A (wM b g cd n K V (fun i9 => kd i9 + 1) SK SV) sz)) 0 0 (va_A (wM b g cd n K V (fun i9 => kd i9 + 1) SK SV) sz) := by
  refine mk_n (cc := cX1_drop) (maxL := 3) (ret := (some .boolean)) (fun A => cQi D (tM g) (fun v => okS slot → v = (if kd (ix slot) = -1 then 0 else 1)) (wM b g (cdD slot) n K V (fun i9 => kdD slot kd i9 + 1) SK SV) A) (by decide) rfl (Nat.le_of_ble_eq_true rfl) ?_
  intro p e s m below meth c ls A hx hb hr hml hlocks hnm hown hts hP hK hD hZ hA hS hl
  have hown : s.vm.findClass RX1 = some m.cls := hown
  have hl : lv_has ls 3 [(0, .ref (b 0)), (1, .int slot)] := hl
  refine lv_aload_n hx hb dX1_drop_0 rfl (lv_at hl 0 rfl) ?_
  refine lv_iload_n hx hb dX1_drop_1 rfl (lv_at hl 1 rfl) ?_
  refine kn_i (wc := []) (wr := (wM b g cd n K V (fun i9 => kd i9 + 1) SK SV)) (w1 := []) (va_runS (As := [.int slot]) (rest := [.ref (b 0)]) ⟨hx, hb, hml, hown, hts⟩ (m_isSlot l hl9 D slot s.heap.size) (va_cwS 1 hts (gd_up (gd_S mb_48 mb_49 mb_50 mb_51)) rfl rfl rfl (by decide +kernel) ⟨by decide, by decide⟩) ⟨cP_blind, cPre hP hD hK hS hA hZ [] rfl (by decide) [] rfl⟩ rfl rfl hl.1 rfl (lv_room (Nat.le_of_ble_eq_true rfl)) dX1_drop_2 ⟨by decide, by decide⟩) hP hD hS hA [] [0, 1, 2, 3, 4, 5] rfl rfl (by decide) (by decide) (fun r9 H locs hp hP hD hS => ?_)
  have hP : va_P D vwCl (wM b g cd n K V (fun i9 => kd i9 + 1) SK SV) H := hP
  have hD : va_D A (wM b g cd n K V (fun i9 => kd i9 + 1) SK SV) := hD
  by_cases hs : okS slot
  · skip
    rw [if_pos hs] at hp
    subst hp
    refine lv_if_eq (tgt := 12) hx hb dX1_drop_5 (by decide) (fun h0 => ?_) (fun h0 => ?_)
    · skip
      first | exact absurd h0 (by decide) | exact (h0 rfl).elim
    · skip
      rw [show cdD slot = 0 from if_pos hs, show kdD slot kd = upd kd (ix slot) (-1) from if_pos hs]
      obtain ⟨j, hj, rfl⟩ := okS_of hs
      rw [ix_n hj, ← upd_0]
      refine lv_iconst (v := 0) hx hb dX1_drop_8 (by decide) ?_
      refine lv_goto (tgt := 13) hx hb dX1_drop_9 (by decide) ?_
      refine va_put (D := D) (ci := 1) (v := .int 0) (ty := .int) (C := RX1) (T := TX1) (N := 7) hx hb hts (fun w h => wm (ui_X1 w h)) tyX1 tyX1_ok nmX1 hown hK hP hD hS 0 rfl rfl 0 (by decide) (hts (.fieldLink RX1 26 "LinkedIndexModel" "code" "I") (wm mb_47)) (fun _ h9 => h9) rfl (by decide +kernel) rfl rfl (Nat.le_of_ble_eq_true rfl) dX1_drop_13 (fun H locs hP hD hS => ?_)
      have hP : va_P D vwCl (wM b g 0 n K V (fun i9 => kd i9 + 1) SK SV) H := hP
      have hD : va_D A (wM b g 0 n K V (fun i9 => kd i9 + 1) SK SV) := hD
      refine lv_aload_n hx hb dX1_drop_16 rfl (lv_at hl 0 rfl) ?_
      refine va_get (D := D) (ci := 1) (v := .int 0) (C := RX1) (T := TX1) (N := 7) hx hb hts (fun w h => wm (ui_X1 w h)) hown hK hP 0 rfl rfl 0 (by decide) (hts (.fieldLink RX1 26 "LinkedIndexModel" "code" "I") (wm mb_47)) (fun _ h9 => h9) rfl dX1_drop_17 ?_
      refine lv_if_le (tgt := 25) hx hb dX1_drop_20 (by decide) (fun h9 => ?_) (fun h9 => ?_)
      · skip
        refine lv_aload_n hx hb dX1_drop_25 rfl (lv_at hl 0 rfl) ?_
        refine va_get (D := D) (ci := 1) (v := .ref (b 3)) (C := RX1) (T := TX1) (N := 7) hx hb hts (fun w h => wm (ui_X1 w h)) hown hK hP 0 rfl rfl 4 (by decide) (hts (.fieldLink RX1 16 "LinkedIndexModel" "kinds" "[I") (wm mb_52)) (fun _ h9 => h9) rfl dX1_drop_26 ?_
        refine lv_iload_n hx hb dX1_drop_29 rfl (lv_at hl 1 rfl) ?_
        refine x_iald (j := j) hx hb hK hP 3 2 rfl rfl hj (by decide) dX1_drop_30 ?_
        refine lv_if_le (tgt := 38) hx hb dX1_drop_31 (by decide) (fun h3 => ?_) (fun h3 => ?_)
        · skip
          have h3 : kd j = -1 := Classical.byContradiction (fun q => absurd ((kOk_pos (hk j hj)).mpr q) (fun q2 => absurd q2 (by rw [Int32.lt_iff_toInt_lt]; rw [Int32.le_iff_toInt_le] at h3; omega)))
          refine lv_iconst (v := 0) hx hb dX1_drop_38 (by decide) ?_
          refine lv_istore_n (lv' := [(2, .int 0), (0, .ref (b 0)), (1, .int (nI j))]) hx hb dX1_drop_39 rfl hl (by decide) rfl (fun ls hl => ?_)
          refine lv_aload_n hx hb dX1_drop_40 rfl (lv_at hl 1 rfl) ?_
          refine va_get (D := D) (ci := 1) (v := .ref (b 3)) (C := RX1) (T := TX1) (N := 7) hx hb hts (fun w h => wm (ui_X1 w h)) hown hK hP 0 rfl rfl 4 (by decide) (hts (.fieldLink RX1 16 "LinkedIndexModel" "kinds" "[I") (wm mb_52)) (fun _ h9 => h9) rfl dX1_drop_41 ?_
          refine lv_iload_n hx hb dX1_drop_44 rfl (lv_at hl 2 rfl) ?_
          refine lv_iconst (v := 0) hx hb dX1_drop_45 (by decide) ?_
          refine x_iast (j := j) hx hb hK hP hD hS 3 2 rfl rfl hj (by decide) dX1_drop_46 (fun H locs hP hD hS => ?_)
          have hP : va_P D vwCl (wM b g 0 n K V (upd (fun i9 => kd i9 + 1) j 0) SK SV) H := hP
          have hD : va_D A (wM b g 0 n K V (upd (fun i9 => kd i9 + 1) j 0) SK SV) := hD
          refine lv_iload_n hx hb dX1_drop_47 rfl (lv_at hl 0 rfl) ?_
          exact fn_z hx hb hr (by decide) hlocks (by decide) (by decide) (fun _ => by rw [if_pos h3]) hP hK hD hS dX1_drop_48
        · skip
          have h3 : ¬ kd j = -1 := fun q => h3 (by rw [q]; decide)
          refine lv_iconst (v := 1) hx hb dX1_drop_34 (by decide) ?_
          refine lv_goto (tgt := 39) hx hb dX1_drop_35 (by decide) ?_
          refine lv_istore_n (lv' := [(2, .int 1), (0, .ref (b 0)), (1, .int (nI j))]) hx hb dX1_drop_39 rfl hl (by decide) rfl (fun ls hl => ?_)
          refine lv_aload_n hx hb dX1_drop_40 rfl (lv_at hl 1 rfl) ?_
          refine va_get (D := D) (ci := 1) (v := .ref (b 3)) (C := RX1) (T := TX1) (N := 7) hx hb hts (fun w h => wm (ui_X1 w h)) hown hK hP 0 rfl rfl 4 (by decide) (hts (.fieldLink RX1 16 "LinkedIndexModel" "kinds" "[I") (wm mb_52)) (fun _ h9 => h9) rfl dX1_drop_41 ?_
          refine lv_iload_n hx hb dX1_drop_44 rfl (lv_at hl 2 rfl) ?_
          refine lv_iconst (v := 0) hx hb dX1_drop_45 (by decide) ?_
          refine x_iast (j := j) hx hb hK hP hD hS 3 2 rfl rfl hj (by decide) dX1_drop_46 (fun H locs hP hD hS => ?_)
          have hP : va_P D vwCl (wM b g 0 n K V (upd (fun i9 => kd i9 + 1) j 0) SK SV) H := hP
          have hD : va_D A (wM b g 0 n K V (upd (fun i9 => kd i9 + 1) j 0) SK SV) := hD
          refine lv_iload_n hx hb dX1_drop_47 rfl (lv_at hl 0 rfl) ?_
          exact fn_z hx hb hr (by decide) hlocks (by decide) (by decide) (fun _ => by rw [if_neg h3]) hP hK hD hS dX1_drop_48
      · skip
        first | exact absurd h9 (by decide) | exact (h9 rfl).elim
  · skip
    rw [if_neg hs] at hp
    subst hp
    refine lv_if_eq (tgt := 12) hx hb dX1_drop_5 (by decide) (fun h0 => ?_) (fun h0 => ?_)
    · skip
      rw [show cdD slot = 1 from if_neg hs, show kdD slot kd = kd from if_neg hs]
      refine lv_iconst (v := 1) hx hb dX1_drop_12 (by decide) ?_
      refine va_put (D := D) (ci := 1) (v := .int 1) (ty := .int) (C := RX1) (T := TX1) (N := 7) hx hb hts (fun w h => wm (ui_X1 w h)) tyX1 tyX1_ok nmX1 hown hK hP hD hS 0 rfl rfl 0 (by decide) (hts (.fieldLink RX1 26 "LinkedIndexModel" "code" "I") (wm mb_47)) (fun _ h9 => h9) rfl (by decide +kernel) rfl rfl (Nat.le_of_ble_eq_true rfl) dX1_drop_13 (fun H locs hP hD hS => ?_)
      have hP : va_P D vwCl (wM b g 1 n K V (fun i9 => kd i9 + 1) SK SV) H := hP
      have hD : va_D A (wM b g 1 n K V (fun i9 => kd i9 + 1) SK SV) := hD
      refine lv_aload_n hx hb dX1_drop_16 rfl (lv_at hl 0 rfl) ?_
      refine va_get (D := D) (ci := 1) (v := .int 1) (C := RX1) (T := TX1) (N := 7) hx hb hts (fun w h => wm (ui_X1 w h)) hown hK hP 0 rfl rfl 0 (by decide) (hts (.fieldLink RX1 26 "LinkedIndexModel" "code" "I") (wm mb_47)) (fun _ h9 => h9) rfl dX1_drop_17 ?_
      refine lv_if_le (tgt := 25) hx hb dX1_drop_20 (by decide) (fun h9 => ?_) (fun h9 => ?_)
      · skip
        first | exact absurd h9 (by decide) | exact (h9 rfl).elim
      · skip
        refine lv_iconst (v := 0) hx hb dX1_drop_23 (by decide) ?_
        exact fn_z hx hb hr (by decide) hlocks (by decide) (by decide) (fun q => absurd q hs) hP hK hD hS dX1_drop_24
    · skip
      first | exact absurd h0 (by decide) | exact (h0 rfl).elim
set_option maxHeartbeats 1000000 in
set_option maxRecDepth 100000 in
theorem m_tidy (l : Launch) (hl9 : l.stackTraces = false) (D : va_G) (b : Nat → Nat) (g : Nat → ClassId) (cd : Int32) (n : Nat) (K V : Nat → Int64) (kd : Nat → Int32) (SK SV : Nat → Int64) (x : Int32) (sz : Nat)  : Met l yX1_tidy wsX1_tidy ({ frames := 0, cells := 0, slots := 0, locals := 0 }) (cP D (tM g) (wM b g cd n K V (fun i9 => kd i9 + 1) SK SV) [.ref (b 0), .int x] sz) (cQv D (tM g) True (wM b g (cdY x) n K V (fun i9 => kd i9 + 1) SK SV) (va_A (wM b g cd n K V (fun i9 => kd i9 + 1) SK SV) sz)) 0 0 (va_A (wM b g cd n K V (fun i9 => kd i9 + 1) SK SV) sz) := by
  refine mk_n (cc := cX1_tidy) (maxL := 2) (ret := none) (fun A => cQv D (tM g) True (wM b g (cdY x) n K V (fun i9 => kd i9 + 1) SK SV) A) (by decide) rfl (Nat.le_of_ble_eq_true rfl) ?_
  intro p e s m below meth c ls A hx hb hr hml hlocks hnm hown hts hP hK hD hZ hA hS hl
  have hown : s.vm.findClass RX1 = some m.cls := hown
  have hl : lv_has ls 2 [(0, .ref (b 0)), (1, .int x)] := hl
  refine lv_aload_n hx hb dX1_tidy_0 rfl (lv_at hl 0 rfl) ?_
  refine lv_iload_n hx hb dX1_tidy_1 rfl (lv_at hl 1 rfl) ?_
  refine lv_if_lt (tgt := 11) hx hb dX1_tidy_2 (by decide) (fun h1 => ?_) (fun h1 => ?_)
  · skip
    rw [show cdY x = 1 from if_neg (fun q => q.1 h1)]
    refine lv_iconst (v := 1) hx hb dX1_tidy_11 (by decide) ?_
    refine lv_goto (tgt := 16) hx hb dX1_tidy_12 (by decide) ?_
    refine va_put (D := D) (ci := 1) (v := .int 1) (ty := .int) (C := RX1) (T := TX1) (N := 7) hx hb hts (fun w h => wm (ui_X1 w h)) tyX1 tyX1_ok nmX1 hown hK hP hD hS 0 rfl rfl 0 (by decide) (hts (.fieldLink RX1 26 "LinkedIndexModel" "code" "I") (wm mb_47)) (fun _ h9 => h9) rfl (by decide +kernel) rfl rfl (Nat.le_of_ble_eq_true rfl) dX1_tidy_16 (fun H locs hP hD hS => ?_)
    have hP : va_P D vwCl (wM b g 1 n K V (fun i9 => kd i9 + 1) SK SV) H := hP
    have hD : va_D A (wM b g 1 n K V (fun i9 => kd i9 + 1) SK SV) := hD
    exact fn_v hx hb hr hlocks (by decide) (by decide) trivial hP hK hD hS dX1_tidy_19
  · skip
    refine lv_iload_n hx hb dX1_tidy_5 rfl (lv_at hl 1 rfl) ?_
    refine lv_bipush (v := 20) hx hb dX1_tidy_6 (by decide) ?_
    refine lv_icmp_le (tgt := 15) hx hb dX1_tidy_8 (by decide) (fun h2 => ?_) (fun h2 => ?_)
    · skip
      rw [show cdY x = 0 from if_pos ⟨h1, h2⟩]
      refine lv_iconst (v := 0) hx hb dX1_tidy_15 (by decide) ?_
      refine va_put (D := D) (ci := 1) (v := .int 0) (ty := .int) (C := RX1) (T := TX1) (N := 7) hx hb hts (fun w h => wm (ui_X1 w h)) tyX1 tyX1_ok nmX1 hown hK hP hD hS 0 rfl rfl 0 (by decide) (hts (.fieldLink RX1 26 "LinkedIndexModel" "code" "I") (wm mb_47)) (fun _ h9 => h9) rfl (by decide +kernel) rfl rfl (Nat.le_of_ble_eq_true rfl) dX1_tidy_16 (fun H locs hP hD hS => ?_)
      have hP : va_P D vwCl (wM b g 0 n K V (fun i9 => kd i9 + 1) SK SV) H := hP
      have hD : va_D A (wM b g 0 n K V (fun i9 => kd i9 + 1) SK SV) := hD
      exact fn_v hx hb hr hlocks (by decide) (by decide) trivial hP hK hD hS dX1_tidy_19
    · skip
      rw [show cdY x = 1 from if_neg (fun q => h2 q.2)]
      refine lv_iconst (v := 1) hx hb dX1_tidy_11 (by decide) ?_
      refine lv_goto (tgt := 16) hx hb dX1_tidy_12 (by decide) ?_
      refine va_put (D := D) (ci := 1) (v := .int 1) (ty := .int) (C := RX1) (T := TX1) (N := 7) hx hb hts (fun w h => wm (ui_X1 w h)) tyX1 tyX1_ok nmX1 hown hK hP hD hS 0 rfl rfl 0 (by decide) (hts (.fieldLink RX1 26 "LinkedIndexModel" "code" "I") (wm mb_47)) (fun _ h9 => h9) rfl (by decide +kernel) rfl rfl (Nat.le_of_ble_eq_true rfl) dX1_tidy_16 (fun H locs hP hD hS => ?_)
      have hP : va_P D vwCl (wM b g 1 n K V (fun i9 => kd i9 + 1) SK SV) H := hP
      have hD : va_D A (wM b g 1 n K V (fun i9 => kd i9 + 1) SK SV) := hD
      exact fn_v hx hb hr hlocks (by decide) (by decide) trivial hP hK hD hS dX1_tidy_19
set_option maxHeartbeats 1000000 in
set_option maxRecDepth 100000 in
theorem m_crash (l : Launch) (hl9 : l.stackTraces = false) (D : va_G) (b : Nat → Nat) (g : Nat → ClassId) (cd : Int32) (n : Nat) (K V : Nat → Int64) (kd : Nat → Int32) (SK SV : Nat → Int64) (sz : Nat) (hk : ∀ j, j < 8 → kOk (kd j)) : Met l yX1_crash wsX1_crash ({ frames := 0, cells := 0, slots := 0, locals := 0 }) (cP D (tM g) (wM b g cd n K V (fun i9 => kd i9 + 1) SK SV) [.ref (b 0)] sz) (cQi D (tM g) (fun v => v = (crF 8 0 kd 0).2) (wM b g 0 n K V (fun i9 => (crF 8 0 kd 0).1 i9 + 1) SK SV) (va_A (wM b g cd n K V (fun i9 => kd i9 + 1) SK SV) sz)) 0 0 (va_A (wM b g cd n K V (fun i9 => kd i9 + 1) SK SV) sz) := by
  refine mk_n (cc := cX1_crash) (maxL := 3) (ret := (some .int)) (fun A => cQi D (tM g) (fun v => v = (crF 8 0 kd 0).2) (wM b g 0 n K V (fun i9 => (crF 8 0 kd 0).1 i9 + 1) SK SV) A) (by decide) rfl (Nat.le_of_ble_eq_true rfl) ?_
  intro p e s m below meth c ls A hx hb hr hml hlocks hnm hown hts hP hK hD hZ hA hS hl
  have hown : s.vm.findClass RX1 = some m.cls := hown
  have hl : lv_has ls 3 [(0, .ref (b 0))] := hl
  refine lv_aload_n hx hb dX1_crash_0 rfl (lv_at hl 0 rfl) ?_
  refine lv_iconst (v := 0) hx hb dX1_crash_1 (by decide) ?_
  refine va_put (D := D) (ci := 1) (v := .int 0) (ty := .int) (C := RX1) (T := TX1) (N := 7) hx hb hts (fun w h => wm (ui_X1 w h)) tyX1 tyX1_ok nmX1 hown hK hP hD hS 0 rfl rfl 0 (by decide) (hts (.fieldLink RX1 26 "LinkedIndexModel" "code" "I") (wm mb_47)) (fun _ h9 => h9) rfl (by decide +kernel) rfl rfl (Nat.le_of_ble_eq_true rfl) dX1_crash_2 (fun H locs hP hD hS => ?_)
  have hP : va_P D vwCl (wM b g 0 n K V (fun i9 => kd i9 + 1) SK SV) H := hP
  have hD : va_D A (wM b g 0 n K V (fun i9 => kd i9 + 1) SK SV) := hD
  refine lv_iconst (v := 0) hx hb dX1_crash_5 (by decide) ?_
  refine lv_istore_n (lv' := [(1, .int 0), (0, .ref (b 0))]) hx hb dX1_crash_6 rfl hl (by decide) rfl (fun ls hl => ?_)
  refine lv_iconst (v := 0) hx hb dX1_crash_7 (by decide) ?_
  refine lv_istore_n (lv' := [(2, .int 0), (1, .int 0), (0, .ref (b 0))]) hx hb dX1_crash_8 rfl hl (by decide) rfl (fun ls hl => ?_)
  have loop : ∀ (f i : Nat) (kc : Nat → Int32) (acc : Int32) (H : Heap) (locs : List Loc), 8 - i = f → i ≤ 8 → (∀ j, j < 8 → kOk (kc j)) → crF f i kc acc = crF 8 0 kd 0 → va_P D vwCl (wM b g 0 n K V (fun i9 => kc i9 + 1) SK SV) H → va_D A (wM b g 0 n K V (fun i9 => kc i9 + 1) SK SV) → va_S A s.heap H locs → ∀ ls : Array Slot, lv_has ls 3 [(2, .int (nI i)), (1, .int acc), (0, .ref (b 0))] → W p l e ({ frames := 0, cells := 0, slots := 0, locals := 0 }) s m ([.ref (b 0)] : List Value).toArray below meth c H locs 0 0 (MQ below (cQi D (tM g) (fun v => v = (crF 8 0 kd 0).2) (wM b g 0 n K V (fun i9 => (crF 8 0 kd 0).1 i9 + 1) SK SV) A) ([.ref (b 0)] : List Value).toArray s 0 0 A) (F0 m 9 ls []) := by
    intro f
    induction f with
    | zero =>
      intro i kc acc H locs hf hi hq e1 hP hD hS ls hl
      have e2 : kc = (crF 8 0 kd 0).1 := congrArg Prod.fst e1
      have e3 : acc = (crF 8 0 kd 0).2 := congrArg Prod.snd e1
      refine lv_iload_n hx hb dX1_crash_9 rfl (lv_at hl 0 rfl) ?_
      refine lv_bipush (v := 8) hx hb dX1_crash_10 (by decide) ?_
      refine lv_icmp_ge (tgt := 45) hx hb dX1_crash_12 (by decide) (fun h1 => ?_) (fun h1 => ?_)
      · skip
        rw [e2] at hP hD
        refine lv_iload_n hx hb dX1_crash_45 rfl (lv_at hl 1 rfl) ?_
        exact fn_i hx hb hr hlocks (by decide) (by decide) e3 hP hK hD hS dX1_crash_46
      · skip
        exact absurd ((nI_leI (a := 8) (by omega) (by omega)).mpr (by omega)) h1
    | succ f ih =>
      intro i kc acc H locs hf hi hq e1 hP hD hS ls hl
      refine lv_iload_n hx hb dX1_crash_9 rfl (lv_at hl 0 rfl) ?_
      refine lv_bipush (v := 8) hx hb dX1_crash_10 (by decide) ?_
      refine lv_icmp_ge (tgt := 45) hx hb dX1_crash_12 (by decide) (fun h1 => ?_) (fun h1 => ?_)
      · skip
        exact absurd ((nI_leI (a := 8) (by omega) (by omega)).mp h1) (by omega)
      · skip
        refine lv_iload_n hx hb dX1_crash_15 rfl (lv_at hl 1 rfl) ?_
        refine lv_aload_n hx hb dX1_crash_16 rfl (lv_at hl 2 rfl) ?_
        refine va_get (D := D) (ci := 1) (v := .ref (b 3)) (C := RX1) (T := TX1) (N := 7) hx hb hts (fun w h => wm (ui_X1 w h)) hown hK hP 0 rfl rfl 4 (by decide) (hts (.fieldLink RX1 16 "LinkedIndexModel" "kinds" "[I") (wm mb_52)) (fun _ h9 => h9) rfl dX1_crash_17 ?_
        refine lv_iload_n hx hb dX1_crash_20 rfl (lv_at hl 0 rfl) ?_
        refine x_iald (j := i) hx hb hK hP 3 2 rfl rfl (by omega) (by decide) dX1_crash_21 ?_
        refine lv_if_le (tgt := 29) hx hb dX1_crash_22 (by decide) (fun h2 => ?_) (fun h2 => ?_)
        · skip
          have h2 : kc i = -1 := Classical.byContradiction (fun q => absurd ((kOk_pos (hq i (by omega))).mpr q) (fun q2 => absurd q2 (by rw [Int32.lt_iff_toInt_lt]; rw [Int32.le_iff_toInt_le] at h2; omega)))
          have e1 : crF f (i + 1) (upd kc i (-1)) (acc + 0) = crF 8 0 kd 0 := by
            rw [← e1]
            show _ = crF f (i + 1) (upd kc i (-1)) (if kc i = -1 then acc else acc + 1)
            rw [if_pos h2, Int32.add_zero]
          refine lv_iconst (v := 0) hx hb dX1_crash_29 (by decide) ?_
          refine lv_iadd hx hb dX1_crash_30 ?_
          refine lv_istore_n (lv' := [(1, .int (acc + 0)), (2, .int (nI i)), (0, .ref (b 0))]) hx hb dX1_crash_31 rfl hl (by decide) rfl (fun ls hl => ?_)
          refine lv_aload_n hx hb dX1_crash_32 rfl (lv_at hl 2 rfl) ?_
          refine va_get (D := D) (ci := 1) (v := .ref (b 3)) (C := RX1) (T := TX1) (N := 7) hx hb hts (fun w h => wm (ui_X1 w h)) hown hK hP 0 rfl rfl 4 (by decide) (hts (.fieldLink RX1 16 "LinkedIndexModel" "kinds" "[I") (wm mb_52)) (fun _ h9 => h9) rfl dX1_crash_33 ?_
          refine lv_iload_n hx hb dX1_crash_36 rfl (lv_at hl 1 rfl) ?_
          refine lv_iconst (v := 0) hx hb dX1_crash_37 (by decide) ?_
          refine x_iast (j := i) hx hb hK hP hD hS 3 2 rfl rfl (by omega) (by decide) dX1_crash_38 (fun H locs hP hD hS => ?_)
          have hP : va_P D vwCl (wM b g 0 n K V (upd (fun i9 => kc i9 + 1) i 0) SK SV) H := hP
          have hD : va_D A (wM b g 0 n K V (upd (fun i9 => kc i9 + 1) i 0) SK SV) := hD
          rw [upd_0] at hP hD
          refine lv_iinc (k := 1) (v := nI (i + 1)) (lv' := [(2, .int (nI (i + 1))), (1, .int (acc + 0)), (0, .ref (b 0))]) hx hb dX1_crash_39 hl rfl (by rw [show Int32.ofInt 1 = 1 from by decide]; exact nI_1 _) (by decide) rfl (fun ls hl => ?_)
          refine lv_goto (tgt := 9) hx hb dX1_crash_42 (by decide) ?_
          exact ih (i + 1) _ _ H locs (by omega) (by omega) (upd_ok hq (Or.inl rfl)) e1 hP hD hS ls (lv_sub hl [0, 1, 2] rfl)
        · skip
          have h2 : ¬ kc i = -1 := fun q => h2 (by rw [q]; decide)
          have e1 : crF f (i + 1) (upd kc i (-1)) (acc + 1) = crF 8 0 kd 0 := by
            rw [← e1]
            show _ = crF f (i + 1) (upd kc i (-1)) (if kc i = -1 then acc else acc + 1)
            rw [if_neg h2]
          refine lv_iconst (v := 1) hx hb dX1_crash_25 (by decide) ?_
          refine lv_goto (tgt := 30) hx hb dX1_crash_26 (by decide) ?_
          refine lv_iadd hx hb dX1_crash_30 ?_
          refine lv_istore_n (lv' := [(1, .int (acc + 1)), (2, .int (nI i)), (0, .ref (b 0))]) hx hb dX1_crash_31 rfl hl (by decide) rfl (fun ls hl => ?_)
          refine lv_aload_n hx hb dX1_crash_32 rfl (lv_at hl 2 rfl) ?_
          refine va_get (D := D) (ci := 1) (v := .ref (b 3)) (C := RX1) (T := TX1) (N := 7) hx hb hts (fun w h => wm (ui_X1 w h)) hown hK hP 0 rfl rfl 4 (by decide) (hts (.fieldLink RX1 16 "LinkedIndexModel" "kinds" "[I") (wm mb_52)) (fun _ h9 => h9) rfl dX1_crash_33 ?_
          refine lv_iload_n hx hb dX1_crash_36 rfl (lv_at hl 1 rfl) ?_
          refine lv_iconst (v := 0) hx hb dX1_crash_37 (by decide) ?_
          refine x_iast (j := i) hx hb hK hP hD hS 3 2 rfl rfl (by omega) (by decide) dX1_crash_38 (fun H locs hP hD hS => ?_)
          have hP : va_P D vwCl (wM b g 0 n K V (upd (fun i9 => kc i9 + 1) i 0) SK SV) H := hP
          have hD : va_D A (wM b g 0 n K V (upd (fun i9 => kc i9 + 1) i 0) SK SV) := hD
          rw [upd_0] at hP hD
          refine lv_iinc (k := 1) (v := nI (i + 1)) (lv' := [(2, .int (nI (i + 1))), (1, .int (acc + 1)), (0, .ref (b 0))]) hx hb dX1_crash_39 hl rfl (by rw [show Int32.ofInt 1 = 1 from by decide]; exact nI_1 _) (by decide) rfl (fun ls hl => ?_)
          refine lv_goto (tgt := 9) hx hb dX1_crash_42 (by decide) ?_
          exact ih (i + 1) _ _ H locs (by omega) (by omega) (upd_ok hq (Or.inl rfl)) e1 hP hD hS ls (lv_sub hl [0, 1, 2] rfl)
  exact loop 8 0 kd 0 H locs rfl (by omega) hk rfl hP hD hS ls (lv_sub hl [0, 1, 2] rfl)
set_option maxHeartbeats 1000000 in
set_option maxRecDepth 100000 in
theorem m_kind (l : Launch) (hl9 : l.stackTraces = false) (D : va_G) (b : Nat → Nat) (g : Nat → ClassId) (cd : Int32) (n : Nat) (K V : Nat → Int64) (kd : Nat → Int32) (SK SV : Nat → Int64) (slot : Int32) (sz : Nat)  : Met l yX1_kind wsX1_kind ({ frames := 1, cells := 0, slots := 0, locals := 20 }) (cP D (tM g) (wM b g cd n K V (fun i9 => kd i9 + 1) SK SV) [.ref (b 0), .int slot] sz) (cQi D (tM g) (fun v => okS slot → v = kd (ix slot)) (wM b g (cdD slot) n K V (fun i9 => kd i9 + 1) SK SV) (va_A (wM b g cd n K V (fun i9 => kd i9 + 1) SK SV) sz)) 0 0 (va_A (wM b g cd n K V (fun i9 => kd i9 + 1) SK SV) sz) := by
  refine mk_n (cc := cX1_kind) (maxL := 2) (ret := (some .int)) (fun A => cQi D (tM g) (fun v => okS slot → v = kd (ix slot)) (wM b g (cdD slot) n K V (fun i9 => kd i9 + 1) SK SV) A) (by decide) rfl (Nat.le_of_ble_eq_true rfl) ?_
  intro p e s m below meth c ls A hx hb hr hml hlocks hnm hown hts hP hK hD hZ hA hS hl
  have hown : s.vm.findClass RX1 = some m.cls := hown
  have hl : lv_has ls 2 [(0, .ref (b 0)), (1, .int slot)] := hl
  refine lv_aload_n hx hb dX1_kind_0 rfl (lv_at hl 0 rfl) ?_
  refine lv_iload_n hx hb dX1_kind_1 rfl (lv_at hl 1 rfl) ?_
  refine kn_i (wc := []) (wr := (wM b g cd n K V (fun i9 => kd i9 + 1) SK SV)) (w1 := []) (va_runS (As := [.int slot]) (rest := [.ref (b 0)]) ⟨hx, hb, hml, hown, hts⟩ (m_isSlot l hl9 D slot s.heap.size) (va_cwS 1 hts (gd_up (gd_S mb_48 mb_49 mb_50 mb_51)) rfl rfl rfl (by decide +kernel) ⟨by decide, by decide⟩) ⟨cP_blind, cPre hP hD hK hS hA hZ [] rfl (by decide) [] rfl⟩ rfl rfl hl.1 rfl (lv_room (Nat.le_of_ble_eq_true rfl)) dX1_kind_2 ⟨by decide, by decide⟩) hP hD hS hA [] [0, 1, 2, 3, 4, 5] rfl rfl (by decide) (by decide) (fun r9 H locs hp hP hD hS => ?_)
  have hP : va_P D vwCl (wM b g cd n K V (fun i9 => kd i9 + 1) SK SV) H := hP
  have hD : va_D A (wM b g cd n K V (fun i9 => kd i9 + 1) SK SV) := hD
  by_cases hs : okS slot
  · skip
    rw [if_pos hs] at hp
    subst hp
    refine lv_if_eq (tgt := 12) hx hb dX1_kind_5 (by decide) (fun h0 => ?_) (fun h0 => ?_)
    · skip
      first | exact absurd h0 (by decide) | exact (h0 rfl).elim
    · skip
      rw [show cdD slot = 0 from if_pos hs]
      obtain ⟨j, hj, rfl⟩ := okS_of hs
      rw [ix_n hj]
      refine lv_iconst (v := 0) hx hb dX1_kind_8 (by decide) ?_
      refine lv_goto (tgt := 13) hx hb dX1_kind_9 (by decide) ?_
      refine va_put (D := D) (ci := 1) (v := .int 0) (ty := .int) (C := RX1) (T := TX1) (N := 7) hx hb hts (fun w h => wm (ui_X1 w h)) tyX1 tyX1_ok nmX1 hown hK hP hD hS 0 rfl rfl 0 (by decide) (hts (.fieldLink RX1 26 "LinkedIndexModel" "code" "I") (wm mb_47)) (fun _ h9 => h9) rfl (by decide +kernel) rfl rfl (Nat.le_of_ble_eq_true rfl) dX1_kind_13 (fun H locs hP hD hS => ?_)
      have hP : va_P D vwCl (wM b g 0 n K V (fun i9 => kd i9 + 1) SK SV) H := hP
      have hD : va_D A (wM b g 0 n K V (fun i9 => kd i9 + 1) SK SV) := hD
      refine lv_aload_n hx hb dX1_kind_16 rfl (lv_at hl 0 rfl) ?_
      refine va_get (D := D) (ci := 1) (v := .int 0) (C := RX1) (T := TX1) (N := 7) hx hb hts (fun w h => wm (ui_X1 w h)) hown hK hP 0 rfl rfl 0 (by decide) (hts (.fieldLink RX1 26 "LinkedIndexModel" "code" "I") (wm mb_47)) (fun _ h9 => h9) rfl dX1_kind_17 ?_
      refine lv_if_ne (tgt := 34) hx hb dX1_kind_20 (by decide) (fun h9 => ?_) (fun h9 => ?_)
      · skip
        first | exact absurd h9 (by decide) | exact (h9 rfl).elim
      · skip
        refine lv_aload_n hx hb dX1_kind_23 rfl (lv_at hl 0 rfl) ?_
        refine va_get (D := D) (ci := 1) (v := .ref (b 3)) (C := RX1) (T := TX1) (N := 7) hx hb hts (fun w h => wm (ui_X1 w h)) hown hK hP 0 rfl rfl 4 (by decide) (hts (.fieldLink RX1 16 "LinkedIndexModel" "kinds" "[I") (wm mb_52)) (fun _ h9 => h9) rfl dX1_kind_24 ?_
        refine lv_iload_n hx hb dX1_kind_27 rfl (lv_at hl 1 rfl) ?_
        refine x_iald (j := j) hx hb hK hP 3 2 rfl rfl hj (by decide) dX1_kind_28 ?_
        refine lv_iconst (v := 1) hx hb dX1_kind_29 (by decide) ?_
        refine lv_isub hx hb dX1_kind_30 ?_
        refine lv_goto (tgt := 35) hx hb dX1_kind_31 (by decide) ?_
        exact fn_i hx hb hr hlocks (by decide) (by decide) (fun _ => kOk_m) hP hK hD hS dX1_kind_35
  · skip
    rw [if_neg hs] at hp
    subst hp
    refine lv_if_eq (tgt := 12) hx hb dX1_kind_5 (by decide) (fun h0 => ?_) (fun h0 => ?_)
    · skip
      rw [show cdD slot = 1 from if_neg hs]
      refine lv_iconst (v := 1) hx hb dX1_kind_12 (by decide) ?_
      refine va_put (D := D) (ci := 1) (v := .int 1) (ty := .int) (C := RX1) (T := TX1) (N := 7) hx hb hts (fun w h => wm (ui_X1 w h)) tyX1 tyX1_ok nmX1 hown hK hP hD hS 0 rfl rfl 0 (by decide) (hts (.fieldLink RX1 26 "LinkedIndexModel" "code" "I") (wm mb_47)) (fun _ h9 => h9) rfl (by decide +kernel) rfl rfl (Nat.le_of_ble_eq_true rfl) dX1_kind_13 (fun H locs hP hD hS => ?_)
      have hP : va_P D vwCl (wM b g 1 n K V (fun i9 => kd i9 + 1) SK SV) H := hP
      have hD : va_D A (wM b g 1 n K V (fun i9 => kd i9 + 1) SK SV) := hD
      refine lv_aload_n hx hb dX1_kind_16 rfl (lv_at hl 0 rfl) ?_
      refine va_get (D := D) (ci := 1) (v := .int 1) (C := RX1) (T := TX1) (N := 7) hx hb hts (fun w h => wm (ui_X1 w h)) hown hK hP 0 rfl rfl 0 (by decide) (hts (.fieldLink RX1 26 "LinkedIndexModel" "code" "I") (wm mb_47)) (fun _ h9 => h9) rfl dX1_kind_17 ?_
      refine lv_if_ne (tgt := 34) hx hb dX1_kind_20 (by decide) (fun h9 => ?_) (fun h9 => ?_)
      · skip
        refine lv_iconst (v := 0) hx hb dX1_kind_34 (by decide) ?_
        exact fn_i hx hb hr hlocks (by decide) (by decide) (fun q => absurd q hs) hP hK hD hS dX1_kind_35
      · skip
        first | exact absurd h9 (by decide) | exact (h9 rfl).elim
    · skip
      first | exact absurd h0 (by decide) | exact (h0 rfl).elim
set_option maxHeartbeats 1000000 in
set_option maxRecDepth 100000 in
theorem m_size (l : Launch) (hl9 : l.stackTraces = false) (D : va_G) (b : Nat → Nat) (g : Nat → ClassId) (cd : Int32) (n : Nat) (K V : Nat → Int64) (kd : Nat → Int32) (SK SV : Nat → Int64) (sz : Nat)  : Met l yX1_size wsX1_size ({ frames := 0, cells := 0, slots := 0, locals := 0 }) (cP D (tM g) (wM b g cd n K V (fun i9 => kd i9 + 1) SK SV) [.ref (b 0)] sz) (cQi D (tM g) (fun v => v = nI n) (wM b g 0 n K V (fun i9 => kd i9 + 1) SK SV) (va_A (wM b g cd n K V (fun i9 => kd i9 + 1) SK SV) sz)) 0 0 (va_A (wM b g cd n K V (fun i9 => kd i9 + 1) SK SV) sz) := by
  refine mk_n (cc := cX1_size) (maxL := 1) (ret := (some .int)) (fun A => cQi D (tM g) (fun v => v = nI n) (wM b g 0 n K V (fun i9 => kd i9 + 1) SK SV) A) (by decide) rfl (Nat.le_of_ble_eq_true rfl) ?_
  intro p e s m below meth c ls A hx hb hr hml hlocks hnm hown hts hP hK hD hZ hA hS hl
  have hown : s.vm.findClass RX1 = some m.cls := hown
  have hl : lv_has ls 1 [(0, .ref (b 0))] := hl
  refine lv_aload_n hx hb dX1_size_0 rfl (lv_at hl 0 rfl) ?_
  refine lv_iconst (v := 0) hx hb dX1_size_1 (by decide) ?_
  refine va_put (D := D) (ci := 1) (v := .int 0) (ty := .int) (C := RX1) (T := TX1) (N := 7) hx hb hts (fun w h => wm (ui_X1 w h)) tyX1 tyX1_ok nmX1 hown hK hP hD hS 0 rfl rfl 0 (by decide) (hts (.fieldLink RX1 26 "LinkedIndexModel" "code" "I") (wm mb_47)) (fun _ h9 => h9) rfl (by decide +kernel) rfl rfl (Nat.le_of_ble_eq_true rfl) dX1_size_2 (fun H locs hP hD hS => ?_)
  have hP : va_P D vwCl (wM b g 0 n K V (fun i9 => kd i9 + 1) SK SV) H := hP
  have hD : va_D A (wM b g 0 n K V (fun i9 => kd i9 + 1) SK SV) := hD
  refine lv_aload_n hx hb dX1_size_5 rfl (lv_at hl 0 rfl) ?_
  refine va_get (D := D) (ci := 1) (v := .int (nI n)) (C := RX1) (T := TX1) (N := 7) hx hb hts (fun w h => wm (ui_X1 w h)) hown hK hP 0 rfl rfl 1 (by decide) (hts (.fieldLink RX1 34 "LinkedIndexModel" "size" "I") (wm mb_55)) (fun _ h9 => h9) rfl dX1_size_6 ?_
  exact fn_i hx hb hr hlocks (by decide) (by decide) rfl hP hK hD hS dX1_size_9
set_option maxHeartbeats 1000000 in
set_option maxRecDepth 100000 in
theorem m_key (l : Launch) (hl9 : l.stackTraces = false) (D : va_G) (b : Nat → Nat) (g : Nat → ClassId) (cd : Int32) (n : Nat) (K V : Nat → Int64) (kd : Nat → Int32) (SK SV : Nat → Int64) (x : Int32) (sz : Nat) (hn : n ≤ 100) : Met l yX1_key wsX1_key ({ frames := 0, cells := 0, slots := 0, locals := 0 }) (cP D (tM g) (wM b g cd n K V (fun i9 => kd i9 + 1) SK SV) [.ref (b 0), .int x] sz) (cQl D (tM g) (fun v => okP x n → v = K (ix x)) (wM b g (cdP x n) n K V (fun i9 => kd i9 + 1) SK SV) (va_A (wM b g cd n K V (fun i9 => kd i9 + 1) SK SV) sz)) 0 0 (va_A (wM b g cd n K V (fun i9 => kd i9 + 1) SK SV) sz) := by
  refine mk_n (cc := cX1_key) (maxL := 2) (ret := (some .long)) (fun A => cQl D (tM g) (fun v => okP x n → v = K (ix x)) (wM b g (cdP x n) n K V (fun i9 => kd i9 + 1) SK SV) A) (by decide) rfl (Nat.le_of_ble_eq_true rfl) ?_
  intro p e s m below meth c ls A hx hb hr hml hlocks hnm hown hts hP hK hD hZ hA hS hl
  have hown : s.vm.findClass RX1 = some m.cls := hown
  have hl : lv_has ls 2 [(0, .ref (b 0)), (1, .int x)] := hl
  refine lv_aload_n hx hb dX1_key_0 rfl (lv_at hl 0 rfl) ?_
  refine lv_iload_n hx hb dX1_key_1 rfl (lv_at hl 1 rfl) ?_
  refine lv_if_lt (tgt := 13) hx hb dX1_key_2 (by decide) (fun h1 => ?_) (fun h1 => ?_)
  · skip
    have hs : ¬ okP x n := fun q => q.1 h1
    rw [show cdP x n = 1 from if_neg hs]
    refine lv_iconst (v := 1) hx hb dX1_key_13 (by decide) ?_
    refine lv_goto (tgt := 18) hx hb dX1_key_14 (by decide) ?_
    refine va_put (D := D) (ci := 1) (v := .int 1) (ty := .int) (C := RX1) (T := TX1) (N := 7) hx hb hts (fun w h => wm (ui_X1 w h)) tyX1 tyX1_ok nmX1 hown hK hP hD hS 0 rfl rfl 0 (by decide) (hts (.fieldLink RX1 26 "LinkedIndexModel" "code" "I") (wm mb_47)) (fun _ h9 => h9) rfl (by decide +kernel) rfl rfl (Nat.le_of_ble_eq_true rfl) dX1_key_18 (fun H locs hP hD hS => ?_)
    have hP : va_P D vwCl (wM b g 1 n K V (fun i9 => kd i9 + 1) SK SV) H := hP
    have hD : va_D A (wM b g 1 n K V (fun i9 => kd i9 + 1) SK SV) := hD
    refine lv_aload_n hx hb dX1_key_21 rfl (lv_at hl 0 rfl) ?_
    refine va_get (D := D) (ci := 1) (v := .int 1) (C := RX1) (T := TX1) (N := 7) hx hb hts (fun w h => wm (ui_X1 w h)) hown hK hP 0 rfl rfl 0 (by decide) (hts (.fieldLink RX1 26 "LinkedIndexModel" "code" "I") (wm mb_47)) (fun _ h9 => h9) rfl dX1_key_22 ?_
    refine lv_if_ne (tgt := 37) hx hb dX1_key_25 (by decide) (fun h9 => ?_) (fun h9 => ?_)
    · skip
      refine lv_lconst (v := 0) hx hb dX1_key_37 (by decide) ?_
      exact fn_l hx hb hr hlocks (by decide) (by decide) (fun q => absurd q hs) hP hK hD hS dX1_key_38
    · skip
      first | exact absurd h9 (by decide) | exact (h9 rfl).elim
  · skip
    refine lv_iload_n hx hb dX1_key_5 rfl (lv_at hl 1 rfl) ?_
    refine lv_aload_n hx hb dX1_key_6 rfl (lv_at hl 0 rfl) ?_
    refine va_get (D := D) (ci := 1) (v := .int (nI n)) (C := RX1) (T := TX1) (N := 7) hx hb hts (fun w h => wm (ui_X1 w h)) hown hK hP 0 rfl rfl 1 (by decide) (hts (.fieldLink RX1 34 "LinkedIndexModel" "size" "I") (wm mb_55)) (fun _ h9 => h9) rfl dX1_key_7 ?_
    refine lv_icmp_lt (tgt := 17) hx hb dX1_key_10 (by decide) (fun h2 => ?_) (fun h2 => ?_)
    · skip
      have hs : okP x n := ⟨h1, h2⟩
      rw [show cdP x n = 0 from if_pos hs]
      obtain ⟨j, hj, rfl⟩ := okP_of (by omega) hs
      rw [show ix (nI j) = j from nI_clamp (by omega)]
      refine lv_iconst (v := 0) hx hb dX1_key_17 (by decide) ?_
      refine va_put (D := D) (ci := 1) (v := .int 0) (ty := .int) (C := RX1) (T := TX1) (N := 7) hx hb hts (fun w h => wm (ui_X1 w h)) tyX1 tyX1_ok nmX1 hown hK hP hD hS 0 rfl rfl 0 (by decide) (hts (.fieldLink RX1 26 "LinkedIndexModel" "code" "I") (wm mb_47)) (fun _ h9 => h9) rfl (by decide +kernel) rfl rfl (Nat.le_of_ble_eq_true rfl) dX1_key_18 (fun H locs hP hD hS => ?_)
      have hP : va_P D vwCl (wM b g 0 n K V (fun i9 => kd i9 + 1) SK SV) H := hP
      have hD : va_D A (wM b g 0 n K V (fun i9 => kd i9 + 1) SK SV) := hD
      refine lv_aload_n hx hb dX1_key_21 rfl (lv_at hl 0 rfl) ?_
      refine va_get (D := D) (ci := 1) (v := .int 0) (C := RX1) (T := TX1) (N := 7) hx hb hts (fun w h => wm (ui_X1 w h)) hown hK hP 0 rfl rfl 0 (by decide) (hts (.fieldLink RX1 26 "LinkedIndexModel" "code" "I") (wm mb_47)) (fun _ h9 => h9) rfl dX1_key_22 ?_
      refine lv_if_ne (tgt := 37) hx hb dX1_key_25 (by decide) (fun h9 => ?_) (fun h9 => ?_)
      · skip
        first | exact absurd h9 (by decide) | exact (h9 rfl).elim
      · skip
        refine lv_aload_n hx hb dX1_key_28 rfl (lv_at hl 0 rfl) ?_
        refine va_get (D := D) (ci := 1) (v := .ref (b 1)) (C := RX1) (T := TX1) (N := 7) hx hb hts (fun w h => wm (ui_X1 w h)) hown hK hP 0 rfl rfl 2 (by decide) (hts (.fieldLink RX1 7 "LinkedIndexModel" "keys" "[J") (wm mb_56)) (fun _ h9 => h9) rfl dX1_key_29 ?_
        refine lv_iload_n hx hb dX1_key_32 rfl (lv_at hl 1 rfl) ?_
        refine x_lald (j := j) hx hb hK hP 1 0 rfl rfl (by omega) (by decide) dX1_key_33 ?_
        refine lv_goto (tgt := 38) hx hb dX1_key_34 (by decide) ?_
        exact fn_l hx hb hr hlocks (by decide) (by decide) (fun _ => rfl) hP hK hD hS dX1_key_38
    · skip
      have hs : ¬ okP x n := fun q => h2 q.2
      rw [show cdP x n = 1 from if_neg hs]
      refine lv_iconst (v := 1) hx hb dX1_key_13 (by decide) ?_
      refine lv_goto (tgt := 18) hx hb dX1_key_14 (by decide) ?_
      refine va_put (D := D) (ci := 1) (v := .int 1) (ty := .int) (C := RX1) (T := TX1) (N := 7) hx hb hts (fun w h => wm (ui_X1 w h)) tyX1 tyX1_ok nmX1 hown hK hP hD hS 0 rfl rfl 0 (by decide) (hts (.fieldLink RX1 26 "LinkedIndexModel" "code" "I") (wm mb_47)) (fun _ h9 => h9) rfl (by decide +kernel) rfl rfl (Nat.le_of_ble_eq_true rfl) dX1_key_18 (fun H locs hP hD hS => ?_)
      have hP : va_P D vwCl (wM b g 1 n K V (fun i9 => kd i9 + 1) SK SV) H := hP
      have hD : va_D A (wM b g 1 n K V (fun i9 => kd i9 + 1) SK SV) := hD
      refine lv_aload_n hx hb dX1_key_21 rfl (lv_at hl 0 rfl) ?_
      refine va_get (D := D) (ci := 1) (v := .int 1) (C := RX1) (T := TX1) (N := 7) hx hb hts (fun w h => wm (ui_X1 w h)) hown hK hP 0 rfl rfl 0 (by decide) (hts (.fieldLink RX1 26 "LinkedIndexModel" "code" "I") (wm mb_47)) (fun _ h9 => h9) rfl dX1_key_22 ?_
      refine lv_if_ne (tgt := 37) hx hb dX1_key_25 (by decide) (fun h9 => ?_) (fun h9 => ?_)
      · skip
        refine lv_lconst (v := 0) hx hb dX1_key_37 (by decide) ?_
        exact fn_l hx hb hr hlocks (by decide) (by decide) (fun q => absurd q hs) hP hK hD hS dX1_key_38
      · skip
        first | exact absurd h9 (by decide) | exact (h9 rfl).elim
set_option maxHeartbeats 1000000 in
set_option maxRecDepth 100000 in
theorem m_value (l : Launch) (hl9 : l.stackTraces = false) (D : va_G) (b : Nat → Nat) (g : Nat → ClassId) (cd : Int32) (n : Nat) (K V : Nat → Int64) (kd : Nat → Int32) (SK SV : Nat → Int64) (x : Int32) (sz : Nat) (hn : n ≤ 100) : Met l yX1_value wsX1_value ({ frames := 0, cells := 0, slots := 0, locals := 0 }) (cP D (tM g) (wM b g cd n K V (fun i9 => kd i9 + 1) SK SV) [.ref (b 0), .int x] sz) (cQl D (tM g) (fun v => okP x n → v = V (ix x)) (wM b g (cdP x n) n K V (fun i9 => kd i9 + 1) SK SV) (va_A (wM b g cd n K V (fun i9 => kd i9 + 1) SK SV) sz)) 0 0 (va_A (wM b g cd n K V (fun i9 => kd i9 + 1) SK SV) sz) := by
  refine mk_n (cc := cX1_value) (maxL := 2) (ret := (some .long)) (fun A => cQl D (tM g) (fun v => okP x n → v = V (ix x)) (wM b g (cdP x n) n K V (fun i9 => kd i9 + 1) SK SV) A) (by decide) rfl (Nat.le_of_ble_eq_true rfl) ?_
  intro p e s m below meth c ls A hx hb hr hml hlocks hnm hown hts hP hK hD hZ hA hS hl
  have hown : s.vm.findClass RX1 = some m.cls := hown
  have hl : lv_has ls 2 [(0, .ref (b 0)), (1, .int x)] := hl
  refine lv_aload_n hx hb dX1_value_0 rfl (lv_at hl 0 rfl) ?_
  refine lv_iload_n hx hb dX1_value_1 rfl (lv_at hl 1 rfl) ?_
  refine lv_if_lt (tgt := 13) hx hb dX1_value_2 (by decide) (fun h1 => ?_) (fun h1 => ?_)
  · skip
    have hs : ¬ okP x n := fun q => q.1 h1
    rw [show cdP x n = 1 from if_neg hs]
    refine lv_iconst (v := 1) hx hb dX1_value_13 (by decide) ?_
    refine lv_goto (tgt := 18) hx hb dX1_value_14 (by decide) ?_
    refine va_put (D := D) (ci := 1) (v := .int 1) (ty := .int) (C := RX1) (T := TX1) (N := 7) hx hb hts (fun w h => wm (ui_X1 w h)) tyX1 tyX1_ok nmX1 hown hK hP hD hS 0 rfl rfl 0 (by decide) (hts (.fieldLink RX1 26 "LinkedIndexModel" "code" "I") (wm mb_47)) (fun _ h9 => h9) rfl (by decide +kernel) rfl rfl (Nat.le_of_ble_eq_true rfl) dX1_value_18 (fun H locs hP hD hS => ?_)
    have hP : va_P D vwCl (wM b g 1 n K V (fun i9 => kd i9 + 1) SK SV) H := hP
    have hD : va_D A (wM b g 1 n K V (fun i9 => kd i9 + 1) SK SV) := hD
    refine lv_aload_n hx hb dX1_value_21 rfl (lv_at hl 0 rfl) ?_
    refine va_get (D := D) (ci := 1) (v := .int 1) (C := RX1) (T := TX1) (N := 7) hx hb hts (fun w h => wm (ui_X1 w h)) hown hK hP 0 rfl rfl 0 (by decide) (hts (.fieldLink RX1 26 "LinkedIndexModel" "code" "I") (wm mb_47)) (fun _ h9 => h9) rfl dX1_value_22 ?_
    refine lv_if_ne (tgt := 37) hx hb dX1_value_25 (by decide) (fun h9 => ?_) (fun h9 => ?_)
    · skip
      refine lv_lconst (v := 0) hx hb dX1_value_37 (by decide) ?_
      exact fn_l hx hb hr hlocks (by decide) (by decide) (fun q => absurd q hs) hP hK hD hS dX1_value_38
    · skip
      first | exact absurd h9 (by decide) | exact (h9 rfl).elim
  · skip
    refine lv_iload_n hx hb dX1_value_5 rfl (lv_at hl 1 rfl) ?_
    refine lv_aload_n hx hb dX1_value_6 rfl (lv_at hl 0 rfl) ?_
    refine va_get (D := D) (ci := 1) (v := .int (nI n)) (C := RX1) (T := TX1) (N := 7) hx hb hts (fun w h => wm (ui_X1 w h)) hown hK hP 0 rfl rfl 1 (by decide) (hts (.fieldLink RX1 34 "LinkedIndexModel" "size" "I") (wm mb_55)) (fun _ h9 => h9) rfl dX1_value_7 ?_
    refine lv_icmp_lt (tgt := 17) hx hb dX1_value_10 (by decide) (fun h2 => ?_) (fun h2 => ?_)
    · skip
      have hs : okP x n := ⟨h1, h2⟩
      rw [show cdP x n = 0 from if_pos hs]
      obtain ⟨j, hj, rfl⟩ := okP_of (by omega) hs
      rw [show ix (nI j) = j from nI_clamp (by omega)]
      refine lv_iconst (v := 0) hx hb dX1_value_17 (by decide) ?_
      refine va_put (D := D) (ci := 1) (v := .int 0) (ty := .int) (C := RX1) (T := TX1) (N := 7) hx hb hts (fun w h => wm (ui_X1 w h)) tyX1 tyX1_ok nmX1 hown hK hP hD hS 0 rfl rfl 0 (by decide) (hts (.fieldLink RX1 26 "LinkedIndexModel" "code" "I") (wm mb_47)) (fun _ h9 => h9) rfl (by decide +kernel) rfl rfl (Nat.le_of_ble_eq_true rfl) dX1_value_18 (fun H locs hP hD hS => ?_)
      have hP : va_P D vwCl (wM b g 0 n K V (fun i9 => kd i9 + 1) SK SV) H := hP
      have hD : va_D A (wM b g 0 n K V (fun i9 => kd i9 + 1) SK SV) := hD
      refine lv_aload_n hx hb dX1_value_21 rfl (lv_at hl 0 rfl) ?_
      refine va_get (D := D) (ci := 1) (v := .int 0) (C := RX1) (T := TX1) (N := 7) hx hb hts (fun w h => wm (ui_X1 w h)) hown hK hP 0 rfl rfl 0 (by decide) (hts (.fieldLink RX1 26 "LinkedIndexModel" "code" "I") (wm mb_47)) (fun _ h9 => h9) rfl dX1_value_22 ?_
      refine lv_if_ne (tgt := 37) hx hb dX1_value_25 (by decide) (fun h9 => ?_) (fun h9 => ?_)
      · skip
        first | exact absurd h9 (by decide) | exact (h9 rfl).elim
      · skip
        refine lv_aload_n hx hb dX1_value_28 rfl (lv_at hl 0 rfl) ?_
        refine va_get (D := D) (ci := 1) (v := .ref (b 2)) (C := RX1) (T := TX1) (N := 7) hx hb hts (fun w h => wm (ui_X1 w h)) hown hK hP 0 rfl rfl 3 (by decide) (hts (.fieldLink RX1 13 "LinkedIndexModel" "values" "[J") (wm mb_57)) (fun _ h9 => h9) rfl dX1_value_29 ?_
        refine lv_iload_n hx hb dX1_value_32 rfl (lv_at hl 1 rfl) ?_
        refine x_lald (j := j) hx hb hK hP 2 1 rfl rfl (by omega) (by decide) dX1_value_33 ?_
        refine lv_goto (tgt := 38) hx hb dX1_value_34 (by decide) ?_
        exact fn_l hx hb hr hlocks (by decide) (by decide) (fun _ => rfl) hP hK hD hS dX1_value_38
    · skip
      have hs : ¬ okP x n := fun q => h2 q.2
      rw [show cdP x n = 1 from if_neg hs]
      refine lv_iconst (v := 1) hx hb dX1_value_13 (by decide) ?_
      refine lv_goto (tgt := 18) hx hb dX1_value_14 (by decide) ?_
      refine va_put (D := D) (ci := 1) (v := .int 1) (ty := .int) (C := RX1) (T := TX1) (N := 7) hx hb hts (fun w h => wm (ui_X1 w h)) tyX1 tyX1_ok nmX1 hown hK hP hD hS 0 rfl rfl 0 (by decide) (hts (.fieldLink RX1 26 "LinkedIndexModel" "code" "I") (wm mb_47)) (fun _ h9 => h9) rfl (by decide +kernel) rfl rfl (Nat.le_of_ble_eq_true rfl) dX1_value_18 (fun H locs hP hD hS => ?_)
      have hP : va_P D vwCl (wM b g 1 n K V (fun i9 => kd i9 + 1) SK SV) H := hP
      have hD : va_D A (wM b g 1 n K V (fun i9 => kd i9 + 1) SK SV) := hD
      refine lv_aload_n hx hb dX1_value_21 rfl (lv_at hl 0 rfl) ?_
      refine va_get (D := D) (ci := 1) (v := .int 1) (C := RX1) (T := TX1) (N := 7) hx hb hts (fun w h => wm (ui_X1 w h)) hown hK hP 0 rfl rfl 0 (by decide) (hts (.fieldLink RX1 26 "LinkedIndexModel" "code" "I") (wm mb_47)) (fun _ h9 => h9) rfl dX1_value_22 ?_
      refine lv_if_ne (tgt := 37) hx hb dX1_value_25 (by decide) (fun h9 => ?_) (fun h9 => ?_)
      · skip
        refine lv_lconst (v := 0) hx hb dX1_value_37 (by decide) ?_
        exact fn_l hx hb hr hlocks (by decide) (by decide) (fun q => absurd q hs) hP hK hD hS dX1_value_38
      · skip
        first | exact absurd h9 (by decide) | exact (h9 rfl).elim
set_option maxHeartbeats 1000000 in
set_option maxRecDepth 100000 in
theorem m_count (l : Launch) (hl9 : l.stackTraces = false) (D : va_G) (b : Nat → Nat) (g : Nat → ClassId) (cd : Int32) (n : Nat) (K V : Nat → Int64) (kd : Nat → Int32) (SK SV : Nat → Int64) (fr to_ : Int64) (sz : Nat) (hn : n ≤ 100) (hm : mono K n) : Met l yX1_count wsX1_count ({ frames := 0, cells := 0, slots := 0, locals := 0 }) (cP D (tM g) (wM b g cd n K V (fun i9 => kd i9 + 1) SK SV) [.ref (b 0), .long fr, .long to_] sz) (cQi D (tM g) (fun v => v = cntS K n fr to_) (wM b g 0 n K V (fun i9 => kd i9 + 1) SK SV) (va_A (wM b g cd n K V (fun i9 => kd i9 + 1) SK SV) sz)) 0 0 (va_A (wM b g cd n K V (fun i9 => kd i9 + 1) SK SV) sz) := by
  refine mk_n (cc := cX1_count) (maxL := 7) (ret := (some .int)) (fun A => cQi D (tM g) (fun v => v = cntS K n fr to_) (wM b g 0 n K V (fun i9 => kd i9 + 1) SK SV) A) (by decide) rfl (Nat.le_of_ble_eq_true rfl) ?_
  intro p e s m below meth c ls A hx hb hr hml hlocks hnm hown hts hP hK hD hZ hA hS hl
  have hown : s.vm.findClass RX1 = some m.cls := hown
  have hl : lv_has ls 7 [(0, .ref (b 0)), (1, .long fr), (3, .long to_)] := hl
  refine lv_aload_n hx hb dX1_count_0 rfl (lv_at hl 0 rfl) ?_
  refine lv_iconst (v := 0) hx hb dX1_count_1 (by decide) ?_
  refine va_put (D := D) (ci := 1) (v := .int 0) (ty := .int) (C := RX1) (T := TX1) (N := 7) hx hb hts (fun w h => wm (ui_X1 w h)) tyX1 tyX1_ok nmX1 hown hK hP hD hS 0 rfl rfl 0 (by decide) (hts (.fieldLink RX1 26 "LinkedIndexModel" "code" "I") (wm mb_47)) (fun _ h9 => h9) rfl (by decide +kernel) rfl rfl (Nat.le_of_ble_eq_true rfl) dX1_count_2 (fun H locs hP hD hS => ?_)
  have hP : va_P D vwCl (wM b g 0 n K V (fun i9 => kd i9 + 1) SK SV) H := hP
  have hD : va_D A (wM b g 0 n K V (fun i9 => kd i9 + 1) SK SV) := hD
  refine lv_iconst (v := 0) hx hb dX1_count_5 (by decide) ?_
  refine lv_istore (lv' := [(5, .int 0), (0, .ref (b 0)), (1, .long fr), (3, .long to_)]) hx hb dX1_count_6 hl (by decide) rfl (fun ls hl => ?_)
  refine lv_iconst (v := 0) hx hb dX1_count_8 (by decide) ?_
  refine lv_istore (lv' := [(6, .int 0), (5, .int 0), (0, .ref (b 0)), (1, .long fr), (3, .long to_)]) hx hb dX1_count_9 hl (by decide) rfl (fun ls hl => ?_)
  have loop : ∀ (f i : Nat) (acc : Int32), n - i = f → i ≤ n → cM (fun x y : Int32 => x + y) 0 (fun _ => 1) K fr to_ f i acc = cntS K n fr to_ → ∀ ls : Array Slot, lv_has ls 7 [(6, .int (nI i)), (5, .int acc), (0, .ref (b 0)), (1, .long fr), (3, .long to_)] → W p l e ({ frames := 0, cells := 0, slots := 0, locals := 0 }) s m ([.ref (b 0), .long fr, .long to_] : List Value).toArray below meth c H locs 0 0 (MQ below (cQi D (tM g) (fun v => v = cntS K n fr to_) (wM b g 0 n K V (fun i9 => kd i9 + 1) SK SV) A) ([.ref (b 0), .long fr, .long to_] : List Value).toArray s 0 0 A) (F0 m 11 ls []) := by
    intro f
    induction f with
    | zero =>
      intro i acc hf hi hk ls hl
      refine lv_iload hx hb dX1_count_11 (lv_at hl 0 rfl) ?_
      refine lv_aload_n hx hb dX1_count_13 rfl (lv_at hl 2 rfl) ?_
      refine va_get (D := D) (ci := 1) (v := .int (nI n)) (C := RX1) (T := TX1) (N := 7) hx hb hts (fun w h => wm (ui_X1 w h)) hown hK hP 0 rfl rfl 1 (by decide) (hts (.fieldLink RX1 34 "LinkedIndexModel" "size" "I") (wm mb_55)) (fun _ h9 => h9) rfl dX1_count_14 ?_
      refine lv_icmp_ge (tgt := 60) hx hb dX1_count_17 (by decide) (fun h1 => ?_) (fun h1 => ?_)
      · skip
        refine lv_iload hx hb dX1_count_60 (lv_at hl 1 rfl) ?_
        exact fn_i hx hb hr hlocks (by decide) (by decide) hk hP hK hD hS dX1_count_62
      · skip
        exact absurd ((nI_leI (by omega) (by omega)).mpr (by omega)) h1
    | succ f ih =>
      intro i acc hf hi hk ls hl
      refine lv_iload hx hb dX1_count_11 (lv_at hl 0 rfl) ?_
      refine lv_aload_n hx hb dX1_count_13 rfl (lv_at hl 2 rfl) ?_
      refine va_get (D := D) (ci := 1) (v := .int (nI n)) (C := RX1) (T := TX1) (N := 7) hx hb hts (fun w h => wm (ui_X1 w h)) hown hK hP 0 rfl rfl 1 (by decide) (hts (.fieldLink RX1 34 "LinkedIndexModel" "size" "I") (wm mb_55)) (fun _ h9 => h9) rfl dX1_count_14 ?_
      refine lv_icmp_ge (tgt := 60) hx hb dX1_count_17 (by decide) (fun h1 => ?_) (fun h1 => ?_)
      · skip
        exact absurd ((nI_leI (by omega) (by omega)).mp h1) (by omega)
      · skip
        refine lv_iload hx hb dX1_count_20 (lv_at hl 1 rfl) ?_
        refine lv_aload_n hx hb dX1_count_22 rfl (lv_at hl 2 rfl) ?_
        refine va_get (D := D) (ci := 1) (v := .ref (b 1)) (C := RX1) (T := TX1) (N := 7) hx hb hts (fun w h => wm (ui_X1 w h)) hown hK hP 0 rfl rfl 2 (by decide) (hts (.fieldLink RX1 7 "LinkedIndexModel" "keys" "[J") (wm mb_56)) (fun _ h9 => h9) rfl dX1_count_23 ?_
        refine lv_iload hx hb dX1_count_26 (lv_at hl 0 rfl) ?_
        refine x_lald (j := i) hx hb hK hP 1 0 rfl rfl (by omega) (by decide) dX1_count_28 ?_
        refine lv_lload_n hx hb dX1_count_29 rfl (lv_at hl 3 rfl) ?_
        refine W.lcmp hx hb dX1_count_30 ?_
        refine lv_if_lt (tgt := 50) hx hb dX1_count_31 (by decide) (fun h2 => ?_) (fun h2 => ?_)
        · skip
          have h2 : ¬ fr ≤ K i := i64_nltle ((lg_cmp_lt _ _).mp h2)
          have hk : cM (fun x y : Int32 => x + y) 0 (fun _ => 1) K fr to_ f (i + 1) (acc + 0) = cntS K n fr to_ := by
            rw [← hk]
            show _ = cM (fun x y : Int32 => x + y) 0 (fun _ => 1) K fr to_ f (i + 1) (acc + (if fr ≤ K i ∧ K i ≤ to_ then 1 else 0))
            rw [if_neg (fun q => h2 q.1)]
          refine lv_iconst (v := 0) hx hb dX1_count_50 (by decide) ?_
          refine lv_iadd hx hb dX1_count_51 ?_
          refine lv_istore (lv' := [(5, .int (acc + 0)), (6, .int (nI i)), (0, .ref (b 0)), (1, .long fr), (3, .long to_)]) hx hb dX1_count_52 hl (by decide) rfl (fun ls hl => ?_)
          refine lv_iinc (k := 1) (v := nI (i + 1)) (lv' := [(6, .int (nI (i + 1))), (5, .int (acc + 0)), (0, .ref (b 0)), (1, .long fr), (3, .long to_)]) hx hb dX1_count_54 hl rfl (by rw [show Int32.ofInt 1 = 1 from by decide]; exact nI_1 _) (by decide) rfl (fun ls hl => ?_)
          refine lv_goto (tgt := 11) hx hb dX1_count_57 (by decide) ?_
          exact ih (i + 1) _ (by omega) (by omega) hk ls (lv_sub hl [0, 1, 2, 3, 4] rfl)
        · skip
          have h2 : fr ≤ K i := i64_nlt (fun q => h2 ((lg_cmp_lt _ _).mpr q))
          refine lv_aload_n hx hb dX1_count_34 rfl (lv_at hl 2 rfl) ?_
          refine va_get (D := D) (ci := 1) (v := .ref (b 1)) (C := RX1) (T := TX1) (N := 7) hx hb hts (fun w h => wm (ui_X1 w h)) hown hK hP 0 rfl rfl 2 (by decide) (hts (.fieldLink RX1 7 "LinkedIndexModel" "keys" "[J") (wm mb_56)) (fun _ h9 => h9) rfl dX1_count_35 ?_
          refine lv_iload hx hb dX1_count_38 (lv_at hl 0 rfl) ?_
          refine x_lald (j := i) hx hb hK hP 1 0 rfl rfl (by omega) (by decide) dX1_count_40 ?_
          refine lv_lload_n hx hb dX1_count_41 rfl (lv_at hl 4 rfl) ?_
          refine W.lcmp hx hb dX1_count_42 ?_
          refine lv_if_gt (tgt := 50) hx hb dX1_count_43 (by decide) (fun h3 => ?_) (fun h3 => ?_)
          · skip
            have h3 : ¬ K i ≤ to_ := i64_nltle ((lg_cmp_gt _ _).mp h3)
            have hk : cM (fun x y : Int32 => x + y) 0 (fun _ => 1) K fr to_ f (i + 1) (acc + 0) = cntS K n fr to_ := by
              rw [← hk]
              show _ = cM (fun x y : Int32 => x + y) 0 (fun _ => 1) K fr to_ f (i + 1) (acc + (if fr ≤ K i ∧ K i ≤ to_ then 1 else 0))
              rw [if_neg (fun q => h3 q.2)]
            refine lv_iconst (v := 0) hx hb dX1_count_50 (by decide) ?_
            refine lv_iadd hx hb dX1_count_51 ?_
            refine lv_istore (lv' := [(5, .int (acc + 0)), (6, .int (nI i)), (0, .ref (b 0)), (1, .long fr), (3, .long to_)]) hx hb dX1_count_52 hl (by decide) rfl (fun ls hl => ?_)
            refine lv_iinc (k := 1) (v := nI (i + 1)) (lv' := [(6, .int (nI (i + 1))), (5, .int (acc + 0)), (0, .ref (b 0)), (1, .long fr), (3, .long to_)]) hx hb dX1_count_54 hl rfl (by rw [show Int32.ofInt 1 = 1 from by decide]; exact nI_1 _) (by decide) rfl (fun ls hl => ?_)
            refine lv_goto (tgt := 11) hx hb dX1_count_57 (by decide) ?_
            exact ih (i + 1) _ (by omega) (by omega) hk ls (lv_sub hl [0, 1, 2, 3, 4] rfl)
          · skip
            have h3 : K i ≤ to_ := i64_nlt (fun q => h3 ((lg_cmp_gt _ _).mpr q))
            have hk : cM (fun x y : Int32 => x + y) 0 (fun _ => 1) K fr to_ f (i + 1) (acc + 1) = cntS K n fr to_ := by
              rw [← hk]
              show _ = cM (fun x y : Int32 => x + y) 0 (fun _ => 1) K fr to_ f (i + 1) (acc + (if fr ≤ K i ∧ K i ≤ to_ then 1 else 0))
              rw [if_pos ⟨h2, h3⟩]
            refine lv_iconst (v := 1) hx hb dX1_count_46 (by decide) ?_
            refine lv_goto (tgt := 51) hx hb dX1_count_47 (by decide) ?_
            refine lv_iadd hx hb dX1_count_51 ?_
            refine lv_istore (lv' := [(5, .int (acc + 1)), (6, .int (nI i)), (0, .ref (b 0)), (1, .long fr), (3, .long to_)]) hx hb dX1_count_52 hl (by decide) rfl (fun ls hl => ?_)
            refine lv_iinc (k := 1) (v := nI (i + 1)) (lv' := [(6, .int (nI (i + 1))), (5, .int (acc + 1)), (0, .ref (b 0)), (1, .long fr), (3, .long to_)]) hx hb dX1_count_54 hl rfl (by rw [show Int32.ofInt 1 = 1 from by decide]; exact nI_1 _) (by decide) rfl (fun ls hl => ?_)
            refine lv_goto (tgt := 11) hx hb dX1_count_57 (by decide) ?_
            exact ih (i + 1) _ (by omega) (by omega) hk ls (lv_sub hl [0, 1, 2, 3, 4] rfl)
  exact loop n 0 _ (by omega) (by omega) (cM_is (fun x => Int32.add_zero x) hm 0) ls (lv_sub hl [0, 1, 2, 3, 4] rfl)
set_option maxHeartbeats 1000000 in
set_option maxRecDepth 100000 in
theorem m_sum (l : Launch) (hl9 : l.stackTraces = false) (D : va_G) (b : Nat → Nat) (g : Nat → ClassId) (cd : Int32) (n : Nat) (K V : Nat → Int64) (kd : Nat → Int32) (SK SV : Nat → Int64) (fr to_ : Int64) (sz : Nat) (hn : n ≤ 100) (hm : mono K n) : Met l yX1_sum wsX1_sum ({ frames := 0, cells := 0, slots := 0, locals := 0 }) (cP D (tM g) (wM b g cd n K V (fun i9 => kd i9 + 1) SK SV) [.ref (b 0), .long fr, .long to_] sz) (cQl D (tM g) (fun v => v = sumS K V n fr to_) (wM b g 0 n K V (fun i9 => kd i9 + 1) SK SV) (va_A (wM b g cd n K V (fun i9 => kd i9 + 1) SK SV) sz)) 0 0 (va_A (wM b g cd n K V (fun i9 => kd i9 + 1) SK SV) sz) := by
  refine mk_n (cc := cX1_sum) (maxL := 8) (ret := (some .long)) (fun A => cQl D (tM g) (fun v => v = sumS K V n fr to_) (wM b g 0 n K V (fun i9 => kd i9 + 1) SK SV) A) (by decide) rfl (Nat.le_of_ble_eq_true rfl) ?_
  intro p e s m below meth c ls A hx hb hr hml hlocks hnm hown hts hP hK hD hZ hA hS hl
  have hown : s.vm.findClass RX1 = some m.cls := hown
  have hl : lv_has ls 8 [(0, .ref (b 0)), (1, .long fr), (3, .long to_)] := hl
  refine lv_aload_n hx hb dX1_sum_0 rfl (lv_at hl 0 rfl) ?_
  refine lv_iconst (v := 0) hx hb dX1_sum_1 (by decide) ?_
  refine va_put (D := D) (ci := 1) (v := .int 0) (ty := .int) (C := RX1) (T := TX1) (N := 7) hx hb hts (fun w h => wm (ui_X1 w h)) tyX1 tyX1_ok nmX1 hown hK hP hD hS 0 rfl rfl 0 (by decide) (hts (.fieldLink RX1 26 "LinkedIndexModel" "code" "I") (wm mb_47)) (fun _ h9 => h9) rfl (by decide +kernel) rfl rfl (Nat.le_of_ble_eq_true rfl) dX1_sum_2 (fun H locs hP hD hS => ?_)
  have hP : va_P D vwCl (wM b g 0 n K V (fun i9 => kd i9 + 1) SK SV) H := hP
  have hD : va_D A (wM b g 0 n K V (fun i9 => kd i9 + 1) SK SV) := hD
  refine lv_lconst (v := 0) hx hb dX1_sum_5 (by decide) ?_
  refine lv_lstore (lv' := [(5, .long 0), (0, .ref (b 0)), (1, .long fr), (3, .long to_)]) hx hb dX1_sum_6 hl (by decide) rfl (fun ls hl => ?_)
  refine lv_iconst (v := 0) hx hb dX1_sum_8 (by decide) ?_
  refine lv_istore (lv' := [(7, .int 0), (5, .long 0), (0, .ref (b 0)), (1, .long fr), (3, .long to_)]) hx hb dX1_sum_9 hl (by decide) rfl (fun ls hl => ?_)
  have loop : ∀ (f i : Nat) (acc : Int64), n - i = f → i ≤ n → cM (fun x y : Int64 => x + y) 0 V K fr to_ f i acc = sumS K V n fr to_ → ∀ ls : Array Slot, lv_has ls 8 [(7, .int (nI i)), (5, .long acc), (0, .ref (b 0)), (1, .long fr), (3, .long to_)] → W p l e ({ frames := 0, cells := 0, slots := 0, locals := 0 }) s m ([.ref (b 0), .long fr, .long to_] : List Value).toArray below meth c H locs 0 0 (MQ below (cQl D (tM g) (fun v => v = sumS K V n fr to_) (wM b g 0 n K V (fun i9 => kd i9 + 1) SK SV) A) ([.ref (b 0), .long fr, .long to_] : List Value).toArray s 0 0 A) (F0 m 11 ls []) := by
    intro f
    induction f with
    | zero =>
      intro i acc hf hi hk ls hl
      refine lv_iload hx hb dX1_sum_11 (lv_at hl 0 rfl) ?_
      refine lv_aload_n hx hb dX1_sum_13 rfl (lv_at hl 2 rfl) ?_
      refine va_get (D := D) (ci := 1) (v := .int (nI n)) (C := RX1) (T := TX1) (N := 7) hx hb hts (fun w h => wm (ui_X1 w h)) hown hK hP 0 rfl rfl 1 (by decide) (hts (.fieldLink RX1 34 "LinkedIndexModel" "size" "I") (wm mb_55)) (fun _ h9 => h9) rfl dX1_sum_14 ?_
      refine lv_icmp_ge (tgt := 66) hx hb dX1_sum_17 (by decide) (fun h1 => ?_) (fun h1 => ?_)
      · skip
        refine lv_lload hx hb dX1_sum_66 (lv_at hl 1 rfl) ?_
        exact fn_l hx hb hr hlocks (by decide) (by decide) hk hP hK hD hS dX1_sum_68
      · skip
        exact absurd ((nI_leI (by omega) (by omega)).mpr (by omega)) h1
    | succ f ih =>
      intro i acc hf hi hk ls hl
      refine lv_iload hx hb dX1_sum_11 (lv_at hl 0 rfl) ?_
      refine lv_aload_n hx hb dX1_sum_13 rfl (lv_at hl 2 rfl) ?_
      refine va_get (D := D) (ci := 1) (v := .int (nI n)) (C := RX1) (T := TX1) (N := 7) hx hb hts (fun w h => wm (ui_X1 w h)) hown hK hP 0 rfl rfl 1 (by decide) (hts (.fieldLink RX1 34 "LinkedIndexModel" "size" "I") (wm mb_55)) (fun _ h9 => h9) rfl dX1_sum_14 ?_
      refine lv_icmp_ge (tgt := 66) hx hb dX1_sum_17 (by decide) (fun h1 => ?_) (fun h1 => ?_)
      · skip
        exact absurd ((nI_leI (by omega) (by omega)).mp h1) (by omega)
      · skip
        refine lv_lload hx hb dX1_sum_20 (lv_at hl 1 rfl) ?_
        refine lv_aload_n hx hb dX1_sum_22 rfl (lv_at hl 2 rfl) ?_
        refine va_get (D := D) (ci := 1) (v := .ref (b 1)) (C := RX1) (T := TX1) (N := 7) hx hb hts (fun w h => wm (ui_X1 w h)) hown hK hP 0 rfl rfl 2 (by decide) (hts (.fieldLink RX1 7 "LinkedIndexModel" "keys" "[J") (wm mb_56)) (fun _ h9 => h9) rfl dX1_sum_23 ?_
        refine lv_iload hx hb dX1_sum_26 (lv_at hl 0 rfl) ?_
        refine x_lald (j := i) hx hb hK hP 1 0 rfl rfl (by omega) (by decide) dX1_sum_28 ?_
        refine lv_lload_n hx hb dX1_sum_29 rfl (lv_at hl 3 rfl) ?_
        refine W.lcmp hx hb dX1_sum_30 ?_
        refine lv_if_lt (tgt := 56) hx hb dX1_sum_31 (by decide) (fun h2 => ?_) (fun h2 => ?_)
        · skip
          have h2 : ¬ fr ≤ K i := i64_nltle ((lg_cmp_lt _ _).mp h2)
          have hk : cM (fun x y : Int64 => x + y) 0 V K fr to_ f (i + 1) (acc + 0) = sumS K V n fr to_ := by
            rw [← hk]
            show _ = cM (fun x y : Int64 => x + y) 0 V K fr to_ f (i + 1) (acc + (if fr ≤ K i ∧ K i ≤ to_ then V i else 0))
            rw [if_neg (fun q => h2 q.1)]
          refine lv_lconst (v := 0) hx hb dX1_sum_56 (by decide) ?_
          refine lv_ladd hx hb dX1_sum_57 ?_
          refine lv_lstore (lv' := [(5, .long (acc + 0)), (7, .int (nI i)), (0, .ref (b 0)), (1, .long fr), (3, .long to_)]) hx hb dX1_sum_58 hl (by decide) rfl (fun ls hl => ?_)
          refine lv_iinc (k := 1) (v := nI (i + 1)) (lv' := [(7, .int (nI (i + 1))), (5, .long (acc + 0)), (0, .ref (b 0)), (1, .long fr), (3, .long to_)]) hx hb dX1_sum_60 hl rfl (by rw [show Int32.ofInt 1 = 1 from by decide]; exact nI_1 _) (by decide) rfl (fun ls hl => ?_)
          refine lv_goto (tgt := 11) hx hb dX1_sum_63 (by decide) ?_
          exact ih (i + 1) _ (by omega) (by omega) hk ls (lv_sub hl [0, 1, 2, 3, 4] rfl)
        · skip
          have h2 : fr ≤ K i := i64_nlt (fun q => h2 ((lg_cmp_lt _ _).mpr q))
          refine lv_aload_n hx hb dX1_sum_34 rfl (lv_at hl 2 rfl) ?_
          refine va_get (D := D) (ci := 1) (v := .ref (b 1)) (C := RX1) (T := TX1) (N := 7) hx hb hts (fun w h => wm (ui_X1 w h)) hown hK hP 0 rfl rfl 2 (by decide) (hts (.fieldLink RX1 7 "LinkedIndexModel" "keys" "[J") (wm mb_56)) (fun _ h9 => h9) rfl dX1_sum_35 ?_
          refine lv_iload hx hb dX1_sum_38 (lv_at hl 0 rfl) ?_
          refine x_lald (j := i) hx hb hK hP 1 0 rfl rfl (by omega) (by decide) dX1_sum_40 ?_
          refine lv_lload_n hx hb dX1_sum_41 rfl (lv_at hl 4 rfl) ?_
          refine W.lcmp hx hb dX1_sum_42 ?_
          refine lv_if_gt (tgt := 56) hx hb dX1_sum_43 (by decide) (fun h3 => ?_) (fun h3 => ?_)
          · skip
            have h3 : ¬ K i ≤ to_ := i64_nltle ((lg_cmp_gt _ _).mp h3)
            have hk : cM (fun x y : Int64 => x + y) 0 V K fr to_ f (i + 1) (acc + 0) = sumS K V n fr to_ := by
              rw [← hk]
              show _ = cM (fun x y : Int64 => x + y) 0 V K fr to_ f (i + 1) (acc + (if fr ≤ K i ∧ K i ≤ to_ then V i else 0))
              rw [if_neg (fun q => h3 q.2)]
            refine lv_lconst (v := 0) hx hb dX1_sum_56 (by decide) ?_
            refine lv_ladd hx hb dX1_sum_57 ?_
            refine lv_lstore (lv' := [(5, .long (acc + 0)), (7, .int (nI i)), (0, .ref (b 0)), (1, .long fr), (3, .long to_)]) hx hb dX1_sum_58 hl (by decide) rfl (fun ls hl => ?_)
            refine lv_iinc (k := 1) (v := nI (i + 1)) (lv' := [(7, .int (nI (i + 1))), (5, .long (acc + 0)), (0, .ref (b 0)), (1, .long fr), (3, .long to_)]) hx hb dX1_sum_60 hl rfl (by rw [show Int32.ofInt 1 = 1 from by decide]; exact nI_1 _) (by decide) rfl (fun ls hl => ?_)
            refine lv_goto (tgt := 11) hx hb dX1_sum_63 (by decide) ?_
            exact ih (i + 1) _ (by omega) (by omega) hk ls (lv_sub hl [0, 1, 2, 3, 4] rfl)
          · skip
            have h3 : K i ≤ to_ := i64_nlt (fun q => h3 ((lg_cmp_gt _ _).mpr q))
            have hk : cM (fun x y : Int64 => x + y) 0 V K fr to_ f (i + 1) (acc + V i) = sumS K V n fr to_ := by
              rw [← hk]
              show _ = cM (fun x y : Int64 => x + y) 0 V K fr to_ f (i + 1) (acc + (if fr ≤ K i ∧ K i ≤ to_ then V i else 0))
              rw [if_pos ⟨h2, h3⟩]
            refine lv_aload_n hx hb dX1_sum_46 rfl (lv_at hl 2 rfl) ?_
            refine va_get (D := D) (ci := 1) (v := .ref (b 2)) (C := RX1) (T := TX1) (N := 7) hx hb hts (fun w h => wm (ui_X1 w h)) hown hK hP 0 rfl rfl 3 (by decide) (hts (.fieldLink RX1 13 "LinkedIndexModel" "values" "[J") (wm mb_57)) (fun _ h9 => h9) rfl dX1_sum_47 ?_
            refine lv_iload hx hb dX1_sum_50 (lv_at hl 0 rfl) ?_
            refine x_lald (j := i) hx hb hK hP 2 1 rfl rfl (by omega) (by decide) dX1_sum_52 ?_
            refine lv_goto (tgt := 57) hx hb dX1_sum_53 (by decide) ?_
            refine lv_ladd hx hb dX1_sum_57 ?_
            refine lv_lstore (lv' := [(5, .long (acc + (V i))), (7, .int (nI i)), (0, .ref (b 0)), (1, .long fr), (3, .long to_)]) hx hb dX1_sum_58 hl (by decide) rfl (fun ls hl => ?_)
            refine lv_iinc (k := 1) (v := nI (i + 1)) (lv' := [(7, .int (nI (i + 1))), (5, .long (acc + (V i))), (0, .ref (b 0)), (1, .long fr), (3, .long to_)]) hx hb dX1_sum_60 hl rfl (by rw [show Int32.ofInt 1 = 1 from by decide]; exact nI_1 _) (by decide) rfl (fun ls hl => ?_)
            refine lv_goto (tgt := 11) hx hb dX1_sum_63 (by decide) ?_
            exact ih (i + 1) _ (by omega) (by omega) hk ls (lv_sub hl [0, 1, 2, 3, 4] rfl)
  exact loop n 0 _ (by omega) (by omega) (cM_is (fun x => Int64.add_zero x) hm 0) ls (lv_sub hl [0, 1, 2, 3, 4] rfl)
