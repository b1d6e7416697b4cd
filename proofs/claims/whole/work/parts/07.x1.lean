set_option maxHeartbeats 1000000 in
set_option maxRecDepth 100000 in
theorem c_requireSlot (l : Launch) (hl9 : l.stackTraces = false) (D : va_G) (slot : Int32) (sz : Nat) (hs : okS slot) : Met l yX0_requireSlot wsX0_requireSlot ({ frames := 0, cells := 0, slots := 0, locals := 0 }) (cP D ([]) [] [.int slot] sz) (cQv D ([]) True ([]) (va_A [] sz)) 0 0 (va_A [] sz) := by
  refine mk_n (cc := cX0_requireSlot) (maxL := 1) (ret := none) (fun A => cQv D ([]) True ([]) A) (by decide) rfl (Nat.le_of_ble_eq_true rfl) ?_
  intro p e s m below meth c ls A hx hb hr hml hlocks hnm hown hts hP hK hD hZ hA hS hl
  have hown : s.vm.findClass RX0 = some m.cls := hown
  have hl : lv_has ls 1 [(0, .int slot)] := hl
  refine lv_iload_n hx hb dX0_requireSlot_0 rfl (lv_at hl 0 rfl) ?_
  refine lv_if_lt (tgt := 10) hx hb dX0_requireSlot_1 (by decide) (fun h1 => ?_) (fun h1 => ?_)
  · skip
    exact absurd h1 hs.1
  · skip
    refine lv_iload_n hx hb dX0_requireSlot_4 rfl (lv_at hl 0 rfl) ?_
    refine lv_bipush (v := 8) hx hb dX0_requireSlot_5 (by decide) ?_
    refine lv_icmp_lt (tgt := 20) hx hb dX0_requireSlot_7 (by decide) (fun h2 => ?_) (fun h2 => ?_)
    · skip
      exact fn_v hx hb hr hlocks (by decide) (by decide) trivial hP hK hD hS dX0_requireSlot_20
    · skip
      exact absurd hs.2 h2
set_option maxHeartbeats 1000000 in
set_option maxRecDepth 100000 in
theorem t_requireSlot (l : Launch) (hl9 : l.stackTraces = false) (D : va_G) (slot : Int32) (sz : Nat) (hs : ¬ (okS slot)) : vx_Met l yX0_requireSlot wsX0_requireSlot ({ frames := 6, cells := 1, slots := 6, locals := 82 }) (cP D ([]) [] [.int slot] sz) (cQv D ([]) False ([]) (va_A [] sz)) (cX D ([]) (fun E => E = "java/lang/IllegalArgumentException") ([]) (va_A [] sz)) 1 6 (va_A [] sz) := by
  refine mk_x (cc := cX0_requireSlot) (maxL := 1) (ret := none) (fun A => cQv D ([]) False ([]) A) (fun A => cX D ([]) (fun E => E = "java/lang/IllegalArgumentException") ([]) A) (by decide) rfl (Nat.le_of_ble_eq_true rfl) ?_
  intro p e s m below meth c ls A hx hb hr hml ht9 hlocks hnm hown hts hP hK hD hZ hA hS hl
  have hown : s.vm.findClass RX0 = some m.cls := hown
  have hl : lv_has ls 1 [(0, .int slot)] := hl
  refine lv_iload_n hx hb dX0_requireSlot_0 rfl (lv_at hl 0 rfl) ?_
  refine lv_if_lt (tgt := 10) hx hb dX0_requireSlot_1 (by decide) (fun h1 => ?_) (fun h1 => ?_)
  · skip
    exact fx_throw (cls := "java/lang/IllegalArgumentException") (text := "no such slot") (ic := 38) hx hb hl9 hown (by decide +kernel) (hts (.classLink RX0 34 "java/lang/IllegalArgumentException") (wm mb_0)) (hts (.initialized "java/lang/IllegalArgumentException") (wm mb_1)) (by decide) (hat_38 hts hZ.2.2) hgd_38 hZ hS (hl.1.trans hml.symm) dX0_requireSlot_10 dX0_requireSlot_13 dX0_requireSlot_14 dX0_requireSlot_16 dX0_requireSlot_19 ht9 (by decide) (by decide) (by decide) (by decide) hlocks (by decide) (by decide) rfl hP hK hD
  · skip
    refine lv_iload_n hx hb dX0_requireSlot_4 rfl (lv_at hl 0 rfl) ?_
    refine lv_bipush (v := 8) hx hb dX0_requireSlot_5 (by decide) ?_
    refine lv_icmp_lt (tgt := 20) hx hb dX0_requireSlot_7 (by decide) (fun h2 => ?_) (fun h2 => ?_)
    · skip
      exact absurd ⟨h1, h2⟩ hs
    · skip
      exact fx_throw (cls := "java/lang/IllegalArgumentException") (text := "no such slot") (ic := 38) hx hb hl9 hown (by decide +kernel) (hts (.classLink RX0 34 "java/lang/IllegalArgumentException") (wm mb_0)) (hts (.initialized "java/lang/IllegalArgumentException") (wm mb_1)) (by decide) (hat_38 hts hZ.2.2) hgd_38 hZ hS (hl.1.trans hml.symm) dX0_requireSlot_10 dX0_requireSlot_13 dX0_requireSlot_14 dX0_requireSlot_16 dX0_requireSlot_19 ht9 (by decide) (by decide) (by decide) (by decide) hlocks (by decide) (by decide) rfl hP hK hD
set_option maxHeartbeats 1000000 in
set_option maxRecDepth 100000 in
theorem c_requireSteps (l : Launch) (hl9 : l.stackTraces = false) (D : va_G) (x : Int32) (sz : Nat) (hs : okN x) : Met l yX0_requireSteps wsX0_requireSteps ({ frames := 0, cells := 0, slots := 0, locals := 0 }) (cP D ([]) [] [.int x] sz) (cQv D ([]) True ([]) (va_A [] sz)) 0 0 (va_A [] sz) := by
  refine mk_n (cc := cX0_requireSteps) (maxL := 1) (ret := none) (fun A => cQv D ([]) True ([]) A) (by decide) rfl (Nat.le_of_ble_eq_true rfl) ?_
  intro p e s m below meth c ls A hx hb hr hml hlocks hnm hown hts hP hK hD hZ hA hS hl
  have hown : s.vm.findClass RX0 = some m.cls := hown
  have hl : lv_has ls 1 [(0, .int x)] := hl
  refine lv_iload_n hx hb dX0_requireSteps_0 rfl (lv_at hl 0 rfl) ?_
  refine lv_if_lt (tgt := 10) hx hb dX0_requireSteps_1 (by decide) (fun h1 => ?_) (fun h1 => ?_)
  · skip
    exact absurd h1 hs.1
  · skip
    refine lv_iload_n hx hb dX0_requireSteps_4 rfl (lv_at hl 0 rfl) ?_
    refine lv_bipush (v := 20) hx hb dX0_requireSteps_5 (by decide) ?_
    refine lv_icmp_le (tgt := 20) hx hb dX0_requireSteps_7 (by decide) (fun h2 => ?_) (fun h2 => ?_)
    · skip
      exact fn_v hx hb hr hlocks (by decide) (by decide) trivial hP hK hD hS dX0_requireSteps_20
    · skip
      exact absurd hs.2 h2
set_option maxHeartbeats 1000000 in
set_option maxRecDepth 100000 in
theorem t_requireSteps (l : Launch) (hl9 : l.stackTraces = false) (D : va_G) (x : Int32) (sz : Nat) (hs : ¬ (okN x)) : vx_Met l yX0_requireSteps wsX0_requireSteps ({ frames := 6, cells := 1, slots := 6, locals := 82 }) (cP D ([]) [] [.int x] sz) (cQv D ([]) False ([]) (va_A [] sz)) (cX D ([]) (fun E => E = "java/lang/IllegalArgumentException") ([]) (va_A [] sz)) 1 6 (va_A [] sz) := by
  refine mk_x (cc := cX0_requireSteps) (maxL := 1) (ret := none) (fun A => cQv D ([]) False ([]) A) (fun A => cX D ([]) (fun E => E = "java/lang/IllegalArgumentException") ([]) A) (by decide) rfl (Nat.le_of_ble_eq_true rfl) ?_
  intro p e s m below meth c ls A hx hb hr hml ht9 hlocks hnm hown hts hP hK hD hZ hA hS hl
  have hown : s.vm.findClass RX0 = some m.cls := hown
  have hl : lv_has ls 1 [(0, .int x)] := hl
  refine lv_iload_n hx hb dX0_requireSteps_0 rfl (lv_at hl 0 rfl) ?_
  refine lv_if_lt (tgt := 10) hx hb dX0_requireSteps_1 (by decide) (fun h1 => ?_) (fun h1 => ?_)
  · skip
    exact fx_throw (cls := "java/lang/IllegalArgumentException") (text := "n is not 0 .. 20") (ic := 38) hx hb hl9 hown (by decide +kernel) (hts (.classLink RX0 34 "java/lang/IllegalArgumentException") (wm mb_0)) (hts (.initialized "java/lang/IllegalArgumentException") (wm mb_1)) (by decide) (hat_38 hts hZ.2.2) hgd_38 hZ hS (hl.1.trans hml.symm) dX0_requireSteps_10 dX0_requireSteps_13 dX0_requireSteps_14 dX0_requireSteps_16 dX0_requireSteps_19 ht9 (by decide) (by decide) (by decide) (by decide) hlocks (by decide) (by decide) rfl hP hK hD
  · skip
    refine lv_iload_n hx hb dX0_requireSteps_4 rfl (lv_at hl 0 rfl) ?_
    refine lv_bipush (v := 20) hx hb dX0_requireSteps_5 (by decide) ?_
    refine lv_icmp_le (tgt := 20) hx hb dX0_requireSteps_7 (by decide) (fun h2 => ?_) (fun h2 => ?_)
    · skip
      exact absurd ⟨h1, h2⟩ hs
    · skip
      exact fx_throw (cls := "java/lang/IllegalArgumentException") (text := "n is not 0 .. 20") (ic := 38) hx hb hl9 hown (by decide +kernel) (hts (.classLink RX0 34 "java/lang/IllegalArgumentException") (wm mb_0)) (hts (.initialized "java/lang/IllegalArgumentException") (wm mb_1)) (by decide) (hat_38 hts hZ.2.2) hgd_38 hZ hS (hl.1.trans hml.symm) dX0_requireSteps_10 dX0_requireSteps_13 dX0_requireSteps_14 dX0_requireSteps_16 dX0_requireSteps_19 ht9 (by decide) (by decide) (by decide) (by decide) hlocks (by decide) (by decide) rfl hP hK hD
set_option maxHeartbeats 1000000 in
set_option maxRecDepth 100000 in
theorem c_requirePlace (l : Launch) (hl9 : l.stackTraces = false) (D : va_G) (a : Nat → Nat) (k : Nat → ClassId) (n : Nat) (K V : Nat → Int64) (kd : Nat → Int32) (SK SV : Nat → Int64) (x : Int32) (sz : Nat) (hs : okP x n) : Met l yX0_requirePlace wsX0_requirePlace ({ frames := 0, cells := 0, slots := 0, locals := 0 }) (cP D (tX k) (wX a k n K V kd SK SV) [.ref (a 0), .int x] sz) (cQv D (tX k) True (wX a k n K V kd SK SV) (va_A (wX a k n K V kd SK SV) sz)) 0 0 (va_A (wX a k n K V kd SK SV) sz) := by
  refine mk_n (cc := cX0_requirePlace) (maxL := 2) (ret := none) (fun A => cQv D (tX k) True (wX a k n K V kd SK SV) A) (by decide) rfl (Nat.le_of_ble_eq_true rfl) ?_
  intro p e s m below meth c ls A hx hb hr hml hlocks hnm hown hts hP hK hD hZ hA hS hl
  have hown : s.vm.findClass RX0 = some m.cls := hown
  have hl : lv_has ls 2 [(0, .ref (a 0)), (1, .int x)] := hl
  refine lv_iload_n hx hb dX0_requirePlace_0 rfl (lv_at hl 1 rfl) ?_
  refine lv_if_lt (tgt := 12) hx hb dX0_requirePlace_1 (by decide) (fun h1 => ?_) (fun h1 => ?_)
  · skip
    exact absurd h1 hs.1
  · skip
    refine lv_iload_n hx hb dX0_requirePlace_4 rfl (lv_at hl 1 rfl) ?_
    refine lv_aload_n hx hb dX0_requirePlace_5 rfl (lv_at hl 0 rfl) ?_
    refine va_get (D := D) (ci := 0) (v := .int (nI n)) (C := RX0) (T := TX0) (N := 6) hx hb hts (fun w h => wm (ui_X0 w h)) hown hK hP 0 rfl rfl 2 (by decide) (hts (.fieldLink RX0 16 "LinkedIndex" "keyCount" "I") (wm mb_2)) (fun _ h9 => h9) rfl dX0_requirePlace_6 ?_
    refine lv_icmp_lt (tgt := 22) hx hb dX0_requirePlace_9 (by decide) (fun h2 => ?_) (fun h2 => ?_)
    · skip
      exact fn_v hx hb hr hlocks (by decide) (by decide) trivial hP hK hD hS dX0_requirePlace_22
    · skip
      exact absurd hs.2 h2
set_option maxHeartbeats 1000000 in
set_option maxRecDepth 100000 in
theorem t_requirePlace (l : Launch) (hl9 : l.stackTraces = false) (D : va_G) (a : Nat → Nat) (k : Nat → ClassId) (n : Nat) (K V : Nat → Int64) (kd : Nat → Int32) (SK SV : Nat → Int64) (x : Int32) (sz : Nat) (hs : ¬ (okP x n)) : vx_Met l yX0_requirePlace wsX0_requirePlace ({ frames := 6, cells := 1, slots := 6, locals := 82 }) (cP D (tX k) (wX a k n K V kd SK SV) [.ref (a 0), .int x] sz) (cQv D (tX k) False (wX a k n K V kd SK SV) (va_A (wX a k n K V kd SK SV) sz)) (cX D (tX k) (fun E => E = "java/lang/IndexOutOfBoundsException") (wX a k n K V kd SK SV) (va_A (wX a k n K V kd SK SV) sz)) 1 6 (va_A (wX a k n K V kd SK SV) sz) := by
  refine mk_x (cc := cX0_requirePlace) (maxL := 2) (ret := none) (fun A => cQv D (tX k) False (wX a k n K V kd SK SV) A) (fun A => cX D (tX k) (fun E => E = "java/lang/IndexOutOfBoundsException") (wX a k n K V kd SK SV) A) (by decide) rfl (Nat.le_of_ble_eq_true rfl) ?_
  intro p e s m below meth c ls A hx hb hr hml ht9 hlocks hnm hown hts hP hK hD hZ hA hS hl
  have hown : s.vm.findClass RX0 = some m.cls := hown
  have hl : lv_has ls 2 [(0, .ref (a 0)), (1, .int x)] := hl
  refine lv_iload_n hx hb dX0_requirePlace_0 rfl (lv_at hl 1 rfl) ?_
  refine lv_if_lt (tgt := 12) hx hb dX0_requirePlace_1 (by decide) (fun h1 => ?_) (fun h1 => ?_)
  · skip
    exact fx_throw (cls := "java/lang/IndexOutOfBoundsException") (text := "no such key") (ic := 83) hx hb hl9 hown (by decide +kernel) (hts (.classLink RX0 81 "java/lang/IndexOutOfBoundsException") (wm mb_3)) (hts (.initialized "java/lang/IndexOutOfBoundsException") (wm mb_4)) (by decide) (hat_83 hts hZ.2.2) hgd_83 hZ hS (hl.1.trans hml.symm) dX0_requirePlace_12 dX0_requirePlace_15 dX0_requirePlace_16 dX0_requirePlace_18 dX0_requirePlace_21 ht9 (by decide) (by decide) (by decide) (by decide) hlocks (by decide) (by decide) rfl hP hK hD
  · skip
    refine lv_iload_n hx hb dX0_requirePlace_4 rfl (lv_at hl 1 rfl) ?_
    refine lv_aload_n hx hb dX0_requirePlace_5 rfl (lv_at hl 0 rfl) ?_
    refine va_get (D := D) (ci := 0) (v := .int (nI n)) (C := RX0) (T := TX0) (N := 6) hx hb hts (fun w h => wm (ui_X0 w h)) hown hK hP 0 rfl rfl 2 (by decide) (hts (.fieldLink RX0 16 "LinkedIndex" "keyCount" "I") (wm mb_2)) (fun _ h9 => h9) rfl dX0_requirePlace_6 ?_
    refine lv_icmp_lt (tgt := 22) hx hb dX0_requirePlace_9 (by decide) (fun h2 => ?_) (fun h2 => ?_)
    · skip
      exact absurd ⟨h1, h2⟩ hs
    · skip
      exact fx_throw (cls := "java/lang/IndexOutOfBoundsException") (text := "no such key") (ic := 83) hx hb hl9 hown (by decide +kernel) (hts (.classLink RX0 81 "java/lang/IndexOutOfBoundsException") (wm mb_3)) (hts (.initialized "java/lang/IndexOutOfBoundsException") (wm mb_4)) (by decide) (hat_83 hts hZ.2.2) hgd_83 hZ hS (hl.1.trans hml.symm) dX0_requirePlace_12 dX0_requirePlace_15 dX0_requirePlace_16 dX0_requirePlace_18 dX0_requirePlace_21 ht9 (by decide) (by decide) (by decide) (by decide) hlocks (by decide) (by decide) rfl hP hK hD
set_option maxHeartbeats 1000000 in
set_option maxRecDepth 100000 in
theorem c_requireOperation (l : Launch) (hl9 : l.stackTraces = false) (D : va_G) (a : Nat → Nat) (k : Nat → ClassId) (n : Nat) (K V : Nat → Int64) (kd : Nat → Int32) (SK SV : Nat → Int64) (j : Nat) (sz : Nat) (hj : j < 8) (hs : ¬ kd j = -1) : Met l yX0_requireOperation wsX0_requireOperation ({ frames := 0, cells := 0, slots := 0, locals := 0 }) (cP D (tX k) (wX a k n K V kd SK SV) [.ref (a 0), .int (nI j)] sz) (cQv D (tX k) True (wX a k n K V kd SK SV) (va_A (wX a k n K V kd SK SV) sz)) 0 0 (va_A (wX a k n K V kd SK SV) sz) := by
  refine mk_n (cc := cX0_requireOperation) (maxL := 2) (ret := none) (fun A => cQv D (tX k) True (wX a k n K V kd SK SV) A) (by decide) rfl (Nat.le_of_ble_eq_true rfl) ?_
  intro p e s m below meth c ls A hx hb hr hml hlocks hnm hown hts hP hK hD hZ hA hS hl
  have hown : s.vm.findClass RX0 = some m.cls := hown
  have hl : lv_has ls 2 [(0, .ref (a 0)), (1, .int (nI j))] := hl
  refine lv_aload_n hx hb dX0_requireOperation_0 rfl (lv_at hl 0 rfl) ?_
  refine va_get (D := D) (ci := 0) (v := .ref (a 3)) (C := RX0) (T := TX0) (N := 6) hx hb hts (fun w h => wm (ui_X0 w h)) hown hK hP 0 rfl rfl 3 (by decide) (hts (.fieldLink RX0 20 "LinkedIndex" "slotKinds" "[I") (wm mb_5)) (fun _ h9 => h9) rfl dX0_requireOperation_1 ?_
  refine lv_iload_n hx hb dX0_requireOperation_4 rfl (lv_at hl 1 rfl) ?_
  refine x_iald (j := j) hx hb hK hP 3 2 rfl rfl hj (by decide) dX0_requireOperation_5 ?_
  refine lv_iconst (v := (-1)) hx hb dX0_requireOperation_6 (by decide) ?_
  refine lv_icmp_ne (tgt := 20) hx hb dX0_requireOperation_7 (by decide) (fun h1 => ?_) (fun h1 => ?_)
  · skip
    exact fn_v hx hb hr hlocks (by decide) (by decide) trivial hP hK hD hS dX0_requireOperation_20
  · skip
    exact absurd h1 hs
set_option maxHeartbeats 1000000 in
set_option maxRecDepth 100000 in
theorem t_requireOperation (l : Launch) (hl9 : l.stackTraces = false) (D : va_G) (a : Nat → Nat) (k : Nat → ClassId) (n : Nat) (K V : Nat → Int64) (kd : Nat → Int32) (SK SV : Nat → Int64) (j : Nat) (sz : Nat) (hj : j < 8) (hs : kd j = -1) : vx_Met l yX0_requireOperation wsX0_requireOperation ({ frames := 6, cells := 1, slots := 6, locals := 82 }) (cP D (tX k) (wX a k n K V kd SK SV) [.ref (a 0), .int (nI j)] sz) (cQv D (tX k) False (wX a k n K V kd SK SV) (va_A (wX a k n K V kd SK SV) sz)) (cX D (tX k) (fun E => E = "java/lang/IllegalStateException") (wX a k n K V kd SK SV) (va_A (wX a k n K V kd SK SV) sz)) 1 6 (va_A (wX a k n K V kd SK SV) sz) := by
  refine mk_x (cc := cX0_requireOperation) (maxL := 2) (ret := none) (fun A => cQv D (tX k) False (wX a k n K V kd SK SV) A) (fun A => cX D (tX k) (fun E => E = "java/lang/IllegalStateException") (wX a k n K V kd SK SV) A) (by decide) rfl (Nat.le_of_ble_eq_true rfl) ?_
  intro p e s m below meth c ls A hx hb hr hml ht9 hlocks hnm hown hts hP hK hD hZ hA hS hl
  have hown : s.vm.findClass RX0 = some m.cls := hown
  have hl : lv_has ls 2 [(0, .ref (a 0)), (1, .int (nI j))] := hl
  refine lv_aload_n hx hb dX0_requireOperation_0 rfl (lv_at hl 0 rfl) ?_
  refine va_get (D := D) (ci := 0) (v := .ref (a 3)) (C := RX0) (T := TX0) (N := 6) hx hb hts (fun w h => wm (ui_X0 w h)) hown hK hP 0 rfl rfl 3 (by decide) (hts (.fieldLink RX0 20 "LinkedIndex" "slotKinds" "[I") (wm mb_5)) (fun _ h9 => h9) rfl dX0_requireOperation_1 ?_
  refine lv_iload_n hx hb dX0_requireOperation_4 rfl (lv_at hl 1 rfl) ?_
  refine x_iald (j := j) hx hb hK hP 3 2 rfl rfl hj (by decide) dX0_requireOperation_5 ?_
  refine lv_iconst (v := (-1)) hx hb dX0_requireOperation_6 (by decide) ?_
  refine lv_icmp_ne (tgt := 20) hx hb dX0_requireOperation_7 (by decide) (fun h1 => ?_) (fun h1 => ?_)
  · skip
    exact absurd hs h1
  · skip
    exact fx_throw (cls := "java/lang/IllegalStateException") (text := "the slot is empty") (ic := 45) hx hb hl9 hown (by decide +kernel) (hts (.classLink RX0 41 "java/lang/IllegalStateException") (wm mb_6)) (hts (.initialized "java/lang/IllegalStateException") (wm mb_7)) (by decide) (hat_45 hts hZ.2.2) hgd_45 hZ hS (hl.1.trans hml.symm) dX0_requireOperation_10 dX0_requireOperation_13 dX0_requireOperation_14 dX0_requireOperation_16 dX0_requireOperation_19 ht9 (by decide) (by decide) (by decide) (by decide) hlocks (by decide) (by decide) rfl hP hK hD
set_option maxHeartbeats 1000000 in
set_option maxRecDepth 100000 in
theorem c_placeOf (l : Launch) (hl9 : l.stackTraces = false) (D : va_G) (a : Nat → Nat) (k : Nat → ClassId) (n : Nat) (K V : Nat → Int64) (kd : Nat → Int32) (SK SV : Nat → Int64) (key : Int64) (sz : Nat) (hn : n ≤ 100) : Met l yX0_placeOf wsX0_placeOf ({ frames := 0, cells := 0, slots := 0, locals := 0 }) (cP D (tX k) (wX a k n K V kd SK SV) [.ref (a 0), .long key] sz) (cQi D (tX k) (fun r => r = nI (rk K key n)) (wX a k n K V kd SK SV) (va_A (wX a k n K V kd SK SV) sz)) 0 0 (va_A (wX a k n K V kd SK SV) sz) := by
  refine mk_n (cc := cX0_placeOf) (maxL := 4) (ret := (some .int)) (fun A => cQi D (tX k) (fun r => r = nI (rk K key n)) (wX a k n K V kd SK SV) A) (by decide) rfl (Nat.le_of_ble_eq_true rfl) ?_
  intro p e s m below meth c ls A hx hb hr hml hlocks hnm hown hts hP hK hD hZ hA hS hl
  have hown : s.vm.findClass RX0 = some m.cls := hown
  have hl : lv_has ls 4 [(0, .ref (a 0)), (1, .long key)] := hl
  refine lv_iconst (v := 0) hx hb dX0_placeOf_0 (by decide) ?_
  refine lv_istore_n (lv' := [(3, .int 0), (0, .ref (a 0)), (1, .long key)]) hx hb dX0_placeOf_1 rfl hl (by decide) rfl (fun ls hl => ?_)
  have loop : ∀ (f i : Nat), n - i < f → i ≤ n → rkF K key (n - i) i = rk K key n → ∀ ls : Array Slot, lv_has ls 4 [(3, .int (nI i)), (0, .ref (a 0)), (1, .long key)] → W p l e ({ frames := 0, cells := 0, slots := 0, locals := 0 }) s m ([.ref (a 0), .long key] : List Value).toArray below meth c s.heap [] 0 0 (MQ below (cQi D (tX k) (fun r => r = nI (rk K key n)) (wX a k n K V kd SK SV) A) ([.ref (a 0), .long key] : List Value).toArray s 0 0 A) (F0 m 2 ls []) := by
    intro f
    induction f with
    | zero => intro i hf; omega
    | succ f ih =>
      intro i hf hi hk ls hl
      refine lv_iload_n hx hb dX0_placeOf_2 rfl (lv_at hl 0 rfl) ?_
      refine lv_aload_n hx hb dX0_placeOf_3 rfl (lv_at hl 1 rfl) ?_
      refine va_get (D := D) (ci := 0) (v := .int (nI n)) (C := RX0) (T := TX0) (N := 6) hx hb hts (fun w h => wm (ui_X0 w h)) hown hK hP 0 rfl rfl 2 (by decide) (hts (.fieldLink RX0 16 "LinkedIndex" "keyCount" "I") (wm mb_2)) (fun _ h9 => h9) rfl dX0_placeOf_4 ?_
      refine lv_icmp_ge (tgt := 27) hx hb dX0_placeOf_7 (by decide) (fun h1 => ?_) (fun h1 => ?_)
      · skip
        have h1 : n ≤ i := (nI_leI (by omega) (by omega)).mp h1
        refine lv_iload_n hx hb dX0_placeOf_27 rfl (lv_at hl 0 rfl) ?_
        exact fn_i hx hb hr hlocks (by decide) (by decide) (by rw [← hk, rkF_z h1]) hP hK hD hS dX0_placeOf_28
      · skip
        have h1 : i < n := Nat.lt_of_not_le (fun q => h1 ((nI_leI (by omega) (by omega)).mpr q))
        refine lv_aload_n hx hb dX0_placeOf_10 rfl (lv_at hl 1 rfl) ?_
        refine va_get (D := D) (ci := 0) (v := .ref (a 1)) (C := RX0) (T := TX0) (N := 6) hx hb hts (fun w h => wm (ui_X0 w h)) hown hK hP 0 rfl rfl 0 (by decide) (hts (.fieldLink RX0 9 "LinkedIndex" "keys" "[J") (wm mb_8)) (fun _ h9 => h9) rfl dX0_placeOf_11 ?_
        refine lv_iload_n hx hb dX0_placeOf_14 rfl (lv_at hl 0 rfl) ?_
        refine x_lald (j := i) hx hb hK hP 1 0 rfl rfl (by omega) (by decide) dX0_placeOf_15 ?_
        refine lv_lload_n hx hb dX0_placeOf_16 rfl (lv_at hl 2 rfl) ?_
        refine W.lcmp hx hb dX0_placeOf_17 ?_
        refine lv_if_ge (tgt := 27) hx hb dX0_placeOf_18 (by decide) (fun h2 => ?_) (fun h2 => ?_)
        · skip
          have h2 : ¬ K i < key := fun q => i64_nltle q ((lg_cmp_ge _ _).mp h2)
          refine lv_iload_n hx hb dX0_placeOf_27 rfl (lv_at hl 0 rfl) ?_
          exact fn_i hx hb hr hlocks (by decide) (by decide) (by rw [← hk, rkF_e h1 h2]) hP hK hD hS dX0_placeOf_28
        · skip
          have h2 : K i < key := i64_nle (fun q => h2 ((lg_cmp_ge _ _).mpr q))
          refine lv_iinc (k := 0) (v := nI (i + 1)) (lv' := [(3, .int (nI (i + 1))), (0, .ref (a 0)), (1, .long key)]) hx hb dX0_placeOf_21 hl rfl (by rw [show Int32.ofInt 1 = 1 from by decide]; exact nI_1 _) (by decide) rfl (fun ls hl => ?_)
          refine lv_goto (tgt := 2) hx hb dX0_placeOf_24 (by decide) ?_
          exact ih (i + 1) (by omega) (by omega) (by rw [← rkF_s h1 h2]; exact hk) ls hl
  exact loop (n + 1) 0 (by omega) (by omega) rfl ls hl
set_option maxHeartbeats 1000000 in
set_option maxRecDepth 100000 in
theorem c_isAt (l : Launch) (hl9 : l.stackTraces = false) (D : va_G) (a : Nat → Nat) (k : Nat → ClassId) (n : Nat) (K V : Nat → Int64) (kd : Nat → Int32) (SK SV : Nat → Int64) (r : Nat) (key : Int64) (sz : Nat) (hr9 : r ≤ 100) (hn : n ≤ 100) : Met l yX0_isAt wsX0_isAt ({ frames := 0, cells := 0, slots := 0, locals := 0 }) (cP D (tX k) (wX a k n K V kd SK SV) [.ref (a 0), .int (nI r), .long key] sz) (cQi D (tX k) (fun v => v = (if atR K n key r then 1 else 0)) (wX a k n K V kd SK SV) (va_A (wX a k n K V kd SK SV) sz)) 0 0 (va_A (wX a k n K V kd SK SV) sz) := by
  refine mk_n (cc := cX0_isAt) (maxL := 4) (ret := (some .boolean)) (fun A => cQi D (tX k) (fun v => v = (if atR K n key r then 1 else 0)) (wX a k n K V kd SK SV) A) (by decide) rfl (Nat.le_of_ble_eq_true rfl) ?_
  intro p e s m below meth c ls A hx hb hr hml hlocks hnm hown hts hP hK hD hZ hA hS hl
  have hown : s.vm.findClass RX0 = some m.cls := hown
  have hl : lv_has ls 4 [(0, .ref (a 0)), (1, .int (nI r)), (2, .long key)] := hl
  refine lv_iload_n hx hb dX0_isAt_0 rfl (lv_at hl 1 rfl) ?_
  refine lv_aload_n hx hb dX0_isAt_1 rfl (lv_at hl 0 rfl) ?_
  refine va_get (D := D) (ci := 0) (v := .int (nI n)) (C := RX0) (T := TX0) (N := 6) hx hb hts (fun w h => wm (ui_X0 w h)) hown hK hP 0 rfl rfl 2 (by decide) (hts (.fieldLink RX0 16 "LinkedIndex" "keyCount" "I") (wm mb_2)) (fun _ h9 => h9) rfl dX0_isAt_2 ?_
  refine lv_icmp_ge (tgt := 23) hx hb dX0_isAt_5 (by decide) (fun h1 => ?_) (fun h1 => ?_)
  · skip
    have h1 : n ≤ r := (nI_leI (by omega) (by omega)).mp h1
    refine lv_iconst (v := 0) hx hb dX0_isAt_23 (by decide) ?_
    exact fn_z hx hb hr (by decide) hlocks (by decide) (by decide) (by rw [if_neg (fun q => absurd q.1 (by omega))]) hP hK hD hS dX0_isAt_24
  · skip
    have h1 : r < n := Nat.lt_of_not_le (fun q => h1 ((nI_leI (by omega) (by omega)).mpr q))
    refine lv_aload_n hx hb dX0_isAt_8 rfl (lv_at hl 0 rfl) ?_
    refine va_get (D := D) (ci := 0) (v := .ref (a 1)) (C := RX0) (T := TX0) (N := 6) hx hb hts (fun w h => wm (ui_X0 w h)) hown hK hP 0 rfl rfl 0 (by decide) (hts (.fieldLink RX0 9 "LinkedIndex" "keys" "[J") (wm mb_8)) (fun _ h9 => h9) rfl dX0_isAt_9 ?_
    refine lv_iload_n hx hb dX0_isAt_12 rfl (lv_at hl 1 rfl) ?_
    refine x_lald (j := r) hx hb hK hP 1 0 rfl rfl (by omega) (by decide) dX0_isAt_13 ?_
    refine lv_lload_n hx hb dX0_isAt_14 rfl (lv_at hl 2 rfl) ?_
    refine W.lcmp hx hb dX0_isAt_15 ?_
    refine lv_if_ne (tgt := 23) hx hb dX0_isAt_16 (by decide) (fun h2 => ?_) (fun h2 => ?_)
    · skip
      have h2 : ¬ K r = key := fun q => h2 ((lg_cmp_eq _ _).mpr q)
      refine lv_iconst (v := 0) hx hb dX0_isAt_23 (by decide) ?_
      exact fn_z hx hb hr (by decide) hlocks (by decide) (by decide) (by rw [if_neg (fun q => h2 q.2)]) hP hK hD hS dX0_isAt_24
    · skip
      have h2 : K r = key := (lg_cmp_eq _ _).mp h2
      refine lv_iconst (v := 1) hx hb dX0_isAt_19 (by decide) ?_
      refine lv_goto (tgt := 24) hx hb dX0_isAt_20 (by decide) ?_
      exact fn_z hx hb hr (by decide) hlocks (by decide) (by decide) (by rw [if_pos ⟨h1, h2⟩]) hP hK hD hS dX0_isAt_24
set_option maxHeartbeats 1000000 in
set_option maxRecDepth 100000 in
theorem c_openGap (l : Launch) (hl9 : l.stackTraces = false) (D : va_G) (a : Nat → Nat) (k : Nat → ClassId) (n : Nat) (K V : Nat → Int64) (kd : Nat → Int32) (SK SV : Nat → Int64) (r : Nat) (sz : Nat) (hr9 : r ≤ n) (hn : n < 100) : Met l yX0_openGap wsX0_openGap ({ frames := 0, cells := 0, slots := 0, locals := 0 }) (cP D (tX k) (wX a k n K V kd SK SV) [.ref (a 0), .int (nI r)] sz) (cQv D (tX k) True (wX a k (n + 1) (opF r (n - r) K) (opF r (n - r) V) kd SK SV) (va_A (wX a k n K V kd SK SV) sz)) 0 0 (va_A (wX a k n K V kd SK SV) sz) := by
  refine mk_n (cc := cX0_openGap) (maxL := 3) (ret := none) (fun A => cQv D (tX k) True (wX a k (n + 1) (opF r (n - r) K) (opF r (n - r) V) kd SK SV) A) (by decide) rfl (Nat.le_of_ble_eq_true rfl) ?_
  intro p e s m below meth c ls A hx hb hr hml hlocks hnm hown hts hP hK hD hZ hA hS hl
  have hown : s.vm.findClass RX0 = some m.cls := hown
  have hl : lv_has ls 3 [(0, .ref (a 0)), (1, .int (nI r))] := hl
  refine lv_aload_n hx hb dX0_openGap_0 rfl (lv_at hl 0 rfl) ?_
  refine va_get (D := D) (ci := 0) (v := .int (nI n)) (C := RX0) (T := TX0) (N := 6) hx hb hts (fun w h => wm (ui_X0 w h)) hown hK hP 0 rfl rfl 2 (by decide) (hts (.fieldLink RX0 16 "LinkedIndex" "keyCount" "I") (wm mb_2)) (fun _ h9 => h9) rfl dX0_openGap_1 ?_
  refine lv_istore_n (lv' := [(2, .int (nI n)), (0, .ref (a 0)), (1, .int (nI r))]) hx hb dX0_openGap_4 rfl hl (by decide) rfl (fun ls hl => ?_)
  have loop : ∀ (d : Nat) (Kc Vc : Nat → Int64) (H : Heap) (locs : List Loc), r + d ≤ n → opF r d Kc = opF r (n - r) K → opF r d Vc = opF r (n - r) V → va_P D vwCl (wX a k n Kc Vc kd SK SV) H → va_D A (wX a k n Kc Vc kd SK SV) → va_S A s.heap H locs → ∀ ls : Array Slot, lv_has ls 3 [(2, .int (nI (r + d))), (0, .ref (a 0)), (1, .int (nI r))] → W p l e ({ frames := 0, cells := 0, slots := 0, locals := 0 }) s m ([.ref (a 0), .int (nI r)] : List Value).toArray below meth c H locs 0 0 (MQ below (cQv D (tX k) True (wX a k (n + 1) (opF r (n - r) K) (opF r (n - r) V) kd SK SV) A) ([.ref (a 0), .int (nI r)] : List Value).toArray s 0 0 A) (F0 m 5 ls []) := by
    intro d
    induction d with
    | zero =>
      intro Kc Vc H locs hd e1 e2 hP hD hS ls hl
      have e1 : Kc = opF r (n - r) K := e1
      have e2 : Vc = opF r (n - r) V := e2
      subst e1
      subst e2
      refine lv_iload_n hx hb dX0_openGap_5 rfl (lv_at hl 0 rfl) ?_
      refine lv_iload_n hx hb dX0_openGap_6 rfl (lv_at hl 2 rfl) ?_
      refine lv_icmp_le (tgt := 44) hx hb dX0_openGap_7 (by decide) (fun h1 => ?_) (fun h1 => ?_)
      · skip
        refine lv_aload_n hx hb dX0_openGap_44 rfl (lv_at hl 1 rfl) ?_
        refine lv_dup hx hb dX0_openGap_45 rfl ?_
        refine va_get (D := D) (ci := 0) (v := .int (nI n)) (C := RX0) (T := TX0) (N := 6) hx hb hts (fun w h => wm (ui_X0 w h)) hown hK hP 0 rfl rfl 2 (by decide) (hts (.fieldLink RX0 16 "LinkedIndex" "keyCount" "I") (wm mb_2)) (fun _ h9 => h9) rfl dX0_openGap_46 ?_
        refine lv_iconst (v := 1) hx hb dX0_openGap_49 (by decide) ?_
        refine lv_iadd hx hb dX0_openGap_50 ?_
        refine xi (y := nI (n + 1)) (nI_add n 1) ?_
        refine va_put (D := D) (ci := 0) (v := .int (nI (n + 1))) (ty := .int) (C := RX0) (T := TX0) (N := 6) hx hb hts (fun w h => wm (ui_X0 w h)) tyX0 tyX0_ok nmX0 hown hK hP hD hS 0 rfl rfl 2 (by decide) (hts (.fieldLink RX0 16 "LinkedIndex" "keyCount" "I") (wm mb_2)) (fun _ h9 => h9) rfl (by decide +kernel) rfl rfl (Nat.le_of_ble_eq_true rfl) dX0_openGap_51 (fun H locs hP hD hS => ?_)
        have hP : va_P D vwCl (wX a k (n + 1) (opF r (n - r) K) (opF r (n - r) V) kd SK SV) H := hP
        have hD : va_D A (wX a k (n + 1) (opF r (n - r) K) (opF r (n - r) V) kd SK SV) := hD
        exact fn_v hx hb hr hlocks (by decide) (by decide) trivial hP hK hD hS dX0_openGap_54
      · skip
        exact absurd ((nI_leI (by omega) (by omega)).mpr (Nat.le_refl _)) h1
    | succ d ih =>
      intro Kc Vc H locs hd e1 e2 hP hD hS ls hl
      refine lv_iload_n hx hb dX0_openGap_5 rfl (lv_at hl 0 rfl) ?_
      refine lv_iload_n hx hb dX0_openGap_6 rfl (lv_at hl 2 rfl) ?_
      refine lv_icmp_le (tgt := 44) hx hb dX0_openGap_7 (by decide) (fun h1 => ?_) (fun h1 => ?_)
      · skip
        exact absurd ((nI_leI (by omega) (by omega)).mp h1) (by omega)
      · skip
        refine lv_aload_n hx hb dX0_openGap_10 rfl (lv_at hl 1 rfl) ?_
        refine va_get (D := D) (ci := 0) (v := .ref (a 1)) (C := RX0) (T := TX0) (N := 6) hx hb hts (fun w h => wm (ui_X0 w h)) hown hK hP 0 rfl rfl 0 (by decide) (hts (.fieldLink RX0 9 "LinkedIndex" "keys" "[J") (wm mb_8)) (fun _ h9 => h9) rfl dX0_openGap_11 ?_
        refine lv_iload_n hx hb dX0_openGap_14 rfl (lv_at hl 0 rfl) ?_
        refine lv_aload_n hx hb dX0_openGap_15 rfl (lv_at hl 1 rfl) ?_
        refine va_get (D := D) (ci := 0) (v := .ref (a 1)) (C := RX0) (T := TX0) (N := 6) hx hb hts (fun w h => wm (ui_X0 w h)) hown hK hP 0 rfl rfl 0 (by decide) (hts (.fieldLink RX0 9 "LinkedIndex" "keys" "[J") (wm mb_8)) (fun _ h9 => h9) rfl dX0_openGap_16 ?_
        refine lv_iload_n hx hb dX0_openGap_19 rfl (lv_at hl 0 rfl) ?_
        refine lv_iconst (v := 1) hx hb dX0_openGap_20 (by decide) ?_
        refine lv_isub hx hb dX0_openGap_21 ?_
        refine xi (y := nI (r + d)) (nI_pred _) ?_
        refine x_lald (j := (r + d)) hx hb hK hP 1 0 rfl rfl (by omega) (by decide) dX0_openGap_22 ?_
        refine x_last (j := (r + d + 1)) hx hb hK hP hD hS 1 0 rfl rfl (by omega) (by decide) dX0_openGap_23 (fun H locs hP hD hS => ?_)
        have hP : va_P D vwCl (wX a k n (vp_updL Kc (r + d + 1) (Kc (r + d))) Vc kd SK SV) H := hP
        have hD : va_D A (wX a k n (vp_updL Kc (r + d + 1) (Kc (r + d))) Vc kd SK SV) := hD
        refine lv_aload_n hx hb dX0_openGap_24 rfl (lv_at hl 1 rfl) ?_
        refine va_get (D := D) (ci := 0) (v := .ref (a 2)) (C := RX0) (T := TX0) (N := 6) hx hb hts (fun w h => wm (ui_X0 w h)) hown hK hP 0 rfl rfl 1 (by decide) (hts (.fieldLink RX0 13 "LinkedIndex" "values" "[J") (wm mb_9)) (fun _ h9 => h9) rfl dX0_openGap_25 ?_
        refine lv_iload_n hx hb dX0_openGap_28 rfl (lv_at hl 0 rfl) ?_
        refine lv_aload_n hx hb dX0_openGap_29 rfl (lv_at hl 1 rfl) ?_
        refine va_get (D := D) (ci := 0) (v := .ref (a 2)) (C := RX0) (T := TX0) (N := 6) hx hb hts (fun w h => wm (ui_X0 w h)) hown hK hP 0 rfl rfl 1 (by decide) (hts (.fieldLink RX0 13 "LinkedIndex" "values" "[J") (wm mb_9)) (fun _ h9 => h9) rfl dX0_openGap_30 ?_
        refine lv_iload_n hx hb dX0_openGap_33 rfl (lv_at hl 0 rfl) ?_
        refine lv_iconst (v := 1) hx hb dX0_openGap_34 (by decide) ?_
        refine lv_isub hx hb dX0_openGap_35 ?_
        refine xi (y := nI (r + d)) (nI_pred _) ?_
        refine x_lald (j := (r + d)) hx hb hK hP 2 1 rfl rfl (by omega) (by decide) dX0_openGap_36 ?_
        refine x_last (j := (r + d + 1)) hx hb hK hP hD hS 2 1 rfl rfl (by omega) (by decide) dX0_openGap_37 (fun H locs hP hD hS => ?_)
        have hP : va_P D vwCl (wX a k n (vp_updL Kc (r + d + 1) (Kc (r + d))) (vp_updL Vc (r + d + 1) (Vc (r + d))) kd SK SV) H := hP
        have hD : va_D A (wX a k n (vp_updL Kc (r + d + 1) (Kc (r + d))) (vp_updL Vc (r + d + 1) (Vc (r + d))) kd SK SV) := hD
        refine lv_iinc (k := 0) (v := nI (r + d)) (lv' := [(2, .int (nI (r + d))), (0, .ref (a 0)), (1, .int (nI r))]) hx hb dX0_openGap_38 hl rfl (by rw [show Int32.ofInt (-1) = -1 from by decide]; exact pk_m1 _) (by decide) rfl (fun ls hl => ?_)
        refine lv_goto (tgt := 5) hx hb dX0_openGap_41 (by decide) ?_
        exact ih _ _ H locs (by omega) e1 e2 hP hD hS ls hl
  have e9 : r + (n - r) = n := by omega
  have hl : lv_has ls 3 [(2, .int (nI (r + (n - r)))), (0, .ref (a 0)), (1, .int (nI r))] := by rw [e9]; exact hl
  exact loop (n - r) K V s.heap [] (by omega) rfl rfl hP hD hS ls hl
set_option maxHeartbeats 1000000 in
set_option maxRecDepth 100000 in
theorem c_closeGap (l : Launch) (hl9 : l.stackTraces = false) (D : va_G) (a : Nat → Nat) (k : Nat → ClassId) (n : Nat) (K V : Nat → Int64) (kd : Nat → Int32) (SK SV : Nat → Int64) (r : Nat) (sz : Nat) (hr9 : r < n) (hn : n ≤ 100) : Met l yX0_closeGap wsX0_closeGap ({ frames := 0, cells := 0, slots := 0, locals := 0 }) (cP D (tX k) (wX a k n K V kd SK SV) [.ref (a 0), .int (nI r)] sz) (cQv D (tX k) True (wX a k (n - 1) (clF (n - 1 - r) r K) (clF (n - 1 - r) r V) kd SK SV) (va_A (wX a k n K V kd SK SV) sz)) 0 0 (va_A (wX a k n K V kd SK SV) sz) := by
  refine mk_n (cc := cX0_closeGap) (maxL := 3) (ret := none) (fun A => cQv D (tX k) True (wX a k (n - 1) (clF (n - 1 - r) r K) (clF (n - 1 - r) r V) kd SK SV) A) (by decide) rfl (Nat.le_of_ble_eq_true rfl) ?_
  intro p e s m below meth c ls A hx hb hr hml hlocks hnm hown hts hP hK hD hZ hA hS hl
  have hown : s.vm.findClass RX0 = some m.cls := hown
  have hl : lv_has ls 3 [(0, .ref (a 0)), (1, .int (nI r))] := hl
  refine lv_aload_n hx hb dX0_closeGap_0 rfl (lv_at hl 0 rfl) ?_
  refine lv_dup hx hb dX0_closeGap_1 rfl ?_
  refine va_get (D := D) (ci := 0) (v := .int (nI n)) (C := RX0) (T := TX0) (N := 6) hx hb hts (fun w h => wm (ui_X0 w h)) hown hK hP 0 rfl rfl 2 (by decide) (hts (.fieldLink RX0 16 "LinkedIndex" "keyCount" "I") (wm mb_2)) (fun _ h9 => h9) rfl dX0_closeGap_2 ?_
  refine lv_iconst (v := 1) hx hb dX0_closeGap_5 (by decide) ?_
  refine lv_isub hx hb dX0_closeGap_6 ?_
  refine xi (y := nI (n - 1)) (pk_sub (a := n) (b := 1) (by omega)) ?_
  refine va_put (D := D) (ci := 0) (v := .int (nI (n - 1))) (ty := .int) (C := RX0) (T := TX0) (N := 6) hx hb hts (fun w h => wm (ui_X0 w h)) tyX0 tyX0_ok nmX0 hown hK hP hD hS 0 rfl rfl 2 (by decide) (hts (.fieldLink RX0 16 "LinkedIndex" "keyCount" "I") (wm mb_2)) (fun _ h9 => h9) rfl (by decide +kernel) rfl rfl (Nat.le_of_ble_eq_true rfl) dX0_closeGap_7 (fun H locs hP hD hS => ?_)
  have hP : va_P D vwCl (wX a k (n - 1) K V kd SK SV) H := hP
  have hD : va_D A (wX a k (n - 1) K V kd SK SV) := hD
  refine lv_iload_n hx hb dX0_closeGap_10 rfl (lv_at hl 1 rfl) ?_
  refine lv_istore_n (lv' := [(2, .int (nI r)), (0, .ref (a 0)), (1, .int (nI r))]) hx hb dX0_closeGap_11 rfl hl (by decide) rfl (fun ls hl => ?_)
  have loop : ∀ (f i : Nat) (Kc Vc : Nat → Int64) (H : Heap) (locs : List Loc), n - 1 - i < f → i ≤ n - 1 → clF (n - 1 - i) i Kc = clF (n - 1 - r) r K → clF (n - 1 - i) i Vc = clF (n - 1 - r) r V → va_P D vwCl (wX a k (n - 1) Kc Vc kd SK SV) H → va_D A (wX a k (n - 1) Kc Vc kd SK SV) → va_S A s.heap H locs → ∀ ls : Array Slot, lv_has ls 3 [(2, .int (nI i)), (0, .ref (a 0)), (1, .int (nI r))] → W p l e ({ frames := 0, cells := 0, slots := 0, locals := 0 }) s m ([.ref (a 0), .int (nI r)] : List Value).toArray below meth c H locs 0 0 (MQ below (cQv D (tX k) True (wX a k (n - 1) (clF (n - 1 - r) r K) (clF (n - 1 - r) r V) kd SK SV) A) ([.ref (a 0), .int (nI r)] : List Value).toArray s 0 0 A) (F0 m 12 ls []) := by
    intro f
    induction f with
    | zero => intro i Kc Vc H locs hf; omega
    | succ f ih =>
      intro i Kc Vc H locs hf hi e1 e2 hP hD hS ls hl
      refine lv_iload_n hx hb dX0_closeGap_12 rfl (lv_at hl 0 rfl) ?_
      refine lv_aload_n hx hb dX0_closeGap_13 rfl (lv_at hl 1 rfl) ?_
      refine va_get (D := D) (ci := 0) (v := .int (nI (n - 1))) (C := RX0) (T := TX0) (N := 6) hx hb hts (fun w h => wm (ui_X0 w h)) hown hK hP 0 rfl rfl 2 (by decide) (hts (.fieldLink RX0 16 "LinkedIndex" "keyCount" "I") (wm mb_2)) (fun _ h9 => h9) rfl dX0_closeGap_14 ?_
      refine lv_icmp_ge (tgt := 54) hx hb dX0_closeGap_17 (by decide) (fun h1 => ?_) (fun h1 => ?_)
      · skip
        have h1 : n - 1 ≤ i := (nI_leI (by omega) (by omega)).mp h1
        have e0 : n - 1 - i = 0 := by omega
        rw [e0] at e1 e2
        have e1 : Kc = clF (n - 1 - r) r K := e1
        have e2 : Vc = clF (n - 1 - r) r V := e2
        subst e1
        subst e2
        exact fn_v hx hb hr hlocks (by decide) (by decide) trivial hP hK hD hS dX0_closeGap_54
      · skip
        have h1 : i < n - 1 := Nat.lt_of_not_le (fun q => h1 ((nI_leI (by omega) (by omega)).mpr q))
        refine lv_aload_n hx hb dX0_closeGap_20 rfl (lv_at hl 1 rfl) ?_
        refine va_get (D := D) (ci := 0) (v := .ref (a 1)) (C := RX0) (T := TX0) (N := 6) hx hb hts (fun w h => wm (ui_X0 w h)) hown hK hP 0 rfl rfl 0 (by decide) (hts (.fieldLink RX0 9 "LinkedIndex" "keys" "[J") (wm mb_8)) (fun _ h9 => h9) rfl dX0_closeGap_21 ?_
        refine lv_iload_n hx hb dX0_closeGap_24 rfl (lv_at hl 0 rfl) ?_
        refine lv_aload_n hx hb dX0_closeGap_25 rfl (lv_at hl 1 rfl) ?_
        refine va_get (D := D) (ci := 0) (v := .ref (a 1)) (C := RX0) (T := TX0) (N := 6) hx hb hts (fun w h => wm (ui_X0 w h)) hown hK hP 0 rfl rfl 0 (by decide) (hts (.fieldLink RX0 9 "LinkedIndex" "keys" "[J") (wm mb_8)) (fun _ h9 => h9) rfl dX0_closeGap_26 ?_
        refine lv_iload_n hx hb dX0_closeGap_29 rfl (lv_at hl 0 rfl) ?_
        refine lv_iconst (v := 1) hx hb dX0_closeGap_30 (by decide) ?_
        refine lv_iadd hx hb dX0_closeGap_31 ?_
        refine xi (y := nI (i + 1)) (nI_add i 1) ?_
        refine x_lald (j := (i + 1)) hx hb hK hP 1 0 rfl rfl (by omega) (by decide) dX0_closeGap_32 ?_
        refine x_last (j := i) hx hb hK hP hD hS 1 0 rfl rfl (by omega) (by decide) dX0_closeGap_33 (fun H locs hP hD hS => ?_)
        have hP : va_P D vwCl (wX a k (n - 1) (vp_updL Kc i (Kc (i + 1))) Vc kd SK SV) H := hP
        have hD : va_D A (wX a k (n - 1) (vp_updL Kc i (Kc (i + 1))) Vc kd SK SV) := hD
        refine lv_aload_n hx hb dX0_closeGap_34 rfl (lv_at hl 1 rfl) ?_
        refine va_get (D := D) (ci := 0) (v := .ref (a 2)) (C := RX0) (T := TX0) (N := 6) hx hb hts (fun w h => wm (ui_X0 w h)) hown hK hP 0 rfl rfl 1 (by decide) (hts (.fieldLink RX0 13 "LinkedIndex" "values" "[J") (wm mb_9)) (fun _ h9 => h9) rfl dX0_closeGap_35 ?_
        refine lv_iload_n hx hb dX0_closeGap_38 rfl (lv_at hl 0 rfl) ?_
        refine lv_aload_n hx hb dX0_closeGap_39 rfl (lv_at hl 1 rfl) ?_
        refine va_get (D := D) (ci := 0) (v := .ref (a 2)) (C := RX0) (T := TX0) (N := 6) hx hb hts (fun w h => wm (ui_X0 w h)) hown hK hP 0 rfl rfl 1 (by decide) (hts (.fieldLink RX0 13 "LinkedIndex" "values" "[J") (wm mb_9)) (fun _ h9 => h9) rfl dX0_closeGap_40 ?_
        refine lv_iload_n hx hb dX0_closeGap_43 rfl (lv_at hl 0 rfl) ?_
        refine lv_iconst (v := 1) hx hb dX0_closeGap_44 (by decide) ?_
        refine lv_iadd hx hb dX0_closeGap_45 ?_
        refine xi (y := nI (i + 1)) (nI_add i 1) ?_
        refine x_lald (j := (i + 1)) hx hb hK hP 2 1 rfl rfl (by omega) (by decide) dX0_closeGap_46 ?_
        refine x_last (j := i) hx hb hK hP hD hS 2 1 rfl rfl (by omega) (by decide) dX0_closeGap_47 (fun H locs hP hD hS => ?_)
        have hP : va_P D vwCl (wX a k (n - 1) (vp_updL Kc i (Kc (i + 1))) (vp_updL Vc i (Vc (i + 1))) kd SK SV) H := hP
        have hD : va_D A (wX a k (n - 1) (vp_updL Kc i (Kc (i + 1))) (vp_updL Vc i (Vc (i + 1))) kd SK SV) := hD
        refine lv_iinc (k := 0) (v := nI (i + 1)) (lv' := [(2, .int (nI (i + 1))), (0, .ref (a 0)), (1, .int (nI r))]) hx hb dX0_closeGap_48 hl rfl (by rw [show Int32.ofInt 1 = 1 from by decide]; exact nI_1 _) (by decide) rfl (fun ls hl => ?_)
        refine lv_goto (tgt := 12) hx hb dX0_closeGap_51 (by decide) ?_
        have e0 : n - 1 - i = (n - 1 - (i + 1)) + 1 := by omega
        rw [e0] at e1 e2
        exact ih (i + 1) _ _ H locs (by omega) (by omega) e1 e2 hP hD hS ls hl
  exact loop n r K V H locs (by omega) (by omega) rfl rfl hP hD hS ls hl
