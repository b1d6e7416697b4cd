set_option maxHeartbeats 1000000 in
set_option maxRecDepth 100000 in
theorem c_init (l : Launch) (D : va_G) (h0 sz : Nat) : Met l yX0_init wsX0_init ({ frames := 1, cells := 5, slots := 224, locals := 12 }) (cP D [] [(h0, .inr (0, [.null, .null, .int 0, .null, .null, .null]))] [.ref h0] sz) (va_Qv (fun u : (Nat → Nat) × (Nat → ClassId) => u.1 0 = h0) (fun u t => cB D (tX u.2) (va_A [(h0, .inr (0, [.null, .null, .int 0, .null, .null, .null]))] sz) (wX u.1 u.2 0 (fun _ => 0) (fun _ => 0) (fun _ => -1) (fun _ => 0) (fun _ => 0)) t) (va_A [(h0, .inr (0, [.null, .null, .int 0, .null, .null, .null]))] sz)) 5 224 (va_A [(h0, .inr (0, [.null, .null, .int 0, .null, .null, .null]))] sz) := by
  refine mk_n (cc := cX0_init) (maxL := 2) (ret := none) (fun A => va_Qv (fun u : (Nat → Nat) × (Nat → ClassId) => u.1 0 = h0) (fun u t => cB D (tX u.2) A (wX u.1 u.2 0 (fun _ => 0) (fun _ => 0) (fun _ => -1) (fun _ => 0) (fun _ => 0)) t) A) (by decide) rfl (Nat.le_of_ble_eq_true rfl) ?_
  intro p e s m below meth c ls A hx hb hr hml hlocks hnm hown hts hP hK hD hZ hA hS hl
  have hown : s.vm.findClass RX0 = some m.cls := hown
  have hl : lv_has ls 2 [(0, .ref h0)] := hl
  have hnm : meth.name = "<init>" := hnm
  refine lv_aload_n hx hb dX0_init_0 rfl (lv_at hl 0 rfl) ?_
  refine W.objInit hx hb hown (hts (.methodLink RX0 1 objectInit) (wm mb_106)) (hts (.instanceMethod objectInit) (wm mb_107)) (hts (.code objectInit ⟨#[0xb1]⟩ 1 none) (wm mb_108)) rfl (hl.1.trans hml.symm) rfl dX0_init_1 (Nat.le_of_ble_eq_true rfl) (Nat.le_of_ble_eq_true rfl) ?_
  refine W.eq (g2 := F0 m 4 ls []) rfl ?_
  refine lv_aload_n hx hb dX0_init_4 rfl (lv_at hl 0 rfl) ?_
  refine lv_bipush (v := 100) hx hb dX0_init_5 (by decide) ?_
  refine va_newa (atype := .long) (ty := .long) (n := 100) (a0 := (100, .inr (.inl (fun _ => 0)))) (N' := 100) hx hb (hts (.arrayClass .long) (wm mb_109)) rfl hK hP hD hS hA (fun _ => rfl) (by decide) (by decide) (by decide) (by decide) (by decide) dX0_init_7 (fun q1 c1 H hK hP hD hS => ?_)
  have hK : va_K D vwCl [(c1, .long)] s := hK
  have hP : va_P D vwCl ([(h0, .inr (0, [.null, .null, .int 0, .null, .null, .null])), (q1, .inl (c1, 100, .inr (.inl (fun _ => 0))))]) H := hP
  have hD : va_D A ([(h0, .inr (0, [.null, .null, .int 0, .null, .null, .null])), (q1, .inl (c1, 100, .inr (.inl (fun _ => 0))))]) := hD
  refine va_putF (D := D) (ci := 0) (v := .ref q1) (ty := .array .long) (C := RX0) (T := TX0) (N := 6) hx hb hts (fun w h => wm (ui_X0 w h)) tyX0 tyX0_ok nmX0 hown hK hP hD hS 0 rfl rfl 0 (by decide) (hts (.fieldLink RX0 9 "LinkedIndex" "keys" "[J") (wm mb_8)) (fun _ h9 => h9) rfl hnm rfl (by decide +kernel) rfl rfl (Nat.le_of_ble_eq_true rfl) dX0_init_9 (fun H locs hP hD hS => ?_)
  have hP : va_P D vwCl ([(h0, .inr (0, [.ref q1, .null, .int 0, .null, .null, .null])), (q1, .inl (c1, 100, .inr (.inl (fun _ => 0))))]) H := hP
  have hD : va_D A ([(h0, .inr (0, [.ref q1, .null, .int 0, .null, .null, .null])), (q1, .inl (c1, 100, .inr (.inl (fun _ => 0))))]) := hD
  refine lv_aload_n hx hb dX0_init_12 rfl (lv_at hl 0 rfl) ?_
  refine lv_bipush (v := 100) hx hb dX0_init_13 (by decide) ?_
  refine va_newa (atype := .long) (ty := .long) (n := 100) (a0 := (100, .inr (.inl (fun _ => 0)))) (N' := 100) hx hb (hts (.arrayClass .long) (wm mb_109)) rfl hK hP hD hS hA (fun _ => rfl) (by decide) (by decide) (by decide) (by decide) (by decide) dX0_init_15 (fun q2 c2 H hK hP hD hS => ?_)
  have hK : va_K D vwCl [(c1, .long), (c2, .long)] s := hK
  have hP : va_P D vwCl ([(h0, .inr (0, [.ref q1, .null, .int 0, .null, .null, .null])), (q1, .inl (c1, 100, .inr (.inl (fun _ => 0)))), (q2, .inl (c2, 100, .inr (.inl (fun _ => 0))))]) H := hP
  have hD : va_D A ([(h0, .inr (0, [.ref q1, .null, .int 0, .null, .null, .null])), (q1, .inl (c1, 100, .inr (.inl (fun _ => 0)))), (q2, .inl (c2, 100, .inr (.inl (fun _ => 0))))]) := hD
  refine va_putF (D := D) (ci := 0) (v := .ref q2) (ty := .array .long) (C := RX0) (T := TX0) (N := 6) hx hb hts (fun w h => wm (ui_X0 w h)) tyX0 tyX0_ok nmX0 hown hK hP hD hS 0 rfl rfl 1 (by decide) (hts (.fieldLink RX0 13 "LinkedIndex" "values" "[J") (wm mb_9)) (fun _ h9 => h9) rfl hnm rfl (by decide +kernel) rfl rfl (Nat.le_of_ble_eq_true rfl) dX0_init_17 (fun H locs hP hD hS => ?_)
  have hP : va_P D vwCl ([(h0, .inr (0, [.ref q1, .ref q2, .int 0, .null, .null, .null])), (q1, .inl (c1, 100, .inr (.inl (fun _ => 0)))), (q2, .inl (c2, 100, .inr (.inl (fun _ => 0))))]) H := hP
  have hD : va_D A ([(h0, .inr (0, [.ref q1, .ref q2, .int 0, .null, .null, .null])), (q1, .inl (c1, 100, .inr (.inl (fun _ => 0)))), (q2, .inl (c2, 100, .inr (.inl (fun _ => 0))))]) := hD
  refine lv_aload_n hx hb dX0_init_20 rfl (lv_at hl 0 rfl) ?_
  refine lv_iconst (v := 0) hx hb dX0_init_21 (by decide) ?_
  refine va_put (D := D) (ci := 0) (v := .int 0) (ty := .int) (C := RX0) (T := TX0) (N := 6) hx hb hts (fun w h => wm (ui_X0 w h)) tyX0 tyX0_ok nmX0 hown hK hP hD hS 0 rfl rfl 2 (by decide) (hts (.fieldLink RX0 16 "LinkedIndex" "keyCount" "I") (wm mb_2)) (fun _ h9 => h9) rfl (by decide +kernel) rfl rfl (Nat.le_of_ble_eq_true rfl) dX0_init_22 (fun H locs hP hD hS => ?_)
  have hP : va_P D vwCl ([(h0, .inr (0, [.ref q1, .ref q2, .int 0, .null, .null, .null])), (q1, .inl (c1, 100, .inr (.inl (fun _ => 0)))), (q2, .inl (c2, 100, .inr (.inl (fun _ => 0))))]) H := hP
  have hD : va_D A ([(h0, .inr (0, [.ref q1, .ref q2, .int 0, .null, .null, .null])), (q1, .inl (c1, 100, .inr (.inl (fun _ => 0)))), (q2, .inl (c2, 100, .inr (.inl (fun _ => 0))))]) := hD
  refine lv_aload_n hx hb dX0_init_25 rfl (lv_at hl 0 rfl) ?_
  refine lv_bipush (v := 8) hx hb dX0_init_26 (by decide) ?_
  refine va_newa (atype := .int) (ty := .int) (n := 8) (a0 := (8, .inl (fun _ => 0))) (N' := 8) hx hb (hts (.arrayClass .int) (wm mb_110)) rfl hK hP hD hS hA (fun _ => rfl) (by decide) (by decide) (by decide) (by decide) (by decide) dX0_init_28 (fun q3 c3 H hK hP hD hS => ?_)
  have hK : va_K D vwCl [(c1, .long), (c2, .long), (c3, .int)] s := hK
  have hP : va_P D vwCl ([(h0, .inr (0, [.ref q1, .ref q2, .int 0, .null, .null, .null])), (q1, .inl (c1, 100, .inr (.inl (fun _ => 0)))), (q2, .inl (c2, 100, .inr (.inl (fun _ => 0)))), (q3, .inl (c3, 8, .inl (fun _ => 0)))]) H := hP
  have hD : va_D A ([(h0, .inr (0, [.ref q1, .ref q2, .int 0, .null, .null, .null])), (q1, .inl (c1, 100, .inr (.inl (fun _ => 0)))), (q2, .inl (c2, 100, .inr (.inl (fun _ => 0)))), (q3, .inl (c3, 8, .inl (fun _ => 0)))]) := hD
  refine va_putF (D := D) (ci := 0) (v := .ref q3) (ty := .array .int) (C := RX0) (T := TX0) (N := 6) hx hb hts (fun w h => wm (ui_X0 w h)) tyX0 tyX0_ok nmX0 hown hK hP hD hS 0 rfl rfl 3 (by decide) (hts (.fieldLink RX0 20 "LinkedIndex" "slotKinds" "[I") (wm mb_5)) (fun _ h9 => h9) rfl hnm rfl (by decide +kernel) rfl rfl (Nat.le_of_ble_eq_true rfl) dX0_init_30 (fun H locs hP hD hS => ?_)
  have hP : va_P D vwCl ([(h0, .inr (0, [.ref q1, .ref q2, .int 0, .ref q3, .null, .null])), (q1, .inl (c1, 100, .inr (.inl (fun _ => 0)))), (q2, .inl (c2, 100, .inr (.inl (fun _ => 0)))), (q3, .inl (c3, 8, .inl (fun _ => 0)))]) H := hP
  have hD : va_D A ([(h0, .inr (0, [.ref q1, .ref q2, .int 0, .ref q3, .null, .null])), (q1, .inl (c1, 100, .inr (.inl (fun _ => 0)))), (q2, .inl (c2, 100, .inr (.inl (fun _ => 0)))), (q3, .inl (c3, 8, .inl (fun _ => 0)))]) := hD
  refine lv_aload_n hx hb dX0_init_33 rfl (lv_at hl 0 rfl) ?_
  refine lv_bipush (v := 8) hx hb dX0_init_34 (by decide) ?_
  refine va_newa (atype := .long) (ty := .long) (n := 8) (a0 := (8, .inr (.inl (fun _ => 0)))) (N' := 8) hx hb (hts (.arrayClass .long) (wm mb_109)) rfl hK hP hD hS hA (fun _ => rfl) (by decide) (by decide) (by decide) (by decide) (by decide) dX0_init_36 (fun q4 c4 H hK hP hD hS => ?_)
  have hK : va_K D vwCl [(c1, .long), (c2, .long), (c3, .int), (c4, .long)] s := hK
  have hP : va_P D vwCl ([(h0, .inr (0, [.ref q1, .ref q2, .int 0, .ref q3, .null, .null])), (q1, .inl (c1, 100, .inr (.inl (fun _ => 0)))), (q2, .inl (c2, 100, .inr (.inl (fun _ => 0)))), (q3, .inl (c3, 8, .inl (fun _ => 0))), (q4, .inl (c4, 8, .inr (.inl (fun _ => 0))))]) H := hP
  have hD : va_D A ([(h0, .inr (0, [.ref q1, .ref q2, .int 0, .ref q3, .null, .null])), (q1, .inl (c1, 100, .inr (.inl (fun _ => 0)))), (q2, .inl (c2, 100, .inr (.inl (fun _ => 0)))), (q3, .inl (c3, 8, .inl (fun _ => 0))), (q4, .inl (c4, 8, .inr (.inl (fun _ => 0))))]) := hD
  refine va_putF (D := D) (ci := 0) (v := .ref q4) (ty := .array .long) (C := RX0) (T := TX0) (N := 6) hx hb hts (fun w h => wm (ui_X0 w h)) tyX0 tyX0_ok nmX0 hown hK hP hD hS 0 rfl rfl 4 (by decide) (hts (.fieldLink RX0 24 "LinkedIndex" "slotKeys" "[J") (wm mb_14)) (fun _ h9 => h9) rfl hnm rfl (by decide +kernel) rfl rfl (Nat.le_of_ble_eq_true rfl) dX0_init_38 (fun H locs hP hD hS => ?_)
  have hP : va_P D vwCl ([(h0, .inr (0, [.ref q1, .ref q2, .int 0, .ref q3, .ref q4, .null])), (q1, .inl (c1, 100, .inr (.inl (fun _ => 0)))), (q2, .inl (c2, 100, .inr (.inl (fun _ => 0)))), (q3, .inl (c3, 8, .inl (fun _ => 0))), (q4, .inl (c4, 8, .inr (.inl (fun _ => 0))))]) H := hP
  have hD : va_D A ([(h0, .inr (0, [.ref q1, .ref q2, .int 0, .ref q3, .ref q4, .null])), (q1, .inl (c1, 100, .inr (.inl (fun _ => 0)))), (q2, .inl (c2, 100, .inr (.inl (fun _ => 0)))), (q3, .inl (c3, 8, .inl (fun _ => 0))), (q4, .inl (c4, 8, .inr (.inl (fun _ => 0))))]) := hD
  refine lv_aload_n hx hb dX0_init_41 rfl (lv_at hl 0 rfl) ?_
  refine lv_bipush (v := 8) hx hb dX0_init_42 (by decide) ?_
  refine va_newa (atype := .long) (ty := .long) (n := 8) (a0 := (8, .inr (.inl (fun _ => 0)))) (N' := 8) hx hb (hts (.arrayClass .long) (wm mb_109)) rfl hK hP hD hS hA (fun _ => rfl) (by decide) (by decide) (by decide) (by decide) (by decide) dX0_init_44 (fun q5 c5 H hK hP hD hS => ?_)
  have hK : va_K D vwCl [(c1, .long), (c2, .long), (c3, .int), (c4, .long), (c5, .long)] s := hK
  have hP : va_P D vwCl ([(h0, .inr (0, [.ref q1, .ref q2, .int 0, .ref q3, .ref q4, .null])), (q1, .inl (c1, 100, .inr (.inl (fun _ => 0)))), (q2, .inl (c2, 100, .inr (.inl (fun _ => 0)))), (q3, .inl (c3, 8, .inl (fun _ => 0))), (q4, .inl (c4, 8, .inr (.inl (fun _ => 0)))), (q5, .inl (c5, 8, .inr (.inl (fun _ => 0))))]) H := hP
  have hD : va_D A ([(h0, .inr (0, [.ref q1, .ref q2, .int 0, .ref q3, .ref q4, .null])), (q1, .inl (c1, 100, .inr (.inl (fun _ => 0)))), (q2, .inl (c2, 100, .inr (.inl (fun _ => 0)))), (q3, .inl (c3, 8, .inl (fun _ => 0))), (q4, .inl (c4, 8, .inr (.inl (fun _ => 0)))), (q5, .inl (c5, 8, .inr (.inl (fun _ => 0))))]) := hD
  refine va_putF (D := D) (ci := 0) (v := .ref q5) (ty := .array .long) (C := RX0) (T := TX0) (N := 6) hx hb hts (fun w h => wm (ui_X0 w h)) tyX0 tyX0_ok nmX0 hown hK hP hD hS 0 rfl rfl 5 (by decide) (hts (.fieldLink RX0 27 "LinkedIndex" "slotValues" "[J") (wm mb_15)) (fun _ h9 => h9) rfl hnm rfl (by decide +kernel) rfl rfl (Nat.le_of_ble_eq_true rfl) dX0_init_46 (fun H locs hP hD hS => ?_)
  have hP : va_P D vwCl ([(h0, .inr (0, [.ref q1, .ref q2, .int 0, .ref q3, .ref q4, .ref q5])), (q1, .inl (c1, 100, .inr (.inl (fun _ => 0)))), (q2, .inl (c2, 100, .inr (.inl (fun _ => 0)))), (q3, .inl (c3, 8, .inl (fun _ => 0))), (q4, .inl (c4, 8, .inr (.inl (fun _ => 0)))), (q5, .inl (c5, 8, .inr (.inl (fun _ => 0))))]) H := hP
  have hD : va_D A ([(h0, .inr (0, [.ref q1, .ref q2, .int 0, .ref q3, .ref q4, .ref q5])), (q1, .inl (c1, 100, .inr (.inl (fun _ => 0)))), (q2, .inl (c2, 100, .inr (.inl (fun _ => 0)))), (q3, .inl (c3, 8, .inl (fun _ => 0))), (q4, .inl (c4, 8, .inr (.inl (fun _ => 0)))), (q5, .inl (c5, 8, .inr (.inl (fun _ => 0))))]) := hD
  refine lv_iconst (v := 0) hx hb dX0_init_49 (by decide) ?_
  refine lv_istore_n (lv' := [(1, .int 0), (0, .ref h0)]) hx hb dX0_init_50 rfl hl (by decide) rfl (fun ls hl => ?_)
  refine W.widen (k := 5) (n := 224) (by decide) (by decide) ?_
  have loop : ∀ (f i : Nat) (kc : Nat → Int32) (H : Heap) (locs : List Loc), 8 - i = f → i ≤ 8 → (∀ j, j < i → kc j = -1) → va_P D vwCl [(h0, .inr (0, [.ref q1, .ref q2, .int 0, .ref q3, .ref q4, .ref q5])), (q1, .inl (c1, 100, .inr (.inl (fun _ => 0)))), (q2, .inl (c2, 100, .inr (.inl (fun _ => 0)))), (q3, .inl (c3, 8, .inl kc)), (q4, .inl (c4, 8, .inr (.inl (fun _ => 0)))), (q5, .inl (c5, 8, .inr (.inl (fun _ => 0))))] H → va_D A [(h0, .inr (0, [.ref q1, .ref q2, .int 0, .ref q3, .ref q4, .ref q5])), (q1, .inl (c1, 100, .inr (.inl (fun _ => 0)))), (q2, .inl (c2, 100, .inr (.inl (fun _ => 0)))), (q3, .inl (c3, 8, .inl kc)), (q4, .inl (c4, 8, .inr (.inl (fun _ => 0)))), (q5, .inl (c5, 8, .inr (.inl (fun _ => 0))))] → va_S A s.heap H locs → ∀ ls : Array Slot, lv_has ls 2 [(1, .int (nI i)), (0, .ref h0)] → W p l e ({ frames := 1, cells := 5, slots := 224, locals := 12 }) s m ([.ref h0] : List Value).toArray below meth c H locs 5 224 (MQ below (va_Qv (fun u : (Nat → Nat) × (Nat → ClassId) => u.1 0 = h0) (fun u t => cB D (tX u.2) A (wX u.1 u.2 0 (fun _ => 0) (fun _ => 0) (fun _ => -1) (fun _ => 0) (fun _ => 0)) t) A) ([.ref h0] : List Value).toArray s 5 224 A) (F0 m 51 ls []) := by
    intro f
    induction f with
    | zero =>
      intro i kc H locs hf hi h8 hP hD hS ls hl
      refine lv_iload_n hx hb dX0_init_51 rfl (lv_at hl 0 rfl) ?_
      refine lv_bipush (v := 8) hx hb dX0_init_52 (by decide) ?_
      refine lv_icmp_ge (tgt := 70) hx hb dX0_init_54 (by decide) (fun h1 => ?_) (fun h1 => ?_)
      · skip
        have hP := vP_kd (q0 := 3) (g := fun _ => -1) hP rfl (fun j hj => h8 j (by omega))
        have hD := hD.set (p := 3) (e := .inl (c3, 8, .inl (fun _ => -1))) rfl
        exact W.vret hx hb hr (fun t ht hW => ⟨⟨((fun i => match i with | 0 => h0 | 1 => q1 | 2 => q2 | 3 => q3 | 4 => q4 | _ => q5), (fun i => match i with | 0 => c1 | 1 => c1 | 2 => c2 | 3 => c3 | 4 => c4 | _ => c5)), rfl, rfl, ⟨by rw [ht]; exact hP, va_K.moved hW.alike hK, hD⟩⟩, hS.F ht⟩) hS.2.2 dX0_init_70 hlocks
      · skip
        exact absurd ((nI_leI (a := 8) (by omega) (by omega)).mpr (by omega)) h1
    | succ f ih =>
      intro i kc H locs hf hi h8 hP hD hS ls hl
      refine lv_iload_n hx hb dX0_init_51 rfl (lv_at hl 0 rfl) ?_
      refine lv_bipush (v := 8) hx hb dX0_init_52 (by decide) ?_
      refine lv_icmp_ge (tgt := 70) hx hb dX0_init_54 (by decide) (fun h1 => ?_) (fun h1 => ?_)
      · skip
        exact absurd ((nI_leI (a := 8) (by omega) (by omega)).mp h1) (by omega)
      · skip
        refine lv_aload_n hx hb dX0_init_57 rfl (lv_at hl 1 rfl) ?_
        refine va_get (D := D) (ci := 0) (v := .ref q3) (C := RX0) (T := TX0) (N := 6) hx hb hts (fun w h => wm (ui_X0 w h)) hown hK hP 0 rfl rfl 3 (by decide) (hts (.fieldLink RX0 20 "LinkedIndex" "slotKinds" "[I") (wm mb_5)) (fun _ h9 => h9) rfl dX0_init_58 ?_
        refine lv_iload_n hx hb dX0_init_61 rfl (lv_at hl 0 rfl) ?_
        refine lv_iconst (v := (-1)) hx hb dX0_init_62 (by decide) ?_
        refine x_iast (j := i) hx hb hK hP hD hS 3 2 rfl rfl (by omega) (by decide) dX0_init_63 (fun H locs hP hD hS => ?_)
        have hP : va_P D vwCl ([(h0, .inr (0, [.ref q1, .ref q2, .int 0, .ref q3, .ref q4, .ref q5])), (q1, .inl (c1, 100, .inr (.inl (fun _ => 0)))), (q2, .inl (c2, 100, .inr (.inl (fun _ => 0)))), (q3, .inl (c3, 8, .inl (upd kc i (-1)))), (q4, .inl (c4, 8, .inr (.inl (fun _ => 0)))), (q5, .inl (c5, 8, .inr (.inl (fun _ => 0))))]) H := hP
        have hD : va_D A ([(h0, .inr (0, [.ref q1, .ref q2, .int 0, .ref q3, .ref q4, .ref q5])), (q1, .inl (c1, 100, .inr (.inl (fun _ => 0)))), (q2, .inl (c2, 100, .inr (.inl (fun _ => 0)))), (q3, .inl (c3, 8, .inl (upd kc i (-1)))), (q4, .inl (c4, 8, .inr (.inl (fun _ => 0)))), (q5, .inl (c5, 8, .inr (.inl (fun _ => 0))))]) := hD
        refine lv_iinc (k := 0) (v := nI (i + 1)) (lv' := [(1, .int (nI (i + 1))), (0, .ref h0)]) hx hb dX0_init_64 hl rfl (by rw [show Int32.ofInt 1 = 1 from by decide]; exact nI_1 _) (by decide) rfl (fun ls hl => ?_)
        refine lv_goto (tgt := 51) hx hb dX0_init_67 (by decide) ?_
        exact ih (i + 1) _ H locs (by omega) (by omega) (fun j hj => by unfold upd; by_cases e9 : j = i; rw [if_pos e9]; rw [if_neg e9]; exact h8 j (by omega)) hP hD hS ls hl
  exact loop 8 0 _ H locs rfl (by omega) (fun j hj => absurd hj (Nat.not_lt_zero _)) hP hD hS ls hl
set_option maxHeartbeats 1000000 in
set_option maxRecDepth 100000 in
theorem m_init (l : Launch) (D : va_G) (h0 sz : Nat) : Met l yX1_init wsX1_init ({ frames := 1, cells := 5, slots := 224, locals := 12 }) (cP D [] [(h0, .inr (1, [.int 0, .int 0, .null, .null, .null, .null, .null]))] [.ref h0] sz) (va_Qv (fun u : (Nat → Nat) × (Nat → ClassId) => u.1 0 = h0) (fun u t => cB D (tM u.2) (va_A [(h0, .inr (1, [.int 0, .int 0, .null, .null, .null, .null, .null]))] sz) (wM u.1 u.2 0 0 (fun _ => 0) (fun _ => 0) (fun _ => 0) (fun _ => 0) (fun _ => 0)) t) (va_A [(h0, .inr (1, [.int 0, .int 0, .null, .null, .null, .null, .null]))] sz)) 5 224 (va_A [(h0, .inr (1, [.int 0, .int 0, .null, .null, .null, .null, .null]))] sz) := by
  refine mk_n (cc := cX1_init) (maxL := 1) (ret := none) (fun A => va_Qv (fun u : (Nat → Nat) × (Nat → ClassId) => u.1 0 = h0) (fun u t => cB D (tM u.2) A (wM u.1 u.2 0 0 (fun _ => 0) (fun _ => 0) (fun _ => 0) (fun _ => 0) (fun _ => 0)) t) A) (by decide) rfl (Nat.le_of_ble_eq_true rfl) ?_
  intro p e s m below meth c ls A hx hb hr hml hlocks hnm hown hts hP hK hD hZ hA hS hl
  have hown : s.vm.findClass RX1 = some m.cls := hown
  have hl : lv_has ls 1 [(0, .ref h0)] := hl
  have hnm : meth.name = "<init>" := hnm
  refine lv_aload_n hx hb dX1_init_0 rfl (lv_at hl 0 rfl) ?_
  refine W.objInit hx hb hown (hts (.methodLink RX1 1 objectInit) (wm mb_111)) (hts (.instanceMethod objectInit) (wm mb_107)) (hts (.code objectInit ⟨#[0xb1]⟩ 1 none) (wm mb_108)) rfl (hl.1.trans hml.symm) rfl dX1_init_1 (Nat.le_of_ble_eq_true rfl) (Nat.le_of_ble_eq_true rfl) ?_
  refine W.eq (g2 := F0 m 4 ls []) rfl ?_
  refine lv_aload_n hx hb dX1_init_4 rfl (lv_at hl 0 rfl) ?_
  refine lv_bipush (v := 100) hx hb dX1_init_5 (by decide) ?_
  refine va_newa (atype := .long) (ty := .long) (n := 100) (a0 := (100, .inr (.inl (fun _ => 0)))) (N' := 100) hx hb (hts (.arrayClass .long) (wm mb_109)) rfl hK hP hD hS hA (fun _ => rfl) (by decide) (by decide) (by decide) (by decide) (by decide) dX1_init_7 (fun q1 c1 H hK hP hD hS => ?_)
  have hK : va_K D vwCl [(c1, .long)] s := hK
  have hP : va_P D vwCl ([(h0, .inr (1, [.int 0, .int 0, .null, .null, .null, .null, .null])), (q1, .inl (c1, 100, .inr (.inl (fun _ => 0))))]) H := hP
  have hD : va_D A ([(h0, .inr (1, [.int 0, .int 0, .null, .null, .null, .null, .null])), (q1, .inl (c1, 100, .inr (.inl (fun _ => 0))))]) := hD
  refine va_putF (D := D) (ci := 1) (v := .ref q1) (ty := .array .long) (C := RX1) (T := TX1) (N := 7) hx hb hts (fun w h => wm (ui_X1 w h)) tyX1 tyX1_ok nmX1 hown hK hP hD hS 0 rfl rfl 2 (by decide) (hts (.fieldLink RX1 7 "LinkedIndexModel" "keys" "[J") (wm mb_56)) (fun _ h9 => h9) rfl hnm rfl (by decide +kernel) rfl rfl (Nat.le_of_ble_eq_true rfl) dX1_init_9 (fun H locs hP hD hS => ?_)
  have hP : va_P D vwCl ([(h0, .inr (1, [.int 0, .int 0, .ref q1, .null, .null, .null, .null])), (q1, .inl (c1, 100, .inr (.inl (fun _ => 0))))]) H := hP
  have hD : va_D A ([(h0, .inr (1, [.int 0, .int 0, .ref q1, .null, .null, .null, .null])), (q1, .inl (c1, 100, .inr (.inl (fun _ => 0))))]) := hD
  refine lv_aload_n hx hb dX1_init_12 rfl (lv_at hl 0 rfl) ?_
  refine lv_bipush (v := 100) hx hb dX1_init_13 (by decide) ?_
  refine va_newa (atype := .long) (ty := .long) (n := 100) (a0 := (100, .inr (.inl (fun _ => 0)))) (N' := 100) hx hb (hts (.arrayClass .long) (wm mb_109)) rfl hK hP hD hS hA (fun _ => rfl) (by decide) (by decide) (by decide) (by decide) (by decide) dX1_init_15 (fun q2 c2 H hK hP hD hS => ?_)
  have hK : va_K D vwCl [(c1, .long), (c2, .long)] s := hK
  have hP : va_P D vwCl ([(h0, .inr (1, [.int 0, .int 0, .ref q1, .null, .null, .null, .null])), (q1, .inl (c1, 100, .inr (.inl (fun _ => 0)))), (q2, .inl (c2, 100, .inr (.inl (fun _ => 0))))]) H := hP
  have hD : va_D A ([(h0, .inr (1, [.int 0, .int 0, .ref q1, .null, .null, .null, .null])), (q1, .inl (c1, 100, .inr (.inl (fun _ => 0)))), (q2, .inl (c2, 100, .inr (.inl (fun _ => 0))))]) := hD
  refine va_putF (D := D) (ci := 1) (v := .ref q2) (ty := .array .long) (C := RX1) (T := TX1) (N := 7) hx hb hts (fun w h => wm (ui_X1 w h)) tyX1 tyX1_ok nmX1 hown hK hP hD hS 0 rfl rfl 3 (by decide) (hts (.fieldLink RX1 13 "LinkedIndexModel" "values" "[J") (wm mb_57)) (fun _ h9 => h9) rfl hnm rfl (by decide +kernel) rfl rfl (Nat.le_of_ble_eq_true rfl) dX1_init_17 (fun H locs hP hD hS => ?_)
  have hP : va_P D vwCl ([(h0, .inr (1, [.int 0, .int 0, .ref q1, .ref q2, .null, .null, .null])), (q1, .inl (c1, 100, .inr (.inl (fun _ => 0)))), (q2, .inl (c2, 100, .inr (.inl (fun _ => 0))))]) H := hP
  have hD : va_D A ([(h0, .inr (1, [.int 0, .int 0, .ref q1, .ref q2, .null, .null, .null])), (q1, .inl (c1, 100, .inr (.inl (fun _ => 0)))), (q2, .inl (c2, 100, .inr (.inl (fun _ => 0))))]) := hD
  refine lv_aload_n hx hb dX1_init_20 rfl (lv_at hl 0 rfl) ?_
  refine lv_bipush (v := 8) hx hb dX1_init_21 (by decide) ?_
  refine va_newa (atype := .int) (ty := .int) (n := 8) (a0 := (8, .inl (fun _ => 0))) (N' := 8) hx hb (hts (.arrayClass .int) (wm mb_110)) rfl hK hP hD hS hA (fun _ => rfl) (by decide) (by decide) (by decide) (by decide) (by decide) dX1_init_23 (fun q3 c3 H hK hP hD hS => ?_)
  have hK : va_K D vwCl [(c1, .long), (c2, .long), (c3, .int)] s := hK
  have hP : va_P D vwCl ([(h0, .inr (1, [.int 0, .int 0, .ref q1, .ref q2, .null, .null, .null])), (q1, .inl (c1, 100, .inr (.inl (fun _ => 0)))), (q2, .inl (c2, 100, .inr (.inl (fun _ => 0)))), (q3, .inl (c3, 8, .inl (fun _ => 0)))]) H := hP
  have hD : va_D A ([(h0, .inr (1, [.int 0, .int 0, .ref q1, .ref q2, .null, .null, .null])), (q1, .inl (c1, 100, .inr (.inl (fun _ => 0)))), (q2, .inl (c2, 100, .inr (.inl (fun _ => 0)))), (q3, .inl (c3, 8, .inl (fun _ => 0)))]) := hD
  refine va_putF (D := D) (ci := 1) (v := .ref q3) (ty := .array .int) (C := RX1) (T := TX1) (N := 7) hx hb hts (fun w h => wm (ui_X1 w h)) tyX1 tyX1_ok nmX1 hown hK hP hD hS 0 rfl rfl 4 (by decide) (hts (.fieldLink RX1 16 "LinkedIndexModel" "kinds" "[I") (wm mb_52)) (fun _ h9 => h9) rfl hnm rfl (by decide +kernel) rfl rfl (Nat.le_of_ble_eq_true rfl) dX1_init_25 (fun H locs hP hD hS => ?_)
  have hP : va_P D vwCl ([(h0, .inr (1, [.int 0, .int 0, .ref q1, .ref q2, .ref q3, .null, .null])), (q1, .inl (c1, 100, .inr (.inl (fun _ => 0)))), (q2, .inl (c2, 100, .inr (.inl (fun _ => 0)))), (q3, .inl (c3, 8, .inl (fun _ => 0)))]) H := hP
  have hD : va_D A ([(h0, .inr (1, [.int 0, .int 0, .ref q1, .ref q2, .ref q3, .null, .null])), (q1, .inl (c1, 100, .inr (.inl (fun _ => 0)))), (q2, .inl (c2, 100, .inr (.inl (fun _ => 0)))), (q3, .inl (c3, 8, .inl (fun _ => 0)))]) := hD
  refine lv_aload_n hx hb dX1_init_28 rfl (lv_at hl 0 rfl) ?_
  refine lv_bipush (v := 8) hx hb dX1_init_29 (by decide) ?_
  refine va_newa (atype := .long) (ty := .long) (n := 8) (a0 := (8, .inr (.inl (fun _ => 0)))) (N' := 8) hx hb (hts (.arrayClass .long) (wm mb_109)) rfl hK hP hD hS hA (fun _ => rfl) (by decide) (by decide) (by decide) (by decide) (by decide) dX1_init_31 (fun q4 c4 H hK hP hD hS => ?_)
  have hK : va_K D vwCl [(c1, .long), (c2, .long), (c3, .int), (c4, .long)] s := hK
  have hP : va_P D vwCl ([(h0, .inr (1, [.int 0, .int 0, .ref q1, .ref q2, .ref q3, .null, .null])), (q1, .inl (c1, 100, .inr (.inl (fun _ => 0)))), (q2, .inl (c2, 100, .inr (.inl (fun _ => 0)))), (q3, .inl (c3, 8, .inl (fun _ => 0))), (q4, .inl (c4, 8, .inr (.inl (fun _ => 0))))]) H := hP
  have hD : va_D A ([(h0, .inr (1, [.int 0, .int 0, .ref q1, .ref q2, .ref q3, .null, .null])), (q1, .inl (c1, 100, .inr (.inl (fun _ => 0)))), (q2, .inl (c2, 100, .inr (.inl (fun _ => 0)))), (q3, .inl (c3, 8, .inl (fun _ => 0))), (q4, .inl (c4, 8, .inr (.inl (fun _ => 0))))]) := hD
  refine va_putF (D := D) (ci := 1) (v := .ref q4) (ty := .array .long) (C := RX1) (T := TX1) (N := 7) hx hb hts (fun w h => wm (ui_X1 w h)) tyX1 tyX1_ok nmX1 hown hK hP hD hS 0 rfl rfl 5 (by decide) (hts (.fieldLink RX1 20 "LinkedIndexModel" "asked" "[J") (wm mb_53)) (fun _ h9 => h9) rfl hnm rfl (by decide +kernel) rfl rfl (Nat.le_of_ble_eq_true rfl) dX1_init_33 (fun H locs hP hD hS => ?_)
  have hP : va_P D vwCl ([(h0, .inr (1, [.int 0, .int 0, .ref q1, .ref q2, .ref q3, .ref q4, .null])), (q1, .inl (c1, 100, .inr (.inl (fun _ => 0)))), (q2, .inl (c2, 100, .inr (.inl (fun _ => 0)))), (q3, .inl (c3, 8, .inl (fun _ => 0))), (q4, .inl (c4, 8, .inr (.inl (fun _ => 0))))]) H := hP
  have hD : va_D A ([(h0, .inr (1, [.int 0, .int 0, .ref q1, .ref q2, .ref q3, .ref q4, .null])), (q1, .inl (c1, 100, .inr (.inl (fun _ => 0)))), (q2, .inl (c2, 100, .inr (.inl (fun _ => 0)))), (q3, .inl (c3, 8, .inl (fun _ => 0))), (q4, .inl (c4, 8, .inr (.inl (fun _ => 0))))]) := hD
  refine lv_aload_n hx hb dX1_init_36 rfl (lv_at hl 0 rfl) ?_
  refine lv_bipush (v := 8) hx hb dX1_init_37 (by decide) ?_
  refine va_newa (atype := .long) (ty := .long) (n := 8) (a0 := (8, .inr (.inl (fun _ => 0)))) (N' := 8) hx hb (hts (.arrayClass .long) (wm mb_109)) rfl hK hP hD hS hA (fun _ => rfl) (by decide) (by decide) (by decide) (by decide) (by decide) dX1_init_39 (fun q5 c5 H hK hP hD hS => ?_)
  have hK : va_K D vwCl [(c1, .long), (c2, .long), (c3, .int), (c4, .long), (c5, .long)] s := hK
  have hP : va_P D vwCl ([(h0, .inr (1, [.int 0, .int 0, .ref q1, .ref q2, .ref q3, .ref q4, .null])), (q1, .inl (c1, 100, .inr (.inl (fun _ => 0)))), (q2, .inl (c2, 100, .inr (.inl (fun _ => 0)))), (q3, .inl (c3, 8, .inl (fun _ => 0))), (q4, .inl (c4, 8, .inr (.inl (fun _ => 0)))), (q5, .inl (c5, 8, .inr (.inl (fun _ => 0))))]) H := hP
  have hD : va_D A ([(h0, .inr (1, [.int 0, .int 0, .ref q1, .ref q2, .ref q3, .ref q4, .null])), (q1, .inl (c1, 100, .inr (.inl (fun _ => 0)))), (q2, .inl (c2, 100, .inr (.inl (fun _ => 0)))), (q3, .inl (c3, 8, .inl (fun _ => 0))), (q4, .inl (c4, 8, .inr (.inl (fun _ => 0)))), (q5, .inl (c5, 8, .inr (.inl (fun _ => 0))))]) := hD
  refine va_putF (D := D) (ci := 1) (v := .ref q5) (ty := .array .long) (C := RX1) (T := TX1) (N := 7) hx hb hts (fun w h => wm (ui_X1 w h)) tyX1 tyX1_ok nmX1 hown hK hP hD hS 0 rfl rfl 6 (by decide) (hts (.fieldLink RX1 23 "LinkedIndexModel" "given" "[J") (wm mb_54)) (fun _ h9 => h9) rfl hnm rfl (by decide +kernel) rfl rfl (Nat.le_of_ble_eq_true rfl) dX1_init_41 (fun H locs hP hD hS => ?_)
  have hP : va_P D vwCl ([(h0, .inr (1, [.int 0, .int 0, .ref q1, .ref q2, .ref q3, .ref q4, .ref q5])), (q1, .inl (c1, 100, .inr (.inl (fun _ => 0)))), (q2, .inl (c2, 100, .inr (.inl (fun _ => 0)))), (q3, .inl (c3, 8, .inl (fun _ => 0))), (q4, .inl (c4, 8, .inr (.inl (fun _ => 0)))), (q5, .inl (c5, 8, .inr (.inl (fun _ => 0))))]) H := hP
  have hD : va_D A ([(h0, .inr (1, [.int 0, .int 0, .ref q1, .ref q2, .ref q3, .ref q4, .ref q5])), (q1, .inl (c1, 100, .inr (.inl (fun _ => 0)))), (q2, .inl (c2, 100, .inr (.inl (fun _ => 0)))), (q3, .inl (c3, 8, .inl (fun _ => 0))), (q4, .inl (c4, 8, .inr (.inl (fun _ => 0)))), (q5, .inl (c5, 8, .inr (.inl (fun _ => 0))))]) := hD
  refine W.widen (k := 5) (n := 224) (by decide) (by decide) ?_
  exact W.vret hx hb hr (fun t ht hW => ⟨⟨((fun i => match i with | 0 => h0 | 1 => q1 | 2 => q2 | 3 => q3 | 4 => q4 | _ => q5), (fun i => match i with | 0 => c1 | 1 => c1 | 2 => c2 | 3 => c3 | 4 => c4 | _ => c5)), rfl, rfl, ⟨by rw [ht]; exact hP, va_K.moved hW.alike hK, hD⟩⟩, hS.F ht⟩) hS.2.2 dX1_init_44 hlocks
