theorem lw_cmp {L t : Nat} (hL : L ≤ 3584) (ht : 7 * t ≤ L) : (nI L - 7 < nI (7 * t)) ↔ L < 7 * t + 7 := by
  have e := pk_sub_toInt (a := L) (b := 7) (by omega) (by omega)
  have e2 : (nI (7 * t)).toInt = ((7 * t : Nat) : Int) := nI_toInt (by omega)
  have e3 : (nI L - 7).toInt = (L : Int) - 7 := e
  rw [Int32.lt_iff_toInt_lt, e3, e2]
  omega
set_option maxHeartbeats 1000000 in
set_option maxRecDepth 100000 in
theorem law_loop {p : Program} {e : Env} {s : State} {m : MethodId} {below : List Frame} {meth : Method} {c : Code} {l : Launch} {b L : Nat} {xs : Nat → Int32} {D : va_G} {A : Nat → Prop} {a : Nat → Nat} {k : Nat → ClassId} {bb : Nat → Nat} {g : Nat → ClassId} {q : Nat} {z : ClassId} (hl9 : l.stackTraces = false) (hx : p.tables.exec = Jvm.exec) (hb : c.code = cL_law) (hr : meth.sig.returnType = some .boolean) (hml : c.maxLocals = 8) (hlocks : meth.locks = false) (hown : s.vm.findClass RL = some m.cls) (hts : ∀ w ∈ ALL, w.before #[Value.ref b] s = true) (hX : va_X b L xs s s.heap) (hbl : b < s.heap.size) (hbA : ¬ A b) (hK : va_K D vwCl (tX k ++ tM g ++ tO z) s) (hZ : zx A s s.heap) (hA : ∀ q : Nat, s.heap.size ≤ q → A q) (hL : L ≤ 3584) (hAs : ∀ q, A q → s.heap.size ≤ q) : ∀ (f t : Nat), 513 - t < f → 7 * t ≤ L → ∀ (n : Nat) (K V : Nat → Int64) (kd : Nat → Int32) (SK SV : Nat → Int64) (cd : Int32) (o : Nat → Int64) (H : Heap) (locs : List Loc) (ls : Array Slot), inv n K kd → va_P D vwCl (wX a k n K V kd SK SV ++ wM bb g cd n K V (fun i9 => kd i9 + 1) SK SV ++ wO q z o) H → va_D A (wX a k n K V kd SK SV ++ wM bb g cd n K V (fun i9 => kd i9 + 1) SK SV ++ wO q z o) → va_S A s.heap H locs → lv_has ls 8 [(4, .int (nI (7 * t))), (0, .ref b), (1, .ref (a 0)), (2, .ref (bb 0)), (3, .ref q)] → W p l e room_1 s m #[Value.ref b] below meth c H locs (13 + 1 * t) (462 + 6 * t) (lw_Z below #[Value.ref b] s) (F0 m 23 ls []) := by
  intro f
  induction f with
  | zero => intro t h; omega
  | succ f ih =>
    intro t hf ht n K V kd SK SV cd o H locs ls hI hP hD hS hl
    refine lv_iload hx hb dL_law_23 (lv_at hl 0 rfl) ?_
    refine lv_aload_n hx hb dL_law_25 rfl (lv_at hl 1 rfl) ?_
    refine va_slen hx hb hX hbl hbA hS dL_law_26 ?_
    refine xi (y := nI L) rfl ?_
    refine lv_bipush (v := 7) hx hb dL_law_27 (by decide) ?_
    refine lv_isub hx hb dL_law_29 ?_
    refine lv_icmp_gt (tgt := 845) hx hb dL_law_30 (by decide) (fun h1 => ?_) (fun h1 => ?_)
    · skip
      refine lv_iconst (v := 1) hx hb dL_law_845 (by decide) ?_
      refine va_forget (fun q h => hAs _ (hS.2.2 q h)) ?_
      refine W.widen (k := 1045) (n := 8702) (by omega) (by omega) ?_
      exact lw_ret hx hb hr hlocks dL_law_846
    · skip
      have ht7 : 7 * t + 7 ≤ L := Nat.le_of_not_lt (fun q => h1 ((lw_cmp hL ht).mpr q))
      have nx : ∀ (n : Nat) (K V : Nat → Int64) (kd : Nat → Int32) (SK SV : Nat → Int64) (cd : Int32) (o : Nat → Int64) (H : Heap) (locs : List Loc) (ls : Array Slot), inv n K kd → va_P D vwCl (wX a k n K V kd SK SV ++ wM bb g cd n K V (fun i9 => kd i9 + 1) SK SV ++ wO q z o) H → va_D A (wX a k n K V kd SK SV ++ wM bb g cd n K V (fun i9 => kd i9 + 1) SK SV ++ wO q z o) → va_S A s.heap H locs → lv_has ls 8 [(4, .int (nI (7 * t))), (0, .ref b), (1, .ref (a 0)), (2, .ref (bb 0)), (3, .ref q)] → W p l e room_1 s m #[Value.ref b] below meth c H locs (13 + 1 * (t + 1)) (462 + 6 * (t + 1)) (lw_Z below #[Value.ref b] s) (F0 m 839 ls []) := by
        intro n K V kd SK SV cd o H locs ls hI hP hD hS hl
        refine lv_iinc (k := 0) (v := nI (7 * (t + 1))) (lv' := [(4, .int (nI (7 * (t + 1)))), (0, .ref b), (1, .ref (a 0)), (2, .ref (bb 0)), (3, .ref q)]) hx hb dL_law_839 hl rfl (nI_add (7 * t) 7) (by decide) rfl (fun ls hl => ?_)
        refine lv_goto (tgt := 23) hx hb dL_law_842 (by decide) ?_
        exact ih (t + 1) (by omega) (by omega) n K V kd SK SV cd o H locs ls hI hP hD hS hl
      refine lv_aload_n hx hb dL_law_33 rfl (lv_at hl 1 rfl) ?_
      refine lv_iload hx hb dL_law_34 (lv_at hl 0 rfl) ?_
      refine x_sld (j := (7 * t)) hx hb hX hbl hbA hS (by omega) (by omega) dL_law_36 ?_
      refine lv_bipush (v := 15) hx hb dL_law_37 (by decide) ?_
      refine lv_iand hx hb dL_law_39 ?_
      obtain ⟨j, hj, ej⟩ := pk_andE (xs (7 * t)) (m := 15) 4 (by decide)
      refine xi (y := nI j) ej ?_
      have hj : j = 0 ∨ j = 1 ∨ j = 2 ∨ j = 3 ∨ j = 4 ∨ j = 5 ∨ j = 6 ∨ j = 7 ∨ j = 8 ∨ j = 9 ∨ j = 10 ∨ j = 11 ∨ j = 12 ∨ j = 13 ∨ j = 14 ∨ j = 15 := by omega
      rcases hj with rfl | rfl | rfl | rfl | rfl | rfl | rfl | rfl | rfl | rfl | rfl | rfl | rfl | rfl | rfl | rfl
      · refine lv_tableIn (off := 64) (tgt := 104) hx hb dL_law_40 (by decide) (by decide) (by decide) (by decide) ?_
        exact law_0 hl9 hx hb hr hml hlocks hown hts hX hbl hbA hK hZ hA hL t ht7 n K V kd SK SV cd o H locs ls hI hP hD hS hl nx
      · refine lv_tableIn (off := 202) (tgt := 242) hx hb dL_law_40 (by decide) (by decide) (by decide) (by decide) ?_
        exact law_1 hl9 hx hb hr hml hlocks hown hts hX hbl hbA hK hZ hA hL t ht7 n K V kd SK SV cd o H locs ls hI hP hD hS hl nx
      · refine lv_tableIn (off := 250) (tgt := 290) hx hb dL_law_40 (by decide) (by decide) (by decide) (by decide) ?_
        exact law_2 hl9 hx hb hr hml hlocks hown hts hX hbl hbA hK hZ hA hL t ht7 n K V kd SK SV cd o H locs ls hI hP hD hS hl nx
      · refine lv_tableIn (off := 305) (tgt := 345) hx hb dL_law_40 (by decide) (by decide) (by decide) (by decide) ?_
        exact law_3 hl9 hx hb hr hml hlocks hown hts hX hbl hbA hK hZ hA hL t ht7 n K V kd SK SV cd o H locs ls hI hP hD hS hl nx
      · refine lv_tableIn (off := 368) (tgt := 408) hx hb dL_law_40 (by decide) (by decide) (by decide) (by decide) ?_
        exact law_4 hl9 hx hb hr hml hlocks hown hts hX hbl hbA hK hZ hA hL t ht7 n K V kd SK SV cd o H locs ls hI hP hD hS hl nx
      · refine lv_tableIn (off := 404) (tgt := 444) hx hb dL_law_40 (by decide) (by decide) (by decide) (by decide) ?_
        exact law_5 hl9 hx hb hr hml hlocks hown hts hX hbl hbA hK hZ hA hL t ht7 n K V kd SK SV cd o H locs ls hI hP hD hS hl nx
      · refine lv_tableIn (off := 417) (tgt := 457) hx hb dL_law_40 (by decide) (by decide) (by decide) (by decide) ?_
        exact law_6 hl9 hx hb hr hml hlocks hown hts hX hbl hbA hK hZ hA hL t ht7 n K V kd SK SV cd o H locs ls hI hP hD hS hl nx
      · refine lv_tableIn (off := 473) (tgt := 513) hx hb dL_law_40 (by decide) (by decide) (by decide) (by decide) ?_
        exact law_7 hl9 hx hb hr hml hlocks hown hts hX hbl hbA hK hZ hA hL t ht7 n K V kd SK SV cd o H locs ls hI hP hD hS hl nx
      · refine lv_tableIn (off := 486) (tgt := 526) hx hb dL_law_40 (by decide) (by decide) (by decide) (by decide) ?_
        exact law_8 hl9 hx hb hr hml hlocks hown hts hX hbl hbA hK hZ hA hL t ht7 n K V kd SK SV cd o H locs ls hI hP hD hS hl nx
      · refine lv_tableIn (off := 541) (tgt := 581) hx hb dL_law_40 (by decide) (by decide) (by decide) (by decide) ?_
        exact law_9 hl9 hx hb hr hml hlocks hown hts hX hbl hbA hK hZ hA hL t ht7 n K V kd SK SV cd o H locs ls hI hP hD hS hl nx
      · refine lv_tableIn (off := 596) (tgt := 636) hx hb dL_law_40 (by decide) (by decide) (by decide) (by decide) ?_
        exact law_10 hl9 hx hb hr hml hlocks hown hts hX hbl hbA hK hZ hA hL t ht7 n K V kd SK SV cd o H locs ls hI hP hD hS hl nx
      · refine lv_tableIn (off := 697) (tgt := 737) hx hb dL_law_40 (by decide) (by decide) (by decide) (by decide) ?_
        exact law_11 hl9 hx hb hr hml hlocks hown hts hX hbl hbA hK hZ hA hL t ht7 n K V kd SK SV cd o H locs ls hI hP hD hS hl nx
      · refine lv_tableOut (tgt := 839) hx hb dL_law_40 (by decide) (by decide) ?_
        refine W.widen (k := 13 + 1 * (t + 1)) (n := 462 + 6 * (t + 1)) (by omega) (by omega) ?_
        exact nx n K V kd SK SV cd o H locs ls hI hP hD hS hl
      · refine lv_tableOut (tgt := 839) hx hb dL_law_40 (by decide) (by decide) ?_
        refine W.widen (k := 13 + 1 * (t + 1)) (n := 462 + 6 * (t + 1)) (by omega) (by omega) ?_
        exact nx n K V kd SK SV cd o H locs ls hI hP hD hS hl
      · refine lv_tableOut (tgt := 839) hx hb dL_law_40 (by decide) (by decide) ?_
        refine W.widen (k := 13 + 1 * (t + 1)) (n := 462 + 6 * (t + 1)) (by omega) (by omega) ?_
        exact nx n K V kd SK SV cd o H locs ls hI hP hD hS hl
      · refine lv_tableOut (tgt := 839) hx hb dL_law_40 (by decide) (by decide) ?_
        refine W.widen (k := 13 + 1 * (t + 1)) (n := 462 + 6 * (t + 1)) (by omega) (by omega) ?_
        exact nx n K V kd SK SV cd o H locs ls hI hP hD hS hl
