set_option maxHeartbeats 1000000 in
set_option maxRecDepth 100000 in
theorem m_finish (l : Launch) (hl9 : l.stackTraces = false) (D : va_G) (b : Nat → Nat) (g : Nat → ClassId) (cd : Int32) (n : Nat) (K V : Nat → Int64) (kd : Nat → Int32) (SK SV : Nat → Int64) (slot : Int32) (sz : Nat) (hn : n ≤ 100) (hk : ∀ j, j < 8 → kOk (kd j)) : Met l yX1_finish wsX1_finish ({ frames := 1, cells := 0, slots := 0, locals := 40 }) (cP D (tM g) (wM b g cd n K V (fun i9 => kd i9 + 1) SK SV) [.ref (b 0), .int slot] sz) (cQl D (tM g) (fun v => (fin n K V kd SK SV slot).1 = 0 → v = (fin n K V kd SK SV slot).2.1) (wM b g ((fin n K V kd SK SV slot).1) ((fin n K V kd SK SV slot).2.2.1) ((fin n K V kd SK SV slot).2.2.2.1) ((fin n K V kd SK SV slot).2.2.2.2.1) (fun i9 => (fin n K V kd SK SV slot).2.2.2.2.2 i9 + 1) SK SV) (va_A (wM b g cd n K V (fun i9 => kd i9 + 1) SK SV) sz)) 0 0 (va_A (wM b g cd n K V (fun i9 => kd i9 + 1) SK SV) sz) := by
  refine mk_n (cc := cX1_finish) (maxL := 8) (ret := (some .long)) (fun A => cQl D (tM g) (fun v => (fin n K V kd SK SV slot).1 = 0 → v = (fin n K V kd SK SV slot).2.1) (wM b g ((fin n K V kd SK SV slot).1) ((fin n K V kd SK SV slot).2.2.1) ((fin n K V kd SK SV slot).2.2.2.1) ((fin n K V kd SK SV slot).2.2.2.2.1) (fun i9 => (fin n K V kd SK SV slot).2.2.2.2.2 i9 + 1) SK SV) A) (by decide) rfl (Nat.le_of_ble_eq_true rfl) ?_
  intro p e s m below meth c ls A hx hb hr hml hlocks hnm hown hts hP hK hD hZ hA hS hl
  have hown : s.vm.findClass RX1 = some m.cls := hown
  have hl : lv_has ls 8 [(0, .ref (b 0)), (1, .int slot)] := hl
  refine lv_aload_n hx hb dX1_finish_0 rfl (lv_at hl 0 rfl) ?_
  refine lv_iload_n hx hb dX1_finish_1 rfl (lv_at hl 1 rfl) ?_
  refine kn_i (wc := []) (wr := (wM b g cd n K V (fun i9 => kd i9 + 1) SK SV)) (w1 := []) (va_runS (As := [.int slot]) (rest := [.ref (b 0)]) ⟨hx, hb, hml, hown, hts⟩ (m_isSlot l hl9 D slot s.heap.size) (va_cwS 1 hts (gd_up (gd_S mb_48 mb_49 mb_50 mb_51)) rfl rfl rfl (by decide +kernel) ⟨by decide, by decide⟩) ⟨cP_blind, cPre hP hD hK hS hA hZ [] rfl (by decide) [] rfl⟩ rfl rfl hl.1 rfl (lv_room (Nat.le_of_ble_eq_true rfl)) dX1_finish_2 ⟨by decide, by decide⟩) hP hD hS hA [] [0, 1, 2, 3, 4, 5] rfl rfl (by decide) (by decide) (fun r9 H locs hp hP hD hS => ?_)
  have hP : va_P D vwCl (wM b g cd n K V (fun i9 => kd i9 + 1) SK SV) H := hP
  have hD : va_D A (wM b g cd n K V (fun i9 => kd i9 + 1) SK SV) := hD
  by_cases hs : okS slot
  · skip
    rw [if_pos hs] at hp
    subst hp
    refine lv_if_ne (tgt := 12) hx hb dX1_finish_5 (by decide) (fun h0 => ?_) (fun h0 => ?_)
    · skip
      obtain ⟨j, hj, rfl⟩ := okS_of hs
      rcases hk j hj with ek | ek | ek | ek | ek
      · skip
        refine lv_aload_n hx hb dX1_finish_12 rfl (lv_at hl 0 rfl) ?_
        refine va_get (D := D) (ci := 1) (v := .ref (b 3)) (C := RX1) (T := TX1) (N := 7) hx hb hts (fun w h => wm (ui_X1 w h)) hown hK hP 0 rfl rfl 4 (by decide) (hts (.fieldLink RX1 16 "LinkedIndexModel" "kinds" "[I") (wm mb_52)) (fun _ h9 => h9) rfl dX1_finish_13 ?_
        refine lv_iload_n hx hb dX1_finish_16 rfl (lv_at hl 1 rfl) ?_
        refine x_iald (j := j) hx hb hK hP 3 2 rfl rfl (by omega) (by decide) dX1_finish_17 ?_
        refine xi (y := 0) ((congrArg (fun z : Int32 => z + 1) ek).trans (by decide)) ?_
        refine lv_if_ne (tgt := 25) hx hb dX1_finish_18 (by decide) (fun h7 => ?_) (fun h7 => ?_)
        · skip
          first | exact absurd h7 (by decide) | exact (h7 rfl).elim
        · skip
          refine lv_iconst (v := 2) hx hb dX1_finish_21 (by decide) ?_
          refine lv_goto (tgt := 26) hx hb dX1_finish_22 (by decide) ?_
          refine va_put (D := D) (ci := 1) (v := .int 2) (ty := .int) (C := RX1) (T := TX1) (N := 7) hx hb hts (fun w h => wm (ui_X1 w h)) tyX1 tyX1_ok nmX1 hown hK hP hD hS 0 rfl rfl 0 (by decide) (hts (.fieldLink RX1 26 "LinkedIndexModel" "code" "I") (wm mb_47)) (fun _ h9 => h9) rfl (by decide +kernel) rfl rfl (Nat.le_of_ble_eq_true rfl) dX1_finish_26 (fun H locs hP hD hS => ?_)
          have hP : va_P D vwCl (wM b g 2 n K V (fun i9 => kd i9 + 1) SK SV) H := hP
          have hD : va_D A (wM b g 2 n K V (fun i9 => kd i9 + 1) SK SV) := hD
          refine lv_aload_n hx hb dX1_finish_29 rfl (lv_at hl 0 rfl) ?_
          refine va_get (D := D) (ci := 1) (v := .int 2) (C := RX1) (T := TX1) (N := 7) hx hb hts (fun w h => wm (ui_X1 w h)) hown hK hP 0 rfl rfl 0 (by decide) (hts (.fieldLink RX1 26 "LinkedIndexModel" "code" "I") (wm mb_47)) (fun _ h9 => h9) rfl dX1_finish_30 ?_
          refine lv_if_le (tgt := 38) hx hb dX1_finish_33 (by decide) (fun h7 => ?_) (fun h7 => ?_)
          · skip
            first | exact absurd h7 (by decide) | exact (h7 rfl).elim
          · skip
            refine lv_lconst (v := 0) hx hb dX1_finish_36 (by decide) ?_
            have hf : fin n K V kd SK SV (nI j) = (2, 0, n, K, V, kd) := by
              unfold fin
              rw [ix_n hj, if_pos (okS_n hj), if_pos ek]
            rw [hf]
            exact fn_l hx hb hr hlocks (by decide) (by decide) (fun q => absurd (show (2 : Int32) = 0 from q) (by decide)) hP hK hD hS dX1_finish_37
      · skip
        refine lv_aload_n hx hb dX1_finish_12 rfl (lv_at hl 0 rfl) ?_
        refine va_get (D := D) (ci := 1) (v := .ref (b 3)) (C := RX1) (T := TX1) (N := 7) hx hb hts (fun w h => wm (ui_X1 w h)) hown hK hP 0 rfl rfl 4 (by decide) (hts (.fieldLink RX1 16 "LinkedIndexModel" "kinds" "[I") (wm mb_52)) (fun _ h9 => h9) rfl dX1_finish_13 ?_
        refine lv_iload_n hx hb dX1_finish_16 rfl (lv_at hl 1 rfl) ?_
        refine x_iald (j := j) hx hb hK hP 3 2 rfl rfl (by omega) (by decide) dX1_finish_17 ?_
        refine xi (y := 1) ((congrArg (fun z : Int32 => z + 1) ek).trans (by decide)) ?_
        refine lv_if_ne (tgt := 25) hx hb dX1_finish_18 (by decide) (fun h7 => ?_) (fun h7 => ?_)
        · skip
          refine lv_iconst (v := 0) hx hb dX1_finish_25 (by decide) ?_
          refine va_put (D := D) (ci := 1) (v := .int 0) (ty := .int) (C := RX1) (T := TX1) (N := 7) hx hb hts (fun w h => wm (ui_X1 w h)) tyX1 tyX1_ok nmX1 hown hK hP hD hS 0 rfl rfl 0 (by decide) (hts (.fieldLink RX1 26 "LinkedIndexModel" "code" "I") (wm mb_47)) (fun _ h9 => h9) rfl (by decide +kernel) rfl rfl (Nat.le_of_ble_eq_true rfl) dX1_finish_26 (fun H locs hP hD hS => ?_)
          have hP : va_P D vwCl (wM b g 0 n K V (fun i9 => kd i9 + 1) SK SV) H := hP
          have hD : va_D A (wM b g 0 n K V (fun i9 => kd i9 + 1) SK SV) := hD
          refine lv_aload_n hx hb dX1_finish_29 rfl (lv_at hl 0 rfl) ?_
          refine va_get (D := D) (ci := 1) (v := .int 0) (C := RX1) (T := TX1) (N := 7) hx hb hts (fun w h => wm (ui_X1 w h)) hown hK hP 0 rfl rfl 0 (by decide) (hts (.fieldLink RX1 26 "LinkedIndexModel" "code" "I") (wm mb_47)) (fun _ h9 => h9) rfl dX1_finish_30 ?_
          refine lv_if_le (tgt := 38) hx hb dX1_finish_33 (by decide) (fun h7 => ?_) (fun h7 => ?_)
          · skip
            refine lv_aload_n hx hb dX1_finish_38 rfl (lv_at hl 0 rfl) ?_
            refine va_get (D := D) (ci := 1) (v := .ref (b 3)) (C := RX1) (T := TX1) (N := 7) hx hb hts (fun w h => wm (ui_X1 w h)) hown hK hP 0 rfl rfl 4 (by decide) (hts (.fieldLink RX1 16 "LinkedIndexModel" "kinds" "[I") (wm mb_52)) (fun _ h9 => h9) rfl dX1_finish_39 ?_
            refine lv_iload_n hx hb dX1_finish_42 rfl (lv_at hl 1 rfl) ?_
            refine x_iald (j := j) hx hb hK hP 3 2 rfl rfl (by omega) (by decide) dX1_finish_43 ?_
            refine lv_iconst (v := 1) hx hb dX1_finish_44 (by decide) ?_
            refine lv_isub hx hb dX1_finish_45 ?_
            refine xi (y := 0) ((congrArg (fun z : Int32 => z + 1 - 1) ek).trans (by decide)) ?_
            refine lv_istore_n (lv' := [(2, .int 0), (0, .ref (b 0)), (1, .int (nI j))]) hx hb dX1_finish_46 rfl hl (by decide) rfl (fun ls hl => ?_)
            refine lv_aload_n hx hb dX1_finish_47 rfl (lv_at hl 1 rfl) ?_
            refine va_get (D := D) (ci := 1) (v := .ref (b 4)) (C := RX1) (T := TX1) (N := 7) hx hb hts (fun w h => wm (ui_X1 w h)) hown hK hP 0 rfl rfl 5 (by decide) (hts (.fieldLink RX1 20 "LinkedIndexModel" "asked" "[J") (wm mb_53)) (fun _ h9 => h9) rfl dX1_finish_48 ?_
            refine lv_iload_n hx hb dX1_finish_51 rfl (lv_at hl 2 rfl) ?_
            refine x_lald (j := j) hx hb hK hP 4 3 rfl rfl (by omega) (by decide) dX1_finish_52 ?_
            refine lv_lstore_n (lv' := [(3, .long (SK j)), (2, .int 0), (0, .ref (b 0)), (1, .int (nI j))]) hx hb dX1_finish_53 rfl hl (by decide) rfl (fun ls hl => ?_)
            refine lv_aload_n hx hb dX1_finish_54 rfl (lv_at hl 2 rfl) ?_
            refine lv_lload_n hx hb dX1_finish_55 rfl (lv_at hl 0 rfl) ?_
            refine kn_i (wc := (wM b g 0 n K V (fun i9 => kd i9 + 1) SK SV)) (wr := []) (w1 := (wM b g 0 n K V (fun i9 => kd i9 + 1) SK SV)) (va_runV (As := [.long (SK j)]) (rest := []) ⟨hx, hb, hml, hown, hts⟩ (m_rank l hl9 D b g 0 n K V kd SK SV (SK j) H.size hn) (cwV 1 hts (gd_up (gd_V mb_58 mb_59 mb_60 mb_50 mb_61)) rfl rfl rfl (by decide +kernel) ⟨by decide, by decide⟩) ⟨cP_blind, va_recv (q0 := 0) (ci := 1) (q := (RX1, TX1, 7)) hK hP rfl rfl, cPre hP hD hK hS hA hZ [0, 1, 2, 3, 4, 5] rfl (by decide) [0, 1, 2, 3, 4] rfl⟩ rfl rfl hl.1 rfl (lv_room (Nat.le_of_ble_eq_true rfl)) dX1_finish_56 ⟨by decide, by decide⟩) hP hD hS hA [0, 1, 2, 3, 4, 5] [] rfl rfl (by decide) (by decide) (fun r9 H locs hp hP hD hS => ?_)
            have hP : va_P D vwCl (wM b g 0 n K V (fun i9 => kd i9 + 1) SK SV) H := hP
            have hD : va_D A (wM b g 0 n K V (fun i9 => kd i9 + 1) SK SV) := hD
            have hle := rk_le K (SK j) n
            obtain ⟨r, hr0⟩ : ∃ r, r = rk K (SK j) n := ⟨_, rfl⟩
            rw [← hr0] at hp hle
            subst hp
            refine lv_istore (lv' := [(5, .int (nI r)), (3, .long (SK j)), (2, .int 0), (0, .ref (b 0)), (1, .int (nI j))]) hx hb dX1_finish_59 hl (by decide) rfl (fun ls hl => ?_)
            refine lv_iload hx hb dX1_finish_61 (lv_at hl 0 rfl) ?_
            refine lv_aload_n hx hb dX1_finish_63 rfl (lv_at hl 3 rfl) ?_
            refine va_get (D := D) (ci := 1) (v := .int (nI n)) (C := RX1) (T := TX1) (N := 7) hx hb hts (fun w h => wm (ui_X1 w h)) hown hK hP 0 rfl rfl 1 (by decide) (hts (.fieldLink RX1 34 "LinkedIndexModel" "size" "I") (wm mb_55)) (fun _ h9 => h9) rfl dX1_finish_64 ?_
            refine lv_icmp_ge (tgt := 86) hx hb dX1_finish_67 (by decide) (fun h8 => ?_) (fun h8 => ?_)
            · skip
              have h3 : ¬ r < n := fun q => absurd ((nI_leI (by omega) (by omega)).mp h8) (by omega)
              have h4 : ¬ atR K n (SK j) r := fun q => h3 q.1
              refine lv_iconst (v := 0) hx hb dX1_finish_86 (by decide) ?_
              refine lv_istore (lv' := [(6, .int 0), (5, .int (nI r)), (3, .long (SK j)), (2, .int 0), (0, .ref (b 0)), (1, .int (nI j))]) hx hb dX1_finish_87 hl (by decide) rfl (fun ls hl => ?_)
              refine lv_iload_n hx hb dX1_finish_89 rfl (lv_at hl 3 rfl) ?_
              refine lv_iconst (v := 1) hx hb dX1_finish_90 (by decide) ?_
              refine lv_icmp_ne (tgt := 115) hx hb dX1_finish_91 (by decide) (fun h7 => ?_) (fun h7 => ?_)
              · skip
                refine lv_aload_n hx hb dX1_finish_115 rfl (lv_at hl 4 rfl) ?_
                refine va_get (D := D) (ci := 1) (v := .ref (b 3)) (C := RX1) (T := TX1) (N := 7) hx hb hts (fun w h => wm (ui_X1 w h)) hown hK hP 0 rfl rfl 4 (by decide) (hts (.fieldLink RX1 16 "LinkedIndexModel" "kinds" "[I") (wm mb_52)) (fun _ h9 => h9) rfl dX1_finish_116 ?_
                refine lv_iload_n hx hb dX1_finish_119 rfl (lv_at hl 5 rfl) ?_
                refine lv_iconst (v := 0) hx hb dX1_finish_120 (by decide) ?_
                refine x_iast (j := j) hx hb hK hP hD hS 3 2 rfl rfl (by omega) (by decide) dX1_finish_121 (fun H locs hP hD hS => ?_)
                have hP : va_P D vwCl (wM b g 0 n K V (upd (fun i9 => kd i9 + 1) j 0) SK SV) H := hP
                have hD : va_D A (wM b g 0 n K V (upd (fun i9 => kd i9 + 1) j 0) SK SV) := hD
                rw [upd_0] at hP hD
                refine lv_iload_n hx hb dX1_finish_122 rfl (lv_at hl 3 rfl) ?_
                refine lv_iconst (v := 3) hx hb dX1_finish_123 (by decide) ?_
                refine lv_icmp_ne (tgt := 144) hx hb dX1_finish_124 (by decide) (fun h7 => ?_) (fun h7 => ?_)
                · skip
                  refine lv_iload_n hx hb dX1_finish_144 rfl (lv_at hl 3 rfl) ?_
                  refine lv_iconst (v := 1) hx hb dX1_finish_145 (by decide) ?_
                  refine lv_icmp_eq (tgt := 158) hx hb dX1_finish_146 (by decide) (fun h7 => ?_) (fun h7 => ?_)
                  · skip
                    first | exact absurd h7 (by decide) | exact (h7 rfl).elim
                  · skip
                    refine lv_iload hx hb dX1_finish_149 (lv_at hl 0 rfl) ?_
                    refine lv_if_ne (tgt := 158) hx hb dX1_finish_151 (by decide) (fun h7 => ?_) (fun h7 => ?_)
                    · skip
                      first | exact absurd h7 (by decide) | exact (h7 rfl).elim
                    · skip
                      refine lv_iconst (v := 1) hx hb dX1_finish_154 (by decide) ?_
                      refine lv_goto (tgt := 159) hx hb dX1_finish_155 (by decide) ?_
                      refine lv_istore (lv' := [(7, .int 1), (6, .int 0), (5, .int (nI r)), (3, .long (SK j)), (2, .int 0), (0, .ref (b 0)), (1, .int (nI j))]) hx hb dX1_finish_159 hl (by decide) rfl (fun ls hl => ?_)
                      refine lv_iload hx hb dX1_finish_161 (lv_at hl 0 rfl) ?_
                      refine lv_if_eq (tgt := 173) hx hb dX1_finish_163 (by decide) (fun h7 => ?_) (fun h7 => ?_)
                      · skip
                        first | exact absurd h7 (by decide) | exact (h7 rfl).elim
                      · skip
                        refine lv_aload_n hx hb dX1_finish_166 rfl (lv_at hl 5 rfl) ?_
                        refine lv_iconst (v := 3) hx hb dX1_finish_167 (by decide) ?_
                        refine va_put (D := D) (ci := 1) (v := .int 3) (ty := .int) (C := RX1) (T := TX1) (N := 7) hx hb hts (fun w h => wm (ui_X1 w h)) tyX1 tyX1_ok nmX1 hown hK hP hD hS 0 rfl rfl 0 (by decide) (hts (.fieldLink RX1 26 "LinkedIndexModel" "code" "I") (wm mb_47)) (fun _ h9 => h9) rfl (by decide +kernel) rfl rfl (Nat.le_of_ble_eq_true rfl) dX1_finish_168 (fun H locs hP hD hS => ?_)
                        have hP : va_P D vwCl (wM b g 3 n K V (fun i9 => upd kd j (-1) i9 + 1) SK SV) H := hP
                        have hD : va_D A (wM b g 3 n K V (fun i9 => upd kd j (-1) i9 + 1) SK SV) := hD
                        refine lv_lconst (v := 0) hx hb dX1_finish_171 (by decide) ?_
                        have hf : fin n K V kd SK SV (nI j) = (3, 0, n, K, V, upd kd j (-1)) := by
                          unfold fin
                          rw [ix_n hj, ← hr0, if_pos (okS_n hj), if_neg (show ¬ kd j = -1 by rw [ek]; decide), if_neg (show ¬ kd j = 1 by rw [ek]; decide), if_neg (show ¬ kd j = 3 by rw [ek]; decide), if_neg h4]
                        rw [hf]
                        exact fn_l hx hb hr hlocks (by decide) (by decide) (fun q => absurd (show (3 : Int32) = 0 from q) (by decide)) hP hK hD hS dX1_finish_172
                · skip
                  first | exact absurd h7 (by decide) | exact (h7 rfl).elim
              · skip
                first | exact absurd h7 (by decide) | exact (h7 rfl).elim
            · skip
              have h3 : r < n := Nat.lt_of_not_le (fun q => h8 ((nI_leI (by omega) (by omega)).mpr q))
              refine lv_aload_n hx hb dX1_finish_70 rfl (lv_at hl 3 rfl) ?_
              refine va_get (D := D) (ci := 1) (v := .ref (b 1)) (C := RX1) (T := TX1) (N := 7) hx hb hts (fun w h => wm (ui_X1 w h)) hown hK hP 0 rfl rfl 2 (by decide) (hts (.fieldLink RX1 7 "LinkedIndexModel" "keys" "[J") (wm mb_56)) (fun _ h9 => h9) rfl dX1_finish_71 ?_
              refine lv_iload hx hb dX1_finish_74 (lv_at hl 0 rfl) ?_
              refine x_lald (j := r) hx hb hK hP 1 0 rfl rfl (by omega) (by decide) dX1_finish_76 ?_
              refine lv_lload_n hx hb dX1_finish_77 rfl (lv_at hl 1 rfl) ?_
              refine W.lcmp hx hb dX1_finish_78 ?_
              refine lv_if_ne (tgt := 86) hx hb dX1_finish_79 (by decide) (fun h8 => ?_) (fun h8 => ?_)
              · skip
                have h4 : ¬ atR K n (SK j) r := fun q => h8 ((lg_cmp_eq _ _).mpr q.2)
                refine lv_iconst (v := 0) hx hb dX1_finish_86 (by decide) ?_
                refine lv_istore (lv' := [(6, .int 0), (5, .int (nI r)), (3, .long (SK j)), (2, .int 0), (0, .ref (b 0)), (1, .int (nI j))]) hx hb dX1_finish_87 hl (by decide) rfl (fun ls hl => ?_)
                refine lv_iload_n hx hb dX1_finish_89 rfl (lv_at hl 3 rfl) ?_
                refine lv_iconst (v := 1) hx hb dX1_finish_90 (by decide) ?_
                refine lv_icmp_ne (tgt := 115) hx hb dX1_finish_91 (by decide) (fun h7 => ?_) (fun h7 => ?_)
                · skip
                  refine lv_aload_n hx hb dX1_finish_115 rfl (lv_at hl 4 rfl) ?_
                  refine va_get (D := D) (ci := 1) (v := .ref (b 3)) (C := RX1) (T := TX1) (N := 7) hx hb hts (fun w h => wm (ui_X1 w h)) hown hK hP 0 rfl rfl 4 (by decide) (hts (.fieldLink RX1 16 "LinkedIndexModel" "kinds" "[I") (wm mb_52)) (fun _ h9 => h9) rfl dX1_finish_116 ?_
                  refine lv_iload_n hx hb dX1_finish_119 rfl (lv_at hl 5 rfl) ?_
                  refine lv_iconst (v := 0) hx hb dX1_finish_120 (by decide) ?_
                  refine x_iast (j := j) hx hb hK hP hD hS 3 2 rfl rfl (by omega) (by decide) dX1_finish_121 (fun H locs hP hD hS => ?_)
                  have hP : va_P D vwCl (wM b g 0 n K V (upd (fun i9 => kd i9 + 1) j 0) SK SV) H := hP
                  have hD : va_D A (wM b g 0 n K V (upd (fun i9 => kd i9 + 1) j 0) SK SV) := hD
                  rw [upd_0] at hP hD
                  refine lv_iload_n hx hb dX1_finish_122 rfl (lv_at hl 3 rfl) ?_
                  refine lv_iconst (v := 3) hx hb dX1_finish_123 (by decide) ?_
                  refine lv_icmp_ne (tgt := 144) hx hb dX1_finish_124 (by decide) (fun h7 => ?_) (fun h7 => ?_)
                  · skip
                    refine lv_iload_n hx hb dX1_finish_144 rfl (lv_at hl 3 rfl) ?_
                    refine lv_iconst (v := 1) hx hb dX1_finish_145 (by decide) ?_
                    refine lv_icmp_eq (tgt := 158) hx hb dX1_finish_146 (by decide) (fun h7 => ?_) (fun h7 => ?_)
                    · skip
                      first | exact absurd h7 (by decide) | exact (h7 rfl).elim
                    · skip
                      refine lv_iload hx hb dX1_finish_149 (lv_at hl 0 rfl) ?_
                      refine lv_if_ne (tgt := 158) hx hb dX1_finish_151 (by decide) (fun h7 => ?_) (fun h7 => ?_)
                      · skip
                        first | exact absurd h7 (by decide) | exact (h7 rfl).elim
                      · skip
                        refine lv_iconst (v := 1) hx hb dX1_finish_154 (by decide) ?_
                        refine lv_goto (tgt := 159) hx hb dX1_finish_155 (by decide) ?_
                        refine lv_istore (lv' := [(7, .int 1), (6, .int 0), (5, .int (nI r)), (3, .long (SK j)), (2, .int 0), (0, .ref (b 0)), (1, .int (nI j))]) hx hb dX1_finish_159 hl (by decide) rfl (fun ls hl => ?_)
                        refine lv_iload hx hb dX1_finish_161 (lv_at hl 0 rfl) ?_
                        refine lv_if_eq (tgt := 173) hx hb dX1_finish_163 (by decide) (fun h7 => ?_) (fun h7 => ?_)
                        · skip
                          first | exact absurd h7 (by decide) | exact (h7 rfl).elim
                        · skip
                          refine lv_aload_n hx hb dX1_finish_166 rfl (lv_at hl 5 rfl) ?_
                          refine lv_iconst (v := 3) hx hb dX1_finish_167 (by decide) ?_
                          refine va_put (D := D) (ci := 1) (v := .int 3) (ty := .int) (C := RX1) (T := TX1) (N := 7) hx hb hts (fun w h => wm (ui_X1 w h)) tyX1 tyX1_ok nmX1 hown hK hP hD hS 0 rfl rfl 0 (by decide) (hts (.fieldLink RX1 26 "LinkedIndexModel" "code" "I") (wm mb_47)) (fun _ h9 => h9) rfl (by decide +kernel) rfl rfl (Nat.le_of_ble_eq_true rfl) dX1_finish_168 (fun H locs hP hD hS => ?_)
                          have hP : va_P D vwCl (wM b g 3 n K V (fun i9 => upd kd j (-1) i9 + 1) SK SV) H := hP
                          have hD : va_D A (wM b g 3 n K V (fun i9 => upd kd j (-1) i9 + 1) SK SV) := hD
                          refine lv_lconst (v := 0) hx hb dX1_finish_171 (by decide) ?_
                          have hf : fin n K V kd SK SV (nI j) = (3, 0, n, K, V, upd kd j (-1)) := by
                            unfold fin
                            rw [ix_n hj, ← hr0, if_pos (okS_n hj), if_neg (show ¬ kd j = -1 by rw [ek]; decide), if_neg (show ¬ kd j = 1 by rw [ek]; decide), if_neg (show ¬ kd j = 3 by rw [ek]; decide), if_neg h4]
                          rw [hf]
                          exact fn_l hx hb hr hlocks (by decide) (by decide) (fun q => absurd (show (3 : Int32) = 0 from q) (by decide)) hP hK hD hS dX1_finish_172
                  · skip
                    first | exact absurd h7 (by decide) | exact (h7 rfl).elim
                · skip
                  first | exact absurd h7 (by decide) | exact (h7 rfl).elim
              · skip
                have h4 : atR K n (SK j) r := ⟨h3, (lg_cmp_eq _ _).mp h8⟩
                refine lv_iconst (v := 1) hx hb dX1_finish_82 (by decide) ?_
                refine lv_goto (tgt := 87) hx hb dX1_finish_83 (by decide) ?_
                refine lv_istore (lv' := [(6, .int 1), (5, .int (nI r)), (3, .long (SK j)), (2, .int 0), (0, .ref (b 0)), (1, .int (nI j))]) hx hb dX1_finish_87 hl (by decide) rfl (fun ls hl => ?_)
                refine lv_iload_n hx hb dX1_finish_89 rfl (lv_at hl 3 rfl) ?_
                refine lv_iconst (v := 1) hx hb dX1_finish_90 (by decide) ?_
                refine lv_icmp_ne (tgt := 115) hx hb dX1_finish_91 (by decide) (fun h7 => ?_) (fun h7 => ?_)
                · skip
                  refine lv_aload_n hx hb dX1_finish_115 rfl (lv_at hl 4 rfl) ?_
                  refine va_get (D := D) (ci := 1) (v := .ref (b 3)) (C := RX1) (T := TX1) (N := 7) hx hb hts (fun w h => wm (ui_X1 w h)) hown hK hP 0 rfl rfl 4 (by decide) (hts (.fieldLink RX1 16 "LinkedIndexModel" "kinds" "[I") (wm mb_52)) (fun _ h9 => h9) rfl dX1_finish_116 ?_
                  refine lv_iload_n hx hb dX1_finish_119 rfl (lv_at hl 5 rfl) ?_
                  refine lv_iconst (v := 0) hx hb dX1_finish_120 (by decide) ?_
                  refine x_iast (j := j) hx hb hK hP hD hS 3 2 rfl rfl (by omega) (by decide) dX1_finish_121 (fun H locs hP hD hS => ?_)
                  have hP : va_P D vwCl (wM b g 0 n K V (upd (fun i9 => kd i9 + 1) j 0) SK SV) H := hP
                  have hD : va_D A (wM b g 0 n K V (upd (fun i9 => kd i9 + 1) j 0) SK SV) := hD
                  rw [upd_0] at hP hD
                  refine lv_iload_n hx hb dX1_finish_122 rfl (lv_at hl 3 rfl) ?_
                  refine lv_iconst (v := 3) hx hb dX1_finish_123 (by decide) ?_
                  refine lv_icmp_ne (tgt := 144) hx hb dX1_finish_124 (by decide) (fun h7 => ?_) (fun h7 => ?_)
                  · skip
                    refine lv_iload_n hx hb dX1_finish_144 rfl (lv_at hl 3 rfl) ?_
                    refine lv_iconst (v := 1) hx hb dX1_finish_145 (by decide) ?_
                    refine lv_icmp_eq (tgt := 158) hx hb dX1_finish_146 (by decide) (fun h7 => ?_) (fun h7 => ?_)
                    · skip
                      first | exact absurd h7 (by decide) | exact (h7 rfl).elim
                    · skip
                      refine lv_iload hx hb dX1_finish_149 (lv_at hl 0 rfl) ?_
                      refine lv_if_ne (tgt := 158) hx hb dX1_finish_151 (by decide) (fun h7 => ?_) (fun h7 => ?_)
                      · skip
                        refine lv_iconst (v := 0) hx hb dX1_finish_158 (by decide) ?_
                        refine lv_istore (lv' := [(7, .int 0), (6, .int 1), (5, .int (nI r)), (3, .long (SK j)), (2, .int 0), (0, .ref (b 0)), (1, .int (nI j))]) hx hb dX1_finish_159 hl (by decide) rfl (fun ls hl => ?_)
                        refine lv_iload hx hb dX1_finish_161 (lv_at hl 0 rfl) ?_
                        refine lv_if_eq (tgt := 173) hx hb dX1_finish_163 (by decide) (fun h7 => ?_) (fun h7 => ?_)
                        · skip
                          refine lv_iload_n hx hb dX1_finish_173 rfl (lv_at hl 4 rfl) ?_
                          refine lv_if_ne (tgt := 187) hx hb dX1_finish_174 (by decide) (fun h7 => ?_) (fun h7 => ?_)
                          · skip
                            first | exact absurd h7 (by decide) | exact (h7 rfl).elim
                          · skip
                            refine lv_aload_n hx hb dX1_finish_177 rfl (lv_at hl 5 rfl) ?_
                            refine va_get (D := D) (ci := 1) (v := .ref (b 2)) (C := RX1) (T := TX1) (N := 7) hx hb hts (fun w h => wm (ui_X1 w h)) hown hK hP 0 rfl rfl 3 (by decide) (hts (.fieldLink RX1 13 "LinkedIndexModel" "values" "[J") (wm mb_57)) (fun _ h9 => h9) rfl dX1_finish_178 ?_
                            refine lv_iload hx hb dX1_finish_181 (lv_at hl 2 rfl) ?_
                            refine x_lald (j := r) hx hb hK hP 2 1 rfl rfl (by omega) (by decide) dX1_finish_183 ?_
                            refine lv_goto (tgt := 231) hx hb dX1_finish_184 (by decide) ?_
                            have hf : fin n K V kd SK SV (nI j) = (0, V r, n, K, V, upd kd j (-1)) := by
                              unfold fin
                              rw [ix_n hj, ← hr0, if_pos (okS_n hj), if_neg (show ¬ kd j = -1 by rw [ek]; decide), if_neg (show ¬ kd j = 1 by rw [ek]; decide), if_neg (show ¬ kd j = 3 by rw [ek]; decide), if_pos h4, if_neg (show ¬ kd j = 2 by rw [ek]; decide)]
                            rw [hf]
                            exact fn_l hx hb hr hlocks (by decide) (by decide) (fun _ => rfl) hP hK hD hS dX1_finish_231
                        · skip
                          first | exact absurd h7 (by decide) | exact (h7 rfl).elim
                      · skip
                        first | exact absurd h7 (by decide) | exact (h7 rfl).elim
                  · skip
                    first | exact absurd h7 (by decide) | exact (h7 rfl).elim
                · skip
                  first | exact absurd h7 (by decide) | exact (h7 rfl).elim
          · skip
            first | exact absurd h7 (by decide) | exact (h7 rfl).elim
        · skip
          first | exact absurd h7 (by decide) | exact (h7 rfl).elim
      · skip
        refine lv_aload_n hx hb dX1_finish_12 rfl (lv_at hl 0 rfl) ?_
        refine va_get (D := D) (ci := 1) (v := .ref (b 3)) (C := RX1) (T := TX1) (N := 7) hx hb hts (fun w h => wm (ui_X1 w h)) hown hK hP 0 rfl rfl 4 (by decide) (hts (.fieldLink RX1 16 "LinkedIndexModel" "kinds" "[I") (wm mb_52)) (fun _ h9 => h9) rfl dX1_finish_13 ?_
        refine lv_iload_n hx hb dX1_finish_16 rfl (lv_at hl 1 rfl) ?_
        refine x_iald (j := j) hx hb hK hP 3 2 rfl rfl (by omega) (by decide) dX1_finish_17 ?_
        refine xi (y := 2) ((congrArg (fun z : Int32 => z + 1) ek).trans (by decide)) ?_
        refine lv_if_ne (tgt := 25) hx hb dX1_finish_18 (by decide) (fun h7 => ?_) (fun h7 => ?_)
        · skip
          refine lv_iconst (v := 0) hx hb dX1_finish_25 (by decide) ?_
          refine va_put (D := D) (ci := 1) (v := .int 0) (ty := .int) (C := RX1) (T := TX1) (N := 7) hx hb hts (fun w h => wm (ui_X1 w h)) tyX1 tyX1_ok nmX1 hown hK hP hD hS 0 rfl rfl 0 (by decide) (hts (.fieldLink RX1 26 "LinkedIndexModel" "code" "I") (wm mb_47)) (fun _ h9 => h9) rfl (by decide +kernel) rfl rfl (Nat.le_of_ble_eq_true rfl) dX1_finish_26 (fun H locs hP hD hS => ?_)
          have hP : va_P D vwCl (wM b g 0 n K V (fun i9 => kd i9 + 1) SK SV) H := hP
          have hD : va_D A (wM b g 0 n K V (fun i9 => kd i9 + 1) SK SV) := hD
          refine lv_aload_n hx hb dX1_finish_29 rfl (lv_at hl 0 rfl) ?_
          refine va_get (D := D) (ci := 1) (v := .int 0) (C := RX1) (T := TX1) (N := 7) hx hb hts (fun w h => wm (ui_X1 w h)) hown hK hP 0 rfl rfl 0 (by decide) (hts (.fieldLink RX1 26 "LinkedIndexModel" "code" "I") (wm mb_47)) (fun _ h9 => h9) rfl dX1_finish_30 ?_
          refine lv_if_le (tgt := 38) hx hb dX1_finish_33 (by decide) (fun h7 => ?_) (fun h7 => ?_)
          · skip
            refine lv_aload_n hx hb dX1_finish_38 rfl (lv_at hl 0 rfl) ?_
            refine va_get (D := D) (ci := 1) (v := .ref (b 3)) (C := RX1) (T := TX1) (N := 7) hx hb hts (fun w h => wm (ui_X1 w h)) hown hK hP 0 rfl rfl 4 (by decide) (hts (.fieldLink RX1 16 "LinkedIndexModel" "kinds" "[I") (wm mb_52)) (fun _ h9 => h9) rfl dX1_finish_39 ?_
            refine lv_iload_n hx hb dX1_finish_42 rfl (lv_at hl 1 rfl) ?_
            refine x_iald (j := j) hx hb hK hP 3 2 rfl rfl (by omega) (by decide) dX1_finish_43 ?_
            refine lv_iconst (v := 1) hx hb dX1_finish_44 (by decide) ?_
            refine lv_isub hx hb dX1_finish_45 ?_
            refine xi (y := 1) ((congrArg (fun z : Int32 => z + 1 - 1) ek).trans (by decide)) ?_
            refine lv_istore_n (lv' := [(2, .int 1), (0, .ref (b 0)), (1, .int (nI j))]) hx hb dX1_finish_46 rfl hl (by decide) rfl (fun ls hl => ?_)
            refine lv_aload_n hx hb dX1_finish_47 rfl (lv_at hl 1 rfl) ?_
            refine va_get (D := D) (ci := 1) (v := .ref (b 4)) (C := RX1) (T := TX1) (N := 7) hx hb hts (fun w h => wm (ui_X1 w h)) hown hK hP 0 rfl rfl 5 (by decide) (hts (.fieldLink RX1 20 "LinkedIndexModel" "asked" "[J") (wm mb_53)) (fun _ h9 => h9) rfl dX1_finish_48 ?_
            refine lv_iload_n hx hb dX1_finish_51 rfl (lv_at hl 2 rfl) ?_
            refine x_lald (j := j) hx hb hK hP 4 3 rfl rfl (by omega) (by decide) dX1_finish_52 ?_
            refine lv_lstore_n (lv' := [(3, .long (SK j)), (2, .int 1), (0, .ref (b 0)), (1, .int (nI j))]) hx hb dX1_finish_53 rfl hl (by decide) rfl (fun ls hl => ?_)
            refine lv_aload_n hx hb dX1_finish_54 rfl (lv_at hl 2 rfl) ?_
            refine lv_lload_n hx hb dX1_finish_55 rfl (lv_at hl 0 rfl) ?_
            refine kn_i (wc := (wM b g 0 n K V (fun i9 => kd i9 + 1) SK SV)) (wr := []) (w1 := (wM b g 0 n K V (fun i9 => kd i9 + 1) SK SV)) (va_runV (As := [.long (SK j)]) (rest := []) ⟨hx, hb, hml, hown, hts⟩ (m_rank l hl9 D b g 0 n K V kd SK SV (SK j) H.size hn) (cwV 1 hts (gd_up (gd_V mb_58 mb_59 mb_60 mb_50 mb_61)) rfl rfl rfl (by decide +kernel) ⟨by decide, by decide⟩) ⟨cP_blind, va_recv (q0 := 0) (ci := 1) (q := (RX1, TX1, 7)) hK hP rfl rfl, cPre hP hD hK hS hA hZ [0, 1, 2, 3, 4, 5] rfl (by decide) [0, 1, 2, 3, 4] rfl⟩ rfl rfl hl.1 rfl (lv_room (Nat.le_of_ble_eq_true rfl)) dX1_finish_56 ⟨by decide, by decide⟩) hP hD hS hA [0, 1, 2, 3, 4, 5] [] rfl rfl (by decide) (by decide) (fun r9 H locs hp hP hD hS => ?_)
            have hP : va_P D vwCl (wM b g 0 n K V (fun i9 => kd i9 + 1) SK SV) H := hP
            have hD : va_D A (wM b g 0 n K V (fun i9 => kd i9 + 1) SK SV) := hD
            have hle := rk_le K (SK j) n
            obtain ⟨r, hr0⟩ : ∃ r, r = rk K (SK j) n := ⟨_, rfl⟩
            rw [← hr0] at hp hle
            subst hp
            refine lv_istore (lv' := [(5, .int (nI r)), (3, .long (SK j)), (2, .int 1), (0, .ref (b 0)), (1, .int (nI j))]) hx hb dX1_finish_59 hl (by decide) rfl (fun ls hl => ?_)
            refine lv_iload hx hb dX1_finish_61 (lv_at hl 0 rfl) ?_
            refine lv_aload_n hx hb dX1_finish_63 rfl (lv_at hl 3 rfl) ?_
            refine va_get (D := D) (ci := 1) (v := .int (nI n)) (C := RX1) (T := TX1) (N := 7) hx hb hts (fun w h => wm (ui_X1 w h)) hown hK hP 0 rfl rfl 1 (by decide) (hts (.fieldLink RX1 34 "LinkedIndexModel" "size" "I") (wm mb_55)) (fun _ h9 => h9) rfl dX1_finish_64 ?_
            refine lv_icmp_ge (tgt := 86) hx hb dX1_finish_67 (by decide) (fun h8 => ?_) (fun h8 => ?_)
            · skip
              have h3 : ¬ r < n := fun q => absurd ((nI_leI (by omega) (by omega)).mp h8) (by omega)
              have h4 : ¬ atR K n (SK j) r := fun q => h3 q.1
              refine lv_iconst (v := 0) hx hb dX1_finish_86 (by decide) ?_
              refine lv_istore (lv' := [(6, .int 0), (5, .int (nI r)), (3, .long (SK j)), (2, .int 1), (0, .ref (b 0)), (1, .int (nI j))]) hx hb dX1_finish_87 hl (by decide) rfl (fun ls hl => ?_)
              refine lv_iload_n hx hb dX1_finish_89 rfl (lv_at hl 3 rfl) ?_
              refine lv_iconst (v := 1) hx hb dX1_finish_90 (by decide) ?_
              refine lv_icmp_ne (tgt := 115) hx hb dX1_finish_91 (by decide) (fun h7 => ?_) (fun h7 => ?_)
              · skip
                first | exact absurd h7 (by decide) | exact (h7 rfl).elim
              · skip
                refine lv_iload hx hb dX1_finish_94 (lv_at hl 0 rfl) ?_
                refine lv_if_ne (tgt := 115) hx hb dX1_finish_96 (by decide) (fun h7 => ?_) (fun h7 => ?_)
                · skip
                  first | exact absurd h7 (by decide) | exact (h7 rfl).elim
                · skip
                  refine lv_aload_n hx hb dX1_finish_99 rfl (lv_at hl 4 rfl) ?_
                  refine va_get (D := D) (ci := 1) (v := .int (nI n)) (C := RX1) (T := TX1) (N := 7) hx hb hts (fun w h => wm (ui_X1 w h)) hown hK hP 0 rfl rfl 1 (by decide) (hts (.fieldLink RX1 34 "LinkedIndexModel" "size" "I") (wm mb_55)) (fun _ h9 => h9) rfl dX1_finish_100 ?_
                  refine lv_bipush (v := 100) hx hb dX1_finish_103 (by decide) ?_
                  refine lv_icmp_ne (tgt := 115) hx hb dX1_finish_105 (by decide) (fun h5 => ?_) (fun h5 => ?_)
                  · skip
                    have h5 : ¬ 100 ≤ n := fun q => h5 (by rw [show n = 100 by omega]; rfl)
                    refine lv_aload_n hx hb dX1_finish_115 rfl (lv_at hl 4 rfl) ?_
                    refine va_get (D := D) (ci := 1) (v := .ref (b 3)) (C := RX1) (T := TX1) (N := 7) hx hb hts (fun w h => wm (ui_X1 w h)) hown hK hP 0 rfl rfl 4 (by decide) (hts (.fieldLink RX1 16 "LinkedIndexModel" "kinds" "[I") (wm mb_52)) (fun _ h9 => h9) rfl dX1_finish_116 ?_
                    refine lv_iload_n hx hb dX1_finish_119 rfl (lv_at hl 5 rfl) ?_
                    refine lv_iconst (v := 0) hx hb dX1_finish_120 (by decide) ?_
                    refine x_iast (j := j) hx hb hK hP hD hS 3 2 rfl rfl (by omega) (by decide) dX1_finish_121 (fun H locs hP hD hS => ?_)
                    have hP : va_P D vwCl (wM b g 0 n K V (upd (fun i9 => kd i9 + 1) j 0) SK SV) H := hP
                    have hD : va_D A (wM b g 0 n K V (upd (fun i9 => kd i9 + 1) j 0) SK SV) := hD
                    rw [upd_0] at hP hD
                    refine lv_iload_n hx hb dX1_finish_122 rfl (lv_at hl 3 rfl) ?_
                    refine lv_iconst (v := 3) hx hb dX1_finish_123 (by decide) ?_
                    refine lv_icmp_ne (tgt := 144) hx hb dX1_finish_124 (by decide) (fun h7 => ?_) (fun h7 => ?_)
                    · skip
                      refine lv_iload_n hx hb dX1_finish_144 rfl (lv_at hl 3 rfl) ?_
                      refine lv_iconst (v := 1) hx hb dX1_finish_145 (by decide) ?_
                      refine lv_icmp_eq (tgt := 158) hx hb dX1_finish_146 (by decide) (fun h7 => ?_) (fun h7 => ?_)
                      · skip
                        refine lv_iconst (v := 0) hx hb dX1_finish_158 (by decide) ?_
                        refine lv_istore (lv' := [(7, .int 0), (6, .int 0), (5, .int (nI r)), (3, .long (SK j)), (2, .int 1), (0, .ref (b 0)), (1, .int (nI j))]) hx hb dX1_finish_159 hl (by decide) rfl (fun ls hl => ?_)
                        refine lv_iload hx hb dX1_finish_161 (lv_at hl 0 rfl) ?_
                        refine lv_if_eq (tgt := 173) hx hb dX1_finish_163 (by decide) (fun h7 => ?_) (fun h7 => ?_)
                        · skip
                          refine lv_iload_n hx hb dX1_finish_173 rfl (lv_at hl 4 rfl) ?_
                          refine lv_if_ne (tgt := 187) hx hb dX1_finish_174 (by decide) (fun h7 => ?_) (fun h7 => ?_)
                          · skip
                            refine lv_iload_n hx hb dX1_finish_187 rfl (lv_at hl 4 rfl) ?_
                            refine lv_iconst (v := 1) hx hb dX1_finish_188 (by decide) ?_
                            refine lv_icmp_ne (tgt := 210) hx hb dX1_finish_189 (by decide) (fun h7 => ?_) (fun h7 => ?_)
                            · skip
                              first | exact absurd h7 (by decide) | exact (h7 rfl).elim
                            · skip
                              refine lv_aload_n hx hb dX1_finish_192 rfl (lv_at hl 5 rfl) ?_
                              refine lv_iload hx hb dX1_finish_193 (lv_at hl 2 rfl) ?_
                              refine lv_iload hx hb dX1_finish_195 (lv_at hl 1 rfl) ?_
                              refine lv_lload_n hx hb dX1_finish_197 rfl (lv_at hl 3 rfl) ?_
                              refine lv_aload_n hx hb dX1_finish_198 rfl (lv_at hl 5 rfl) ?_
                              refine va_get (D := D) (ci := 1) (v := .ref (b 5)) (C := RX1) (T := TX1) (N := 7) hx hb hts (fun w h => wm (ui_X1 w h)) hown hK hP 0 rfl rfl 6 (by decide) (hts (.fieldLink RX1 23 "LinkedIndexModel" "given" "[J") (wm mb_54)) (fun _ h9 => h9) rfl dX1_finish_199 ?_
                              refine lv_iload_n hx hb dX1_finish_202 rfl (lv_at hl 6 rfl) ?_
                              refine x_lald (j := j) hx hb hK hP 5 4 rfl rfl (by omega) (by decide) dX1_finish_203 ?_
                              refine kn_l (wc := (wM b g 0 n K V (fun i9 => upd kd j (-1) i9 + 1) SK SV)) (wr := []) (w1 := (wM b g 0 (fpN n K (SK j) r) (fpK n K (SK j) r) (fpV n K V (SK j) (SV j) r) (fun i9 => upd kd j (-1) i9 + 1) SK SV)) (va_runV (As := [.int (nI r), .int 0, .long (SK j), .long (SV j)]) (rest := []) ⟨hx, hb, hml, hown, hts⟩ (m_put l hl9 D b g 0 n K V (upd kd j (-1)) SK SV r 0 (SK j) (SV j) H.size hle hn (by rw [if_neg h4]) (Or.inr (by omega))) (cwV 4 hts (gd_up (gd_V mb_62 mb_63 mb_64 mb_50 mb_65)) rfl rfl rfl (by decide +kernel) ⟨by decide, by decide⟩) ⟨cP_blind, va_recv (q0 := 0) (ci := 1) (q := (RX1, TX1, 7)) hK hP rfl rfl, cPre hP hD hK hS hA hZ [0, 1, 2, 3, 4, 5] rfl (by decide) [0, 1, 2, 3, 4] rfl⟩ rfl rfl hl.1 rfl (lv_room (Nat.le_of_ble_eq_true rfl)) dX1_finish_204 ⟨by decide, by decide⟩) hP hD hS hA [0, 1, 2, 3, 4, 5] [] rfl rfl (by decide) (by decide) (fun r9 H locs hp hP hD hS => ?_)
                              have hP : va_P D vwCl (wM b g 0 (fpN n K (SK j) r) (fpK n K (SK j) r) (fpV n K V (SK j) (SV j) r) (fun i9 => upd kd j (-1) i9 + 1) SK SV) H := hP
                              have hD : va_D A (wM b g 0 (fpN n K (SK j) r) (fpK n K (SK j) r) (fpV n K V (SK j) (SV j) r) (fun i9 => upd kd j (-1) i9 + 1) SK SV) := hD
                              refine lv_goto (tgt := 231) hx hb dX1_finish_207 (by decide) ?_
                              rw [show fpN n K (SK j) r = n + 1 from if_neg h4, show fpK n K (SK j) r = vp_updL (opF r (n - r) K) r (SK j) from if_neg h4, show fpV n K V (SK j) (SV j) r = vp_updL (opF r (n - r) V) r (SV j) by unfold fpV; rw [if_neg h4]] at hP hD
                              rw [if_neg h4] at hp
                              have hf : fin n K V kd SK SV (nI j) = (0, 0, n + 1, vp_updL (opF r (n - r) K) r (SK j), vp_updL (opF r (n - r) V) r (SV j), upd kd j (-1)) := by
                                unfold fin
                                rw [ix_n hj, ← hr0, if_pos (okS_n hj), if_neg (show ¬ kd j = -1 by rw [ek]; decide), if_pos ek, if_neg h4, if_neg h5]
                              rw [hf]
                              exact fn_l hx hb hr hlocks (by decide) (by decide) (fun _ => hp) hP hK hD hS dX1_finish_231
                          · skip
                            first | exact absurd h7 (by decide) | exact (h7 rfl).elim
                        · skip
                          first | exact absurd h7 (by decide) | exact (h7 rfl).elim
                      · skip
                        first | exact absurd h7 (by decide) | exact (h7 rfl).elim
                    · skip
                      first | exact absurd h7 (by decide) | exact (h7 rfl).elim
                  · skip
                    have h5 : n = 100 := (nI_eq (b := 100) (by omega) (by omega)).mp h5
                    have h5 : 100 ≤ n := by omega
                    refine lv_aload_n hx hb dX1_finish_108 rfl (lv_at hl 4 rfl) ?_
                    refine lv_iconst (v := 2) hx hb dX1_finish_109 (by decide) ?_
                    refine va_put (D := D) (ci := 1) (v := .int 2) (ty := .int) (C := RX1) (T := TX1) (N := 7) hx hb hts (fun w h => wm (ui_X1 w h)) tyX1 tyX1_ok nmX1 hown hK hP hD hS 0 rfl rfl 0 (by decide) (hts (.fieldLink RX1 26 "LinkedIndexModel" "code" "I") (wm mb_47)) (fun _ h9 => h9) rfl (by decide +kernel) rfl rfl (Nat.le_of_ble_eq_true rfl) dX1_finish_110 (fun H locs hP hD hS => ?_)
                    have hP : va_P D vwCl (wM b g 2 n K V (fun i9 => kd i9 + 1) SK SV) H := hP
                    have hD : va_D A (wM b g 2 n K V (fun i9 => kd i9 + 1) SK SV) := hD
                    refine lv_lconst (v := 0) hx hb dX1_finish_113 (by decide) ?_
                    have hf : fin n K V kd SK SV (nI j) = (2, 0, n, K, V, kd) := by
                      unfold fin
                      rw [ix_n hj, ← hr0, if_pos (okS_n hj), if_neg (show ¬ kd j = -1 by rw [ek]; decide), if_pos ek, if_neg h4, if_pos h5]
                    rw [hf]
                    exact fn_l hx hb hr hlocks (by decide) (by decide) (fun q => absurd (show (2 : Int32) = 0 from q) (by decide)) hP hK hD hS dX1_finish_114
            · skip
              have h3 : r < n := Nat.lt_of_not_le (fun q => h8 ((nI_leI (by omega) (by omega)).mpr q))
              refine lv_aload_n hx hb dX1_finish_70 rfl (lv_at hl 3 rfl) ?_
              refine va_get (D := D) (ci := 1) (v := .ref (b 1)) (C := RX1) (T := TX1) (N := 7) hx hb hts (fun w h => wm (ui_X1 w h)) hown hK hP 0 rfl rfl 2 (by decide) (hts (.fieldLink RX1 7 "LinkedIndexModel" "keys" "[J") (wm mb_56)) (fun _ h9 => h9) rfl dX1_finish_71 ?_
              refine lv_iload hx hb dX1_finish_74 (lv_at hl 0 rfl) ?_
              refine x_lald (j := r) hx hb hK hP 1 0 rfl rfl (by omega) (by decide) dX1_finish_76 ?_
              refine lv_lload_n hx hb dX1_finish_77 rfl (lv_at hl 1 rfl) ?_
              refine W.lcmp hx hb dX1_finish_78 ?_
              refine lv_if_ne (tgt := 86) hx hb dX1_finish_79 (by decide) (fun h8 => ?_) (fun h8 => ?_)
              · skip
                have h4 : ¬ atR K n (SK j) r := fun q => h8 ((lg_cmp_eq _ _).mpr q.2)
                refine lv_iconst (v := 0) hx hb dX1_finish_86 (by decide) ?_
                refine lv_istore (lv' := [(6, .int 0), (5, .int (nI r)), (3, .long (SK j)), (2, .int 1), (0, .ref (b 0)), (1, .int (nI j))]) hx hb dX1_finish_87 hl (by decide) rfl (fun ls hl => ?_)
                refine lv_iload_n hx hb dX1_finish_89 rfl (lv_at hl 3 rfl) ?_
                refine lv_iconst (v := 1) hx hb dX1_finish_90 (by decide) ?_
                refine lv_icmp_ne (tgt := 115) hx hb dX1_finish_91 (by decide) (fun h7 => ?_) (fun h7 => ?_)
                · skip
                  first | exact absurd h7 (by decide) | exact (h7 rfl).elim
                · skip
                  refine lv_iload hx hb dX1_finish_94 (lv_at hl 0 rfl) ?_
                  refine lv_if_ne (tgt := 115) hx hb dX1_finish_96 (by decide) (fun h7 => ?_) (fun h7 => ?_)
                  · skip
                    first | exact absurd h7 (by decide) | exact (h7 rfl).elim
                  · skip
                    refine lv_aload_n hx hb dX1_finish_99 rfl (lv_at hl 4 rfl) ?_
                    refine va_get (D := D) (ci := 1) (v := .int (nI n)) (C := RX1) (T := TX1) (N := 7) hx hb hts (fun w h => wm (ui_X1 w h)) hown hK hP 0 rfl rfl 1 (by decide) (hts (.fieldLink RX1 34 "LinkedIndexModel" "size" "I") (wm mb_55)) (fun _ h9 => h9) rfl dX1_finish_100 ?_
                    refine lv_bipush (v := 100) hx hb dX1_finish_103 (by decide) ?_
                    refine lv_icmp_ne (tgt := 115) hx hb dX1_finish_105 (by decide) (fun h5 => ?_) (fun h5 => ?_)
                    · skip
                      have h5 : ¬ 100 ≤ n := fun q => h5 (by rw [show n = 100 by omega]; rfl)
                      refine lv_aload_n hx hb dX1_finish_115 rfl (lv_at hl 4 rfl) ?_
                      refine va_get (D := D) (ci := 1) (v := .ref (b 3)) (C := RX1) (T := TX1) (N := 7) hx hb hts (fun w h => wm (ui_X1 w h)) hown hK hP 0 rfl rfl 4 (by decide) (hts (.fieldLink RX1 16 "LinkedIndexModel" "kinds" "[I") (wm mb_52)) (fun _ h9 => h9) rfl dX1_finish_116 ?_
                      refine lv_iload_n hx hb dX1_finish_119 rfl (lv_at hl 5 rfl) ?_
                      refine lv_iconst (v := 0) hx hb dX1_finish_120 (by decide) ?_
                      refine x_iast (j := j) hx hb hK hP hD hS 3 2 rfl rfl (by omega) (by decide) dX1_finish_121 (fun H locs hP hD hS => ?_)
                      have hP : va_P D vwCl (wM b g 0 n K V (upd (fun i9 => kd i9 + 1) j 0) SK SV) H := hP
                      have hD : va_D A (wM b g 0 n K V (upd (fun i9 => kd i9 + 1) j 0) SK SV) := hD
                      rw [upd_0] at hP hD
                      refine lv_iload_n hx hb dX1_finish_122 rfl (lv_at hl 3 rfl) ?_
                      refine lv_iconst (v := 3) hx hb dX1_finish_123 (by decide) ?_
                      refine lv_icmp_ne (tgt := 144) hx hb dX1_finish_124 (by decide) (fun h7 => ?_) (fun h7 => ?_)
                      · skip
                        refine lv_iload_n hx hb dX1_finish_144 rfl (lv_at hl 3 rfl) ?_
                        refine lv_iconst (v := 1) hx hb dX1_finish_145 (by decide) ?_
                        refine lv_icmp_eq (tgt := 158) hx hb dX1_finish_146 (by decide) (fun h7 => ?_) (fun h7 => ?_)
                        · skip
                          refine lv_iconst (v := 0) hx hb dX1_finish_158 (by decide) ?_
                          refine lv_istore (lv' := [(7, .int 0), (6, .int 0), (5, .int (nI r)), (3, .long (SK j)), (2, .int 1), (0, .ref (b 0)), (1, .int (nI j))]) hx hb dX1_finish_159 hl (by decide) rfl (fun ls hl => ?_)
                          refine lv_iload hx hb dX1_finish_161 (lv_at hl 0 rfl) ?_
                          refine lv_if_eq (tgt := 173) hx hb dX1_finish_163 (by decide) (fun h7 => ?_) (fun h7 => ?_)
                          · skip
                            refine lv_iload_n hx hb dX1_finish_173 rfl (lv_at hl 4 rfl) ?_
                            refine lv_if_ne (tgt := 187) hx hb dX1_finish_174 (by decide) (fun h7 => ?_) (fun h7 => ?_)
                            · skip
                              refine lv_iload_n hx hb dX1_finish_187 rfl (lv_at hl 4 rfl) ?_
                              refine lv_iconst (v := 1) hx hb dX1_finish_188 (by decide) ?_
                              refine lv_icmp_ne (tgt := 210) hx hb dX1_finish_189 (by decide) (fun h7 => ?_) (fun h7 => ?_)
                              · skip
                                first | exact absurd h7 (by decide) | exact (h7 rfl).elim
                              · skip
                                refine lv_aload_n hx hb dX1_finish_192 rfl (lv_at hl 5 rfl) ?_
                                refine lv_iload hx hb dX1_finish_193 (lv_at hl 2 rfl) ?_
                                refine lv_iload hx hb dX1_finish_195 (lv_at hl 1 rfl) ?_
                                refine lv_lload_n hx hb dX1_finish_197 rfl (lv_at hl 3 rfl) ?_
                                refine lv_aload_n hx hb dX1_finish_198 rfl (lv_at hl 5 rfl) ?_
                                refine va_get (D := D) (ci := 1) (v := .ref (b 5)) (C := RX1) (T := TX1) (N := 7) hx hb hts (fun w h => wm (ui_X1 w h)) hown hK hP 0 rfl rfl 6 (by decide) (hts (.fieldLink RX1 23 "LinkedIndexModel" "given" "[J") (wm mb_54)) (fun _ h9 => h9) rfl dX1_finish_199 ?_
                                refine lv_iload_n hx hb dX1_finish_202 rfl (lv_at hl 6 rfl) ?_
                                refine x_lald (j := j) hx hb hK hP 5 4 rfl rfl (by omega) (by decide) dX1_finish_203 ?_
                                refine kn_l (wc := (wM b g 0 n K V (fun i9 => upd kd j (-1) i9 + 1) SK SV)) (wr := []) (w1 := (wM b g 0 (fpN n K (SK j) r) (fpK n K (SK j) r) (fpV n K V (SK j) (SV j) r) (fun i9 => upd kd j (-1) i9 + 1) SK SV)) (va_runV (As := [.int (nI r), .int 0, .long (SK j), .long (SV j)]) (rest := []) ⟨hx, hb, hml, hown, hts⟩ (m_put l hl9 D b g 0 n K V (upd kd j (-1)) SK SV r 0 (SK j) (SV j) H.size hle hn (by rw [if_neg h4]) (Or.inr (by omega))) (cwV 4 hts (gd_up (gd_V mb_62 mb_63 mb_64 mb_50 mb_65)) rfl rfl rfl (by decide +kernel) ⟨by decide, by decide⟩) ⟨cP_blind, va_recv (q0 := 0) (ci := 1) (q := (RX1, TX1, 7)) hK hP rfl rfl, cPre hP hD hK hS hA hZ [0, 1, 2, 3, 4, 5] rfl (by decide) [0, 1, 2, 3, 4] rfl⟩ rfl rfl hl.1 rfl (lv_room (Nat.le_of_ble_eq_true rfl)) dX1_finish_204 ⟨by decide, by decide⟩) hP hD hS hA [0, 1, 2, 3, 4, 5] [] rfl rfl (by decide) (by decide) (fun r9 H locs hp hP hD hS => ?_)
                                have hP : va_P D vwCl (wM b g 0 (fpN n K (SK j) r) (fpK n K (SK j) r) (fpV n K V (SK j) (SV j) r) (fun i9 => upd kd j (-1) i9 + 1) SK SV) H := hP
                                have hD : va_D A (wM b g 0 (fpN n K (SK j) r) (fpK n K (SK j) r) (fpV n K V (SK j) (SV j) r) (fun i9 => upd kd j (-1) i9 + 1) SK SV) := hD
                                refine lv_goto (tgt := 231) hx hb dX1_finish_207 (by decide) ?_
                                rw [show fpN n K (SK j) r = n + 1 from if_neg h4, show fpK n K (SK j) r = vp_updL (opF r (n - r) K) r (SK j) from if_neg h4, show fpV n K V (SK j) (SV j) r = vp_updL (opF r (n - r) V) r (SV j) by unfold fpV; rw [if_neg h4]] at hP hD
                                rw [if_neg h4] at hp
                                have hf : fin n K V kd SK SV (nI j) = (0, 0, n + 1, vp_updL (opF r (n - r) K) r (SK j), vp_updL (opF r (n - r) V) r (SV j), upd kd j (-1)) := by
                                  unfold fin
                                  rw [ix_n hj, ← hr0, if_pos (okS_n hj), if_neg (show ¬ kd j = -1 by rw [ek]; decide), if_pos ek, if_neg h4, if_neg h5]
                                rw [hf]
                                exact fn_l hx hb hr hlocks (by decide) (by decide) (fun _ => hp) hP hK hD hS dX1_finish_231
                            · skip
                              first | exact absurd h7 (by decide) | exact (h7 rfl).elim
                          · skip
                            first | exact absurd h7 (by decide) | exact (h7 rfl).elim
                        · skip
                          first | exact absurd h7 (by decide) | exact (h7 rfl).elim
                      · skip
                        first | exact absurd h7 (by decide) | exact (h7 rfl).elim
                    · skip
                      have h5 : n = 100 := (nI_eq (b := 100) (by omega) (by omega)).mp h5
                      have h5 : 100 ≤ n := by omega
                      refine lv_aload_n hx hb dX1_finish_108 rfl (lv_at hl 4 rfl) ?_
                      refine lv_iconst (v := 2) hx hb dX1_finish_109 (by decide) ?_
                      refine va_put (D := D) (ci := 1) (v := .int 2) (ty := .int) (C := RX1) (T := TX1) (N := 7) hx hb hts (fun w h => wm (ui_X1 w h)) tyX1 tyX1_ok nmX1 hown hK hP hD hS 0 rfl rfl 0 (by decide) (hts (.fieldLink RX1 26 "LinkedIndexModel" "code" "I") (wm mb_47)) (fun _ h9 => h9) rfl (by decide +kernel) rfl rfl (Nat.le_of_ble_eq_true rfl) dX1_finish_110 (fun H locs hP hD hS => ?_)
                      have hP : va_P D vwCl (wM b g 2 n K V (fun i9 => kd i9 + 1) SK SV) H := hP
                      have hD : va_D A (wM b g 2 n K V (fun i9 => kd i9 + 1) SK SV) := hD
                      refine lv_lconst (v := 0) hx hb dX1_finish_113 (by decide) ?_
                      have hf : fin n K V kd SK SV (nI j) = (2, 0, n, K, V, kd) := by
                        unfold fin
                        rw [ix_n hj, ← hr0, if_pos (okS_n hj), if_neg (show ¬ kd j = -1 by rw [ek]; decide), if_pos ek, if_neg h4, if_pos h5]
                      rw [hf]
                      exact fn_l hx hb hr hlocks (by decide) (by decide) (fun q => absurd (show (2 : Int32) = 0 from q) (by decide)) hP hK hD hS dX1_finish_114
              · skip
                have h4 : atR K n (SK j) r := ⟨h3, (lg_cmp_eq _ _).mp h8⟩
                refine lv_iconst (v := 1) hx hb dX1_finish_82 (by decide) ?_
                refine lv_goto (tgt := 87) hx hb dX1_finish_83 (by decide) ?_
                refine lv_istore (lv' := [(6, .int 1), (5, .int (nI r)), (3, .long (SK j)), (2, .int 1), (0, .ref (b 0)), (1, .int (nI j))]) hx hb dX1_finish_87 hl (by decide) rfl (fun ls hl => ?_)
                refine lv_iload_n hx hb dX1_finish_89 rfl (lv_at hl 3 rfl) ?_
                refine lv_iconst (v := 1) hx hb dX1_finish_90 (by decide) ?_
                refine lv_icmp_ne (tgt := 115) hx hb dX1_finish_91 (by decide) (fun h7 => ?_) (fun h7 => ?_)
                · skip
                  first | exact absurd h7 (by decide) | exact (h7 rfl).elim
                · skip
                  refine lv_iload hx hb dX1_finish_94 (lv_at hl 0 rfl) ?_
                  refine lv_if_ne (tgt := 115) hx hb dX1_finish_96 (by decide) (fun h7 => ?_) (fun h7 => ?_)
                  · skip
                    refine lv_aload_n hx hb dX1_finish_115 rfl (lv_at hl 4 rfl) ?_
                    refine va_get (D := D) (ci := 1) (v := .ref (b 3)) (C := RX1) (T := TX1) (N := 7) hx hb hts (fun w h => wm (ui_X1 w h)) hown hK hP 0 rfl rfl 4 (by decide) (hts (.fieldLink RX1 16 "LinkedIndexModel" "kinds" "[I") (wm mb_52)) (fun _ h9 => h9) rfl dX1_finish_116 ?_
                    refine lv_iload_n hx hb dX1_finish_119 rfl (lv_at hl 5 rfl) ?_
                    refine lv_iconst (v := 0) hx hb dX1_finish_120 (by decide) ?_
                    refine x_iast (j := j) hx hb hK hP hD hS 3 2 rfl rfl (by omega) (by decide) dX1_finish_121 (fun H locs hP hD hS => ?_)
                    have hP : va_P D vwCl (wM b g 0 n K V (upd (fun i9 => kd i9 + 1) j 0) SK SV) H := hP
                    have hD : va_D A (wM b g 0 n K V (upd (fun i9 => kd i9 + 1) j 0) SK SV) := hD
                    rw [upd_0] at hP hD
                    refine lv_iload_n hx hb dX1_finish_122 rfl (lv_at hl 3 rfl) ?_
                    refine lv_iconst (v := 3) hx hb dX1_finish_123 (by decide) ?_
                    refine lv_icmp_ne (tgt := 144) hx hb dX1_finish_124 (by decide) (fun h7 => ?_) (fun h7 => ?_)
                    · skip
                      refine lv_iload_n hx hb dX1_finish_144 rfl (lv_at hl 3 rfl) ?_
                      refine lv_iconst (v := 1) hx hb dX1_finish_145 (by decide) ?_
                      refine lv_icmp_eq (tgt := 158) hx hb dX1_finish_146 (by decide) (fun h7 => ?_) (fun h7 => ?_)
                      · skip
                        refine lv_iconst (v := 0) hx hb dX1_finish_158 (by decide) ?_
                        refine lv_istore (lv' := [(7, .int 0), (6, .int 1), (5, .int (nI r)), (3, .long (SK j)), (2, .int 1), (0, .ref (b 0)), (1, .int (nI j))]) hx hb dX1_finish_159 hl (by decide) rfl (fun ls hl => ?_)
                        refine lv_iload hx hb dX1_finish_161 (lv_at hl 0 rfl) ?_
                        refine lv_if_eq (tgt := 173) hx hb dX1_finish_163 (by decide) (fun h7 => ?_) (fun h7 => ?_)
                        · skip
                          refine lv_iload_n hx hb dX1_finish_173 rfl (lv_at hl 4 rfl) ?_
                          refine lv_if_ne (tgt := 187) hx hb dX1_finish_174 (by decide) (fun h7 => ?_) (fun h7 => ?_)
                          · skip
                            refine lv_iload_n hx hb dX1_finish_187 rfl (lv_at hl 4 rfl) ?_
                            refine lv_iconst (v := 1) hx hb dX1_finish_188 (by decide) ?_
                            refine lv_icmp_ne (tgt := 210) hx hb dX1_finish_189 (by decide) (fun h7 => ?_) (fun h7 => ?_)
                            · skip
                              first | exact absurd h7 (by decide) | exact (h7 rfl).elim
                            · skip
                              refine lv_aload_n hx hb dX1_finish_192 rfl (lv_at hl 5 rfl) ?_
                              refine lv_iload hx hb dX1_finish_193 (lv_at hl 2 rfl) ?_
                              refine lv_iload hx hb dX1_finish_195 (lv_at hl 1 rfl) ?_
                              refine lv_lload_n hx hb dX1_finish_197 rfl (lv_at hl 3 rfl) ?_
                              refine lv_aload_n hx hb dX1_finish_198 rfl (lv_at hl 5 rfl) ?_
                              refine va_get (D := D) (ci := 1) (v := .ref (b 5)) (C := RX1) (T := TX1) (N := 7) hx hb hts (fun w h => wm (ui_X1 w h)) hown hK hP 0 rfl rfl 6 (by decide) (hts (.fieldLink RX1 23 "LinkedIndexModel" "given" "[J") (wm mb_54)) (fun _ h9 => h9) rfl dX1_finish_199 ?_
                              refine lv_iload_n hx hb dX1_finish_202 rfl (lv_at hl 6 rfl) ?_
                              refine x_lald (j := j) hx hb hK hP 5 4 rfl rfl (by omega) (by decide) dX1_finish_203 ?_
                              refine kn_l (wc := (wM b g 0 n K V (fun i9 => upd kd j (-1) i9 + 1) SK SV)) (wr := []) (w1 := (wM b g 0 (fpN n K (SK j) r) (fpK n K (SK j) r) (fpV n K V (SK j) (SV j) r) (fun i9 => upd kd j (-1) i9 + 1) SK SV)) (va_runV (As := [.int (nI r), .int 1, .long (SK j), .long (SV j)]) (rest := []) ⟨hx, hb, hml, hown, hts⟩ (m_put l hl9 D b g 0 n K V (upd kd j (-1)) SK SV r 1 (SK j) (SV j) H.size hle hn (by rw [if_pos h4]) (Or.inl h4)) (cwV 4 hts (gd_up (gd_V mb_62 mb_63 mb_64 mb_50 mb_65)) rfl rfl rfl (by decide +kernel) ⟨by decide, by decide⟩) ⟨cP_blind, va_recv (q0 := 0) (ci := 1) (q := (RX1, TX1, 7)) hK hP rfl rfl, cPre hP hD hK hS hA hZ [0, 1, 2, 3, 4, 5] rfl (by decide) [0, 1, 2, 3, 4] rfl⟩ rfl rfl hl.1 rfl (lv_room (Nat.le_of_ble_eq_true rfl)) dX1_finish_204 ⟨by decide, by decide⟩) hP hD hS hA [0, 1, 2, 3, 4, 5] [] rfl rfl (by decide) (by decide) (fun r9 H locs hp hP hD hS => ?_)
                              have hP : va_P D vwCl (wM b g 0 (fpN n K (SK j) r) (fpK n K (SK j) r) (fpV n K V (SK j) (SV j) r) (fun i9 => upd kd j (-1) i9 + 1) SK SV) H := hP
                              have hD : va_D A (wM b g 0 (fpN n K (SK j) r) (fpK n K (SK j) r) (fpV n K V (SK j) (SV j) r) (fun i9 => upd kd j (-1) i9 + 1) SK SV) := hD
                              refine lv_goto (tgt := 231) hx hb dX1_finish_207 (by decide) ?_
                              rw [show fpN n K (SK j) r = n from if_pos h4, show fpK n K (SK j) r = K from if_pos h4, show fpV n K V (SK j) (SV j) r = vp_updL V r (SV j) by unfold fpV; rw [if_pos h4]] at hP hD
                              rw [if_pos h4] at hp
                              have hf : fin n K V kd SK SV (nI j) = (0, 1, n, K, vp_updL V r (SV j), upd kd j (-1)) := by
                                unfold fin
                                rw [ix_n hj, ← hr0, if_pos (okS_n hj), if_neg (show ¬ kd j = -1 by rw [ek]; decide), if_pos ek, if_pos h4]
                              rw [hf]
                              exact fn_l hx hb hr hlocks (by decide) (by decide) (fun _ => hp) hP hK hD hS dX1_finish_231
                          · skip
                            first | exact absurd h7 (by decide) | exact (h7 rfl).elim
                        · skip
                          first | exact absurd h7 (by decide) | exact (h7 rfl).elim
                      · skip
                        first | exact absurd h7 (by decide) | exact (h7 rfl).elim
                    · skip
                      first | exact absurd h7 (by decide) | exact (h7 rfl).elim
                  · skip
                    first | exact absurd h7 (by decide) | exact (h7 rfl).elim
          · skip
            first | exact absurd h7 (by decide) | exact (h7 rfl).elim
        · skip
          first | exact absurd h7 (by decide) | exact (h7 rfl).elim
      · skip
        refine lv_aload_n hx hb dX1_finish_12 rfl (lv_at hl 0 rfl) ?_
        refine va_get (D := D) (ci := 1) (v := .ref (b 3)) (C := RX1) (T := TX1) (N := 7) hx hb hts (fun w h => wm (ui_X1 w h)) hown hK hP 0 rfl rfl 4 (by decide) (hts (.fieldLink RX1 16 "LinkedIndexModel" "kinds" "[I") (wm mb_52)) (fun _ h9 => h9) rfl dX1_finish_13 ?_
        refine lv_iload_n hx hb dX1_finish_16 rfl (lv_at hl 1 rfl) ?_
        refine x_iald (j := j) hx hb hK hP 3 2 rfl rfl (by omega) (by decide) dX1_finish_17 ?_
        refine xi (y := 3) ((congrArg (fun z : Int32 => z + 1) ek).trans (by decide)) ?_
        refine lv_if_ne (tgt := 25) hx hb dX1_finish_18 (by decide) (fun h7 => ?_) (fun h7 => ?_)
        · skip
          refine lv_iconst (v := 0) hx hb dX1_finish_25 (by decide) ?_
          refine va_put (D := D) (ci := 1) (v := .int 0) (ty := .int) (C := RX1) (T := TX1) (N := 7) hx hb hts (fun w h => wm (ui_X1 w h)) tyX1 tyX1_ok nmX1 hown hK hP hD hS 0 rfl rfl 0 (by decide) (hts (.fieldLink RX1 26 "LinkedIndexModel" "code" "I") (wm mb_47)) (fun _ h9 => h9) rfl (by decide +kernel) rfl rfl (Nat.le_of_ble_eq_true rfl) dX1_finish_26 (fun H locs hP hD hS => ?_)
          have hP : va_P D vwCl (wM b g 0 n K V (fun i9 => kd i9 + 1) SK SV) H := hP
          have hD : va_D A (wM b g 0 n K V (fun i9 => kd i9 + 1) SK SV) := hD
          refine lv_aload_n hx hb dX1_finish_29 rfl (lv_at hl 0 rfl) ?_
          refine va_get (D := D) (ci := 1) (v := .int 0) (C := RX1) (T := TX1) (N := 7) hx hb hts (fun w h => wm (ui_X1 w h)) hown hK hP 0 rfl rfl 0 (by decide) (hts (.fieldLink RX1 26 "LinkedIndexModel" "code" "I") (wm mb_47)) (fun _ h9 => h9) rfl dX1_finish_30 ?_
          refine lv_if_le (tgt := 38) hx hb dX1_finish_33 (by decide) (fun h7 => ?_) (fun h7 => ?_)
          · skip
            refine lv_aload_n hx hb dX1_finish_38 rfl (lv_at hl 0 rfl) ?_
            refine va_get (D := D) (ci := 1) (v := .ref (b 3)) (C := RX1) (T := TX1) (N := 7) hx hb hts (fun w h => wm (ui_X1 w h)) hown hK hP 0 rfl rfl 4 (by decide) (hts (.fieldLink RX1 16 "LinkedIndexModel" "kinds" "[I") (wm mb_52)) (fun _ h9 => h9) rfl dX1_finish_39 ?_
            refine lv_iload_n hx hb dX1_finish_42 rfl (lv_at hl 1 rfl) ?_
            refine x_iald (j := j) hx hb hK hP 3 2 rfl rfl (by omega) (by decide) dX1_finish_43 ?_
            refine lv_iconst (v := 1) hx hb dX1_finish_44 (by decide) ?_
            refine lv_isub hx hb dX1_finish_45 ?_
            refine xi (y := 2) ((congrArg (fun z : Int32 => z + 1 - 1) ek).trans (by decide)) ?_
            refine lv_istore_n (lv' := [(2, .int 2), (0, .ref (b 0)), (1, .int (nI j))]) hx hb dX1_finish_46 rfl hl (by decide) rfl (fun ls hl => ?_)
            refine lv_aload_n hx hb dX1_finish_47 rfl (lv_at hl 1 rfl) ?_
            refine va_get (D := D) (ci := 1) (v := .ref (b 4)) (C := RX1) (T := TX1) (N := 7) hx hb hts (fun w h => wm (ui_X1 w h)) hown hK hP 0 rfl rfl 5 (by decide) (hts (.fieldLink RX1 20 "LinkedIndexModel" "asked" "[J") (wm mb_53)) (fun _ h9 => h9) rfl dX1_finish_48 ?_
            refine lv_iload_n hx hb dX1_finish_51 rfl (lv_at hl 2 rfl) ?_
            refine x_lald (j := j) hx hb hK hP 4 3 rfl rfl (by omega) (by decide) dX1_finish_52 ?_
            refine lv_lstore_n (lv' := [(3, .long (SK j)), (2, .int 2), (0, .ref (b 0)), (1, .int (nI j))]) hx hb dX1_finish_53 rfl hl (by decide) rfl (fun ls hl => ?_)
            refine lv_aload_n hx hb dX1_finish_54 rfl (lv_at hl 2 rfl) ?_
            refine lv_lload_n hx hb dX1_finish_55 rfl (lv_at hl 0 rfl) ?_
            refine kn_i (wc := (wM b g 0 n K V (fun i9 => kd i9 + 1) SK SV)) (wr := []) (w1 := (wM b g 0 n K V (fun i9 => kd i9 + 1) SK SV)) (va_runV (As := [.long (SK j)]) (rest := []) ⟨hx, hb, hml, hown, hts⟩ (m_rank l hl9 D b g 0 n K V kd SK SV (SK j) H.size hn) (cwV 1 hts (gd_up (gd_V mb_58 mb_59 mb_60 mb_50 mb_61)) rfl rfl rfl (by decide +kernel) ⟨by decide, by decide⟩) ⟨cP_blind, va_recv (q0 := 0) (ci := 1) (q := (RX1, TX1, 7)) hK hP rfl rfl, cPre hP hD hK hS hA hZ [0, 1, 2, 3, 4, 5] rfl (by decide) [0, 1, 2, 3, 4] rfl⟩ rfl rfl hl.1 rfl (lv_room (Nat.le_of_ble_eq_true rfl)) dX1_finish_56 ⟨by decide, by decide⟩) hP hD hS hA [0, 1, 2, 3, 4, 5] [] rfl rfl (by decide) (by decide) (fun r9 H locs hp hP hD hS => ?_)
            have hP : va_P D vwCl (wM b g 0 n K V (fun i9 => kd i9 + 1) SK SV) H := hP
            have hD : va_D A (wM b g 0 n K V (fun i9 => kd i9 + 1) SK SV) := hD
            have hle := rk_le K (SK j) n
            obtain ⟨r, hr0⟩ : ∃ r, r = rk K (SK j) n := ⟨_, rfl⟩
            rw [← hr0] at hp hle
            subst hp
            refine lv_istore (lv' := [(5, .int (nI r)), (3, .long (SK j)), (2, .int 2), (0, .ref (b 0)), (1, .int (nI j))]) hx hb dX1_finish_59 hl (by decide) rfl (fun ls hl => ?_)
            refine lv_iload hx hb dX1_finish_61 (lv_at hl 0 rfl) ?_
            refine lv_aload_n hx hb dX1_finish_63 rfl (lv_at hl 3 rfl) ?_
            refine va_get (D := D) (ci := 1) (v := .int (nI n)) (C := RX1) (T := TX1) (N := 7) hx hb hts (fun w h => wm (ui_X1 w h)) hown hK hP 0 rfl rfl 1 (by decide) (hts (.fieldLink RX1 34 "LinkedIndexModel" "size" "I") (wm mb_55)) (fun _ h9 => h9) rfl dX1_finish_64 ?_
            refine lv_icmp_ge (tgt := 86) hx hb dX1_finish_67 (by decide) (fun h8 => ?_) (fun h8 => ?_)
            · skip
              have h3 : ¬ r < n := fun q => absurd ((nI_leI (by omega) (by omega)).mp h8) (by omega)
              have h4 : ¬ atR K n (SK j) r := fun q => h3 q.1
              refine lv_iconst (v := 0) hx hb dX1_finish_86 (by decide) ?_
              refine lv_istore (lv' := [(6, .int 0), (5, .int (nI r)), (3, .long (SK j)), (2, .int 2), (0, .ref (b 0)), (1, .int (nI j))]) hx hb dX1_finish_87 hl (by decide) rfl (fun ls hl => ?_)
              refine lv_iload_n hx hb dX1_finish_89 rfl (lv_at hl 3 rfl) ?_
              refine lv_iconst (v := 1) hx hb dX1_finish_90 (by decide) ?_
              refine lv_icmp_ne (tgt := 115) hx hb dX1_finish_91 (by decide) (fun h7 => ?_) (fun h7 => ?_)
              · skip
                refine lv_aload_n hx hb dX1_finish_115 rfl (lv_at hl 4 rfl) ?_
                refine va_get (D := D) (ci := 1) (v := .ref (b 3)) (C := RX1) (T := TX1) (N := 7) hx hb hts (fun w h => wm (ui_X1 w h)) hown hK hP 0 rfl rfl 4 (by decide) (hts (.fieldLink RX1 16 "LinkedIndexModel" "kinds" "[I") (wm mb_52)) (fun _ h9 => h9) rfl dX1_finish_116 ?_
                refine lv_iload_n hx hb dX1_finish_119 rfl (lv_at hl 5 rfl) ?_
                refine lv_iconst (v := 0) hx hb dX1_finish_120 (by decide) ?_
                refine x_iast (j := j) hx hb hK hP hD hS 3 2 rfl rfl (by omega) (by decide) dX1_finish_121 (fun H locs hP hD hS => ?_)
                have hP : va_P D vwCl (wM b g 0 n K V (upd (fun i9 => kd i9 + 1) j 0) SK SV) H := hP
                have hD : va_D A (wM b g 0 n K V (upd (fun i9 => kd i9 + 1) j 0) SK SV) := hD
                rw [upd_0] at hP hD
                refine lv_iload_n hx hb dX1_finish_122 rfl (lv_at hl 3 rfl) ?_
                refine lv_iconst (v := 3) hx hb dX1_finish_123 (by decide) ?_
                refine lv_icmp_ne (tgt := 144) hx hb dX1_finish_124 (by decide) (fun h7 => ?_) (fun h7 => ?_)
                · skip
                  refine lv_iload_n hx hb dX1_finish_144 rfl (lv_at hl 3 rfl) ?_
                  refine lv_iconst (v := 1) hx hb dX1_finish_145 (by decide) ?_
                  refine lv_icmp_eq (tgt := 158) hx hb dX1_finish_146 (by decide) (fun h7 => ?_) (fun h7 => ?_)
                  · skip
                    first | exact absurd h7 (by decide) | exact (h7 rfl).elim
                  · skip
                    refine lv_iload hx hb dX1_finish_149 (lv_at hl 0 rfl) ?_
                    refine lv_if_ne (tgt := 158) hx hb dX1_finish_151 (by decide) (fun h7 => ?_) (fun h7 => ?_)
                    · skip
                      first | exact absurd h7 (by decide) | exact (h7 rfl).elim
                    · skip
                      refine lv_iconst (v := 1) hx hb dX1_finish_154 (by decide) ?_
                      refine lv_goto (tgt := 159) hx hb dX1_finish_155 (by decide) ?_
                      refine lv_istore (lv' := [(7, .int 1), (6, .int 0), (5, .int (nI r)), (3, .long (SK j)), (2, .int 2), (0, .ref (b 0)), (1, .int (nI j))]) hx hb dX1_finish_159 hl (by decide) rfl (fun ls hl => ?_)
                      refine lv_iload hx hb dX1_finish_161 (lv_at hl 0 rfl) ?_
                      refine lv_if_eq (tgt := 173) hx hb dX1_finish_163 (by decide) (fun h7 => ?_) (fun h7 => ?_)
                      · skip
                        first | exact absurd h7 (by decide) | exact (h7 rfl).elim
                      · skip
                        refine lv_aload_n hx hb dX1_finish_166 rfl (lv_at hl 5 rfl) ?_
                        refine lv_iconst (v := 3) hx hb dX1_finish_167 (by decide) ?_
                        refine va_put (D := D) (ci := 1) (v := .int 3) (ty := .int) (C := RX1) (T := TX1) (N := 7) hx hb hts (fun w h => wm (ui_X1 w h)) tyX1 tyX1_ok nmX1 hown hK hP hD hS 0 rfl rfl 0 (by decide) (hts (.fieldLink RX1 26 "LinkedIndexModel" "code" "I") (wm mb_47)) (fun _ h9 => h9) rfl (by decide +kernel) rfl rfl (Nat.le_of_ble_eq_true rfl) dX1_finish_168 (fun H locs hP hD hS => ?_)
                        have hP : va_P D vwCl (wM b g 3 n K V (fun i9 => upd kd j (-1) i9 + 1) SK SV) H := hP
                        have hD : va_D A (wM b g 3 n K V (fun i9 => upd kd j (-1) i9 + 1) SK SV) := hD
                        refine lv_lconst (v := 0) hx hb dX1_finish_171 (by decide) ?_
                        have hf : fin n K V kd SK SV (nI j) = (3, 0, n, K, V, upd kd j (-1)) := by
                          unfold fin
                          rw [ix_n hj, ← hr0, if_pos (okS_n hj), if_neg (show ¬ kd j = -1 by rw [ek]; decide), if_neg (show ¬ kd j = 1 by rw [ek]; decide), if_neg (show ¬ kd j = 3 by rw [ek]; decide), if_neg h4]
                        rw [hf]
                        exact fn_l hx hb hr hlocks (by decide) (by decide) (fun q => absurd (show (3 : Int32) = 0 from q) (by decide)) hP hK hD hS dX1_finish_172
                · skip
                  first | exact absurd h7 (by decide) | exact (h7 rfl).elim
              · skip
                first | exact absurd h7 (by decide) | exact (h7 rfl).elim
            · skip
              have h3 : r < n := Nat.lt_of_not_le (fun q => h8 ((nI_leI (by omega) (by omega)).mpr q))
              refine lv_aload_n hx hb dX1_finish_70 rfl (lv_at hl 3 rfl) ?_
              refine va_get (D := D) (ci := 1) (v := .ref (b 1)) (C := RX1) (T := TX1) (N := 7) hx hb hts (fun w h => wm (ui_X1 w h)) hown hK hP 0 rfl rfl 2 (by decide) (hts (.fieldLink RX1 7 "LinkedIndexModel" "keys" "[J") (wm mb_56)) (fun _ h9 => h9) rfl dX1_finish_71 ?_
              refine lv_iload hx hb dX1_finish_74 (lv_at hl 0 rfl) ?_
              refine x_lald (j := r) hx hb hK hP 1 0 rfl rfl (by omega) (by decide) dX1_finish_76 ?_
              refine lv_lload_n hx hb dX1_finish_77 rfl (lv_at hl 1 rfl) ?_
              refine W.lcmp hx hb dX1_finish_78 ?_
              refine lv_if_ne (tgt := 86) hx hb dX1_finish_79 (by decide) (fun h8 => ?_) (fun h8 => ?_)
              · skip
                have h4 : ¬ atR K n (SK j) r := fun q => h8 ((lg_cmp_eq _ _).mpr q.2)
                refine lv_iconst (v := 0) hx hb dX1_finish_86 (by decide) ?_
                refine lv_istore (lv' := [(6, .int 0), (5, .int (nI r)), (3, .long (SK j)), (2, .int 2), (0, .ref (b 0)), (1, .int (nI j))]) hx hb dX1_finish_87 hl (by decide) rfl (fun ls hl => ?_)
                refine lv_iload_n hx hb dX1_finish_89 rfl (lv_at hl 3 rfl) ?_
                refine lv_iconst (v := 1) hx hb dX1_finish_90 (by decide) ?_
                refine lv_icmp_ne (tgt := 115) hx hb dX1_finish_91 (by decide) (fun h7 => ?_) (fun h7 => ?_)
                · skip
                  refine lv_aload_n hx hb dX1_finish_115 rfl (lv_at hl 4 rfl) ?_
                  refine va_get (D := D) (ci := 1) (v := .ref (b 3)) (C := RX1) (T := TX1) (N := 7) hx hb hts (fun w h => wm (ui_X1 w h)) hown hK hP 0 rfl rfl 4 (by decide) (hts (.fieldLink RX1 16 "LinkedIndexModel" "kinds" "[I") (wm mb_52)) (fun _ h9 => h9) rfl dX1_finish_116 ?_
                  refine lv_iload_n hx hb dX1_finish_119 rfl (lv_at hl 5 rfl) ?_
                  refine lv_iconst (v := 0) hx hb dX1_finish_120 (by decide) ?_
                  refine x_iast (j := j) hx hb hK hP hD hS 3 2 rfl rfl (by omega) (by decide) dX1_finish_121 (fun H locs hP hD hS => ?_)
                  have hP : va_P D vwCl (wM b g 0 n K V (upd (fun i9 => kd i9 + 1) j 0) SK SV) H := hP
                  have hD : va_D A (wM b g 0 n K V (upd (fun i9 => kd i9 + 1) j 0) SK SV) := hD
                  rw [upd_0] at hP hD
                  refine lv_iload_n hx hb dX1_finish_122 rfl (lv_at hl 3 rfl) ?_
                  refine lv_iconst (v := 3) hx hb dX1_finish_123 (by decide) ?_
                  refine lv_icmp_ne (tgt := 144) hx hb dX1_finish_124 (by decide) (fun h7 => ?_) (fun h7 => ?_)
                  · skip
                    refine lv_iload_n hx hb dX1_finish_144 rfl (lv_at hl 3 rfl) ?_
                    refine lv_iconst (v := 1) hx hb dX1_finish_145 (by decide) ?_
                    refine lv_icmp_eq (tgt := 158) hx hb dX1_finish_146 (by decide) (fun h7 => ?_) (fun h7 => ?_)
                    · skip
                      first | exact absurd h7 (by decide) | exact (h7 rfl).elim
                    · skip
                      refine lv_iload hx hb dX1_finish_149 (lv_at hl 0 rfl) ?_
                      refine lv_if_ne (tgt := 158) hx hb dX1_finish_151 (by decide) (fun h7 => ?_) (fun h7 => ?_)
                      · skip
                        first | exact absurd h7 (by decide) | exact (h7 rfl).elim
                      · skip
                        refine lv_iconst (v := 1) hx hb dX1_finish_154 (by decide) ?_
                        refine lv_goto (tgt := 159) hx hb dX1_finish_155 (by decide) ?_
                        refine lv_istore (lv' := [(7, .int 1), (6, .int 0), (5, .int (nI r)), (3, .long (SK j)), (2, .int 2), (0, .ref (b 0)), (1, .int (nI j))]) hx hb dX1_finish_159 hl (by decide) rfl (fun ls hl => ?_)
                        refine lv_iload hx hb dX1_finish_161 (lv_at hl 0 rfl) ?_
                        refine lv_if_eq (tgt := 173) hx hb dX1_finish_163 (by decide) (fun h7 => ?_) (fun h7 => ?_)
                        · skip
                          first | exact absurd h7 (by decide) | exact (h7 rfl).elim
                        · skip
                          refine lv_aload_n hx hb dX1_finish_166 rfl (lv_at hl 5 rfl) ?_
                          refine lv_iconst (v := 3) hx hb dX1_finish_167 (by decide) ?_
                          refine va_put (D := D) (ci := 1) (v := .int 3) (ty := .int) (C := RX1) (T := TX1) (N := 7) hx hb hts (fun w h => wm (ui_X1 w h)) tyX1 tyX1_ok nmX1 hown hK hP hD hS 0 rfl rfl 0 (by decide) (hts (.fieldLink RX1 26 "LinkedIndexModel" "code" "I") (wm mb_47)) (fun _ h9 => h9) rfl (by decide +kernel) rfl rfl (Nat.le_of_ble_eq_true rfl) dX1_finish_168 (fun H locs hP hD hS => ?_)
                          have hP : va_P D vwCl (wM b g 3 n K V (fun i9 => upd kd j (-1) i9 + 1) SK SV) H := hP
                          have hD : va_D A (wM b g 3 n K V (fun i9 => upd kd j (-1) i9 + 1) SK SV) := hD
                          refine lv_lconst (v := 0) hx hb dX1_finish_171 (by decide) ?_
                          have hf : fin n K V kd SK SV (nI j) = (3, 0, n, K, V, upd kd j (-1)) := by
                            unfold fin
                            rw [ix_n hj, ← hr0, if_pos (okS_n hj), if_neg (show ¬ kd j = -1 by rw [ek]; decide), if_neg (show ¬ kd j = 1 by rw [ek]; decide), if_neg (show ¬ kd j = 3 by rw [ek]; decide), if_neg h4]
                          rw [hf]
                          exact fn_l hx hb hr hlocks (by decide) (by decide) (fun q => absurd (show (3 : Int32) = 0 from q) (by decide)) hP hK hD hS dX1_finish_172
                  · skip
                    first | exact absurd h7 (by decide) | exact (h7 rfl).elim
                · skip
                  first | exact absurd h7 (by decide) | exact (h7 rfl).elim
              · skip
                have h4 : atR K n (SK j) r := ⟨h3, (lg_cmp_eq _ _).mp h8⟩
                refine lv_iconst (v := 1) hx hb dX1_finish_82 (by decide) ?_
                refine lv_goto (tgt := 87) hx hb dX1_finish_83 (by decide) ?_
                refine lv_istore (lv' := [(6, .int 1), (5, .int (nI r)), (3, .long (SK j)), (2, .int 2), (0, .ref (b 0)), (1, .int (nI j))]) hx hb dX1_finish_87 hl (by decide) rfl (fun ls hl => ?_)
                refine lv_iload_n hx hb dX1_finish_89 rfl (lv_at hl 3 rfl) ?_
                refine lv_iconst (v := 1) hx hb dX1_finish_90 (by decide) ?_
                refine lv_icmp_ne (tgt := 115) hx hb dX1_finish_91 (by decide) (fun h7 => ?_) (fun h7 => ?_)
                · skip
                  refine lv_aload_n hx hb dX1_finish_115 rfl (lv_at hl 4 rfl) ?_
                  refine va_get (D := D) (ci := 1) (v := .ref (b 3)) (C := RX1) (T := TX1) (N := 7) hx hb hts (fun w h => wm (ui_X1 w h)) hown hK hP 0 rfl rfl 4 (by decide) (hts (.fieldLink RX1 16 "LinkedIndexModel" "kinds" "[I") (wm mb_52)) (fun _ h9 => h9) rfl dX1_finish_116 ?_
                  refine lv_iload_n hx hb dX1_finish_119 rfl (lv_at hl 5 rfl) ?_
                  refine lv_iconst (v := 0) hx hb dX1_finish_120 (by decide) ?_
                  refine x_iast (j := j) hx hb hK hP hD hS 3 2 rfl rfl (by omega) (by decide) dX1_finish_121 (fun H locs hP hD hS => ?_)
                  have hP : va_P D vwCl (wM b g 0 n K V (upd (fun i9 => kd i9 + 1) j 0) SK SV) H := hP
                  have hD : va_D A (wM b g 0 n K V (upd (fun i9 => kd i9 + 1) j 0) SK SV) := hD
                  rw [upd_0] at hP hD
                  refine lv_iload_n hx hb dX1_finish_122 rfl (lv_at hl 3 rfl) ?_
                  refine lv_iconst (v := 3) hx hb dX1_finish_123 (by decide) ?_
                  refine lv_icmp_ne (tgt := 144) hx hb dX1_finish_124 (by decide) (fun h7 => ?_) (fun h7 => ?_)
                  · skip
                    refine lv_iload_n hx hb dX1_finish_144 rfl (lv_at hl 3 rfl) ?_
                    refine lv_iconst (v := 1) hx hb dX1_finish_145 (by decide) ?_
                    refine lv_icmp_eq (tgt := 158) hx hb dX1_finish_146 (by decide) (fun h7 => ?_) (fun h7 => ?_)
                    · skip
                      first | exact absurd h7 (by decide) | exact (h7 rfl).elim
                    · skip
                      refine lv_iload hx hb dX1_finish_149 (lv_at hl 0 rfl) ?_
                      refine lv_if_ne (tgt := 158) hx hb dX1_finish_151 (by decide) (fun h7 => ?_) (fun h7 => ?_)
                      · skip
                        refine lv_iconst (v := 0) hx hb dX1_finish_158 (by decide) ?_
                        refine lv_istore (lv' := [(7, .int 0), (6, .int 1), (5, .int (nI r)), (3, .long (SK j)), (2, .int 2), (0, .ref (b 0)), (1, .int (nI j))]) hx hb dX1_finish_159 hl (by decide) rfl (fun ls hl => ?_)
                        refine lv_iload hx hb dX1_finish_161 (lv_at hl 0 rfl) ?_
                        refine lv_if_eq (tgt := 173) hx hb dX1_finish_163 (by decide) (fun h7 => ?_) (fun h7 => ?_)
                        · skip
                          refine lv_iload_n hx hb dX1_finish_173 rfl (lv_at hl 4 rfl) ?_
                          refine lv_if_ne (tgt := 187) hx hb dX1_finish_174 (by decide) (fun h7 => ?_) (fun h7 => ?_)
                          · skip
                            refine lv_iload_n hx hb dX1_finish_187 rfl (lv_at hl 4 rfl) ?_
                            refine lv_iconst (v := 1) hx hb dX1_finish_188 (by decide) ?_
                            refine lv_icmp_ne (tgt := 210) hx hb dX1_finish_189 (by decide) (fun h7 => ?_) (fun h7 => ?_)
                            · skip
                              refine lv_iload_n hx hb dX1_finish_210 rfl (lv_at hl 4 rfl) ?_
                              refine lv_iconst (v := 2) hx hb dX1_finish_211 (by decide) ?_
                              refine lv_icmp_ne (tgt := 224) hx hb dX1_finish_212 (by decide) (fun h7 => ?_) (fun h7 => ?_)
                              · skip
                                first | exact absurd h7 (by decide) | exact (h7 rfl).elim
                              · skip
                                refine lv_aload_n hx hb dX1_finish_215 rfl (lv_at hl 5 rfl) ?_
                                refine lv_iload hx hb dX1_finish_216 (lv_at hl 2 rfl) ?_
                                have hlt := h4.1
                                refine kn_l (wc := (wM b g 0 n K V (fun i9 => upd kd j (-1) i9 + 1) SK SV)) (wr := []) (w1 := (wM b g 0 (n - 1) (clF (n - 1 - r) r K) (clF (n - 1 - r) r V) (fun i9 => upd kd j (-1) i9 + 1) SK SV)) (va_runV (As := [.int (nI r)]) (rest := []) ⟨hx, hb, hml, hown, hts⟩ (m_take l hl9 D b g 0 n K V (upd kd j (-1)) SK SV r H.size hlt hn) (cwV 1 hts (gd_up (gd_V mb_66 mb_67 mb_68 mb_50 mb_69)) rfl rfl rfl (by decide +kernel) ⟨by decide, by decide⟩) ⟨cP_blind, va_recv (q0 := 0) (ci := 1) (q := (RX1, TX1, 7)) hK hP rfl rfl, cPre hP hD hK hS hA hZ [0, 1, 2, 3, 4, 5] rfl (by decide) [0, 1, 2, 3, 4] rfl⟩ rfl rfl hl.1 rfl (lv_room (Nat.le_of_ble_eq_true rfl)) dX1_finish_218 ⟨by decide, by decide⟩) hP hD hS hA [0, 1, 2, 3, 4, 5] [] rfl rfl (by decide) (by decide) (fun r9 H locs hp hP hD hS => ?_)
                                have hP : va_P D vwCl (wM b g 0 (n - 1) (clF (n - 1 - r) r K) (clF (n - 1 - r) r V) (fun i9 => upd kd j (-1) i9 + 1) SK SV) H := hP
                                have hD : va_D A (wM b g 0 (n - 1) (clF (n - 1 - r) r K) (clF (n - 1 - r) r V) (fun i9 => upd kd j (-1) i9 + 1) SK SV) := hD
                                refine lv_goto (tgt := 231) hx hb dX1_finish_221 (by decide) ?_
                                have hf : fin n K V kd SK SV (nI j) = (0, V r, n - 1, clF (n - 1 - r) r K, clF (n - 1 - r) r V, upd kd j (-1)) := by
                                  unfold fin
                                  rw [ix_n hj, ← hr0, if_pos (okS_n hj), if_neg (show ¬ kd j = -1 by rw [ek]; decide), if_neg (show ¬ kd j = 1 by rw [ek]; decide), if_neg (show ¬ kd j = 3 by rw [ek]; decide), if_pos h4, if_pos ek]
                                rw [hf]
                                exact fn_l hx hb hr hlocks (by decide) (by decide) (fun _ => hp) hP hK hD hS dX1_finish_231
                            · skip
                              first | exact absurd h7 (by decide) | exact (h7 rfl).elim
                          · skip
                            first | exact absurd h7 (by decide) | exact (h7 rfl).elim
                        · skip
                          first | exact absurd h7 (by decide) | exact (h7 rfl).elim
                      · skip
                        first | exact absurd h7 (by decide) | exact (h7 rfl).elim
                  · skip
                    first | exact absurd h7 (by decide) | exact (h7 rfl).elim
                · skip
                  first | exact absurd h7 (by decide) | exact (h7 rfl).elim
          · skip
            first | exact absurd h7 (by decide) | exact (h7 rfl).elim
        · skip
          first | exact absurd h7 (by decide) | exact (h7 rfl).elim
      · skip
        refine lv_aload_n hx hb dX1_finish_12 rfl (lv_at hl 0 rfl) ?_
        refine va_get (D := D) (ci := 1) (v := .ref (b 3)) (C := RX1) (T := TX1) (N := 7) hx hb hts (fun w h => wm (ui_X1 w h)) hown hK hP 0 rfl rfl 4 (by decide) (hts (.fieldLink RX1 16 "LinkedIndexModel" "kinds" "[I") (wm mb_52)) (fun _ h9 => h9) rfl dX1_finish_13 ?_
        refine lv_iload_n hx hb dX1_finish_16 rfl (lv_at hl 1 rfl) ?_
        refine x_iald (j := j) hx hb hK hP 3 2 rfl rfl (by omega) (by decide) dX1_finish_17 ?_
        refine xi (y := 4) ((congrArg (fun z : Int32 => z + 1) ek).trans (by decide)) ?_
        refine lv_if_ne (tgt := 25) hx hb dX1_finish_18 (by decide) (fun h7 => ?_) (fun h7 => ?_)
        · skip
          refine lv_iconst (v := 0) hx hb dX1_finish_25 (by decide) ?_
          refine va_put (D := D) (ci := 1) (v := .int 0) (ty := .int) (C := RX1) (T := TX1) (N := 7) hx hb hts (fun w h => wm (ui_X1 w h)) tyX1 tyX1_ok nmX1 hown hK hP hD hS 0 rfl rfl 0 (by decide) (hts (.fieldLink RX1 26 "LinkedIndexModel" "code" "I") (wm mb_47)) (fun _ h9 => h9) rfl (by decide +kernel) rfl rfl (Nat.le_of_ble_eq_true rfl) dX1_finish_26 (fun H locs hP hD hS => ?_)
          have hP : va_P D vwCl (wM b g 0 n K V (fun i9 => kd i9 + 1) SK SV) H := hP
          have hD : va_D A (wM b g 0 n K V (fun i9 => kd i9 + 1) SK SV) := hD
          refine lv_aload_n hx hb dX1_finish_29 rfl (lv_at hl 0 rfl) ?_
          refine va_get (D := D) (ci := 1) (v := .int 0) (C := RX1) (T := TX1) (N := 7) hx hb hts (fun w h => wm (ui_X1 w h)) hown hK hP 0 rfl rfl 0 (by decide) (hts (.fieldLink RX1 26 "LinkedIndexModel" "code" "I") (wm mb_47)) (fun _ h9 => h9) rfl dX1_finish_30 ?_
          refine lv_if_le (tgt := 38) hx hb dX1_finish_33 (by decide) (fun h7 => ?_) (fun h7 => ?_)
          · skip
            refine lv_aload_n hx hb dX1_finish_38 rfl (lv_at hl 0 rfl) ?_
            refine va_get (D := D) (ci := 1) (v := .ref (b 3)) (C := RX1) (T := TX1) (N := 7) hx hb hts (fun w h => wm (ui_X1 w h)) hown hK hP 0 rfl rfl 4 (by decide) (hts (.fieldLink RX1 16 "LinkedIndexModel" "kinds" "[I") (wm mb_52)) (fun _ h9 => h9) rfl dX1_finish_39 ?_
            refine lv_iload_n hx hb dX1_finish_42 rfl (lv_at hl 1 rfl) ?_
            refine x_iald (j := j) hx hb hK hP 3 2 rfl rfl (by omega) (by decide) dX1_finish_43 ?_
            refine lv_iconst (v := 1) hx hb dX1_finish_44 (by decide) ?_
            refine lv_isub hx hb dX1_finish_45 ?_
            refine xi (y := 3) ((congrArg (fun z : Int32 => z + 1 - 1) ek).trans (by decide)) ?_
            refine lv_istore_n (lv' := [(2, .int 3), (0, .ref (b 0)), (1, .int (nI j))]) hx hb dX1_finish_46 rfl hl (by decide) rfl (fun ls hl => ?_)
            refine lv_aload_n hx hb dX1_finish_47 rfl (lv_at hl 1 rfl) ?_
            refine va_get (D := D) (ci := 1) (v := .ref (b 4)) (C := RX1) (T := TX1) (N := 7) hx hb hts (fun w h => wm (ui_X1 w h)) hown hK hP 0 rfl rfl 5 (by decide) (hts (.fieldLink RX1 20 "LinkedIndexModel" "asked" "[J") (wm mb_53)) (fun _ h9 => h9) rfl dX1_finish_48 ?_
            refine lv_iload_n hx hb dX1_finish_51 rfl (lv_at hl 2 rfl) ?_
            refine x_lald (j := j) hx hb hK hP 4 3 rfl rfl (by omega) (by decide) dX1_finish_52 ?_
            refine lv_lstore_n (lv' := [(3, .long (SK j)), (2, .int 3), (0, .ref (b 0)), (1, .int (nI j))]) hx hb dX1_finish_53 rfl hl (by decide) rfl (fun ls hl => ?_)
            refine lv_aload_n hx hb dX1_finish_54 rfl (lv_at hl 2 rfl) ?_
            refine lv_lload_n hx hb dX1_finish_55 rfl (lv_at hl 0 rfl) ?_
            refine kn_i (wc := (wM b g 0 n K V (fun i9 => kd i9 + 1) SK SV)) (wr := []) (w1 := (wM b g 0 n K V (fun i9 => kd i9 + 1) SK SV)) (va_runV (As := [.long (SK j)]) (rest := []) ⟨hx, hb, hml, hown, hts⟩ (m_rank l hl9 D b g 0 n K V kd SK SV (SK j) H.size hn) (cwV 1 hts (gd_up (gd_V mb_58 mb_59 mb_60 mb_50 mb_61)) rfl rfl rfl (by decide +kernel) ⟨by decide, by decide⟩) ⟨cP_blind, va_recv (q0 := 0) (ci := 1) (q := (RX1, TX1, 7)) hK hP rfl rfl, cPre hP hD hK hS hA hZ [0, 1, 2, 3, 4, 5] rfl (by decide) [0, 1, 2, 3, 4] rfl⟩ rfl rfl hl.1 rfl (lv_room (Nat.le_of_ble_eq_true rfl)) dX1_finish_56 ⟨by decide, by decide⟩) hP hD hS hA [0, 1, 2, 3, 4, 5] [] rfl rfl (by decide) (by decide) (fun r9 H locs hp hP hD hS => ?_)
            have hP : va_P D vwCl (wM b g 0 n K V (fun i9 => kd i9 + 1) SK SV) H := hP
            have hD : va_D A (wM b g 0 n K V (fun i9 => kd i9 + 1) SK SV) := hD
            have hle := rk_le K (SK j) n
            obtain ⟨r, hr0⟩ : ∃ r, r = rk K (SK j) n := ⟨_, rfl⟩
            rw [← hr0] at hp hle
            subst hp
            refine lv_istore (lv' := [(5, .int (nI r)), (3, .long (SK j)), (2, .int 3), (0, .ref (b 0)), (1, .int (nI j))]) hx hb dX1_finish_59 hl (by decide) rfl (fun ls hl => ?_)
            refine lv_iload hx hb dX1_finish_61 (lv_at hl 0 rfl) ?_
            refine lv_aload_n hx hb dX1_finish_63 rfl (lv_at hl 3 rfl) ?_
            refine va_get (D := D) (ci := 1) (v := .int (nI n)) (C := RX1) (T := TX1) (N := 7) hx hb hts (fun w h => wm (ui_X1 w h)) hown hK hP 0 rfl rfl 1 (by decide) (hts (.fieldLink RX1 34 "LinkedIndexModel" "size" "I") (wm mb_55)) (fun _ h9 => h9) rfl dX1_finish_64 ?_
            refine lv_icmp_ge (tgt := 86) hx hb dX1_finish_67 (by decide) (fun h8 => ?_) (fun h8 => ?_)
            · skip
              have h3 : ¬ r < n := fun q => absurd ((nI_leI (by omega) (by omega)).mp h8) (by omega)
              have h4 : ¬ atR K n (SK j) r := fun q => h3 q.1
              refine lv_iconst (v := 0) hx hb dX1_finish_86 (by decide) ?_
              refine lv_istore (lv' := [(6, .int 0), (5, .int (nI r)), (3, .long (SK j)), (2, .int 3), (0, .ref (b 0)), (1, .int (nI j))]) hx hb dX1_finish_87 hl (by decide) rfl (fun ls hl => ?_)
              refine lv_iload_n hx hb dX1_finish_89 rfl (lv_at hl 3 rfl) ?_
              refine lv_iconst (v := 1) hx hb dX1_finish_90 (by decide) ?_
              refine lv_icmp_ne (tgt := 115) hx hb dX1_finish_91 (by decide) (fun h7 => ?_) (fun h7 => ?_)
              · skip
                refine lv_aload_n hx hb dX1_finish_115 rfl (lv_at hl 4 rfl) ?_
                refine va_get (D := D) (ci := 1) (v := .ref (b 3)) (C := RX1) (T := TX1) (N := 7) hx hb hts (fun w h => wm (ui_X1 w h)) hown hK hP 0 rfl rfl 4 (by decide) (hts (.fieldLink RX1 16 "LinkedIndexModel" "kinds" "[I") (wm mb_52)) (fun _ h9 => h9) rfl dX1_finish_116 ?_
                refine lv_iload_n hx hb dX1_finish_119 rfl (lv_at hl 5 rfl) ?_
                refine lv_iconst (v := 0) hx hb dX1_finish_120 (by decide) ?_
                refine x_iast (j := j) hx hb hK hP hD hS 3 2 rfl rfl (by omega) (by decide) dX1_finish_121 (fun H locs hP hD hS => ?_)
                have hP : va_P D vwCl (wM b g 0 n K V (upd (fun i9 => kd i9 + 1) j 0) SK SV) H := hP
                have hD : va_D A (wM b g 0 n K V (upd (fun i9 => kd i9 + 1) j 0) SK SV) := hD
                rw [upd_0] at hP hD
                refine lv_iload_n hx hb dX1_finish_122 rfl (lv_at hl 3 rfl) ?_
                refine lv_iconst (v := 3) hx hb dX1_finish_123 (by decide) ?_
                refine lv_icmp_ne (tgt := 144) hx hb dX1_finish_124 (by decide) (fun h7 => ?_) (fun h7 => ?_)
                · skip
                  first | exact absurd h7 (by decide) | exact (h7 rfl).elim
                · skip
                  refine lv_iload hx hb dX1_finish_127 (lv_at hl 1 rfl) ?_
                  refine lv_aload_n hx hb dX1_finish_129 rfl (lv_at hl 4 rfl) ?_
                  refine va_get (D := D) (ci := 1) (v := .int (nI n)) (C := RX1) (T := TX1) (N := 7) hx hb hts (fun w h => wm (ui_X1 w h)) hown hK hP 0 rfl rfl 1 (by decide) (hts (.fieldLink RX1 34 "LinkedIndexModel" "size" "I") (wm mb_55)) (fun _ h9 => h9) rfl dX1_finish_130 ?_
                  refine lv_icmp_ne (tgt := 140) hx hb dX1_finish_133 (by decide) (fun h8 => ?_) (fun h8 => ?_)
                  · skip
                    exact (h8 (by rw [show r = n by omega])).elim
                  · skip
                    refine lv_iconst (v := 1) hx hb dX1_finish_136 (by decide) ?_
                    refine lv_goto (tgt := 159) hx hb dX1_finish_137 (by decide) ?_
                    refine lv_istore (lv' := [(7, .int 1), (6, .int 0), (5, .int (nI r)), (3, .long (SK j)), (2, .int 3), (0, .ref (b 0)), (1, .int (nI j))]) hx hb dX1_finish_159 hl (by decide) rfl (fun ls hl => ?_)
                    refine lv_iload hx hb dX1_finish_161 (lv_at hl 0 rfl) ?_
                    refine lv_if_eq (tgt := 173) hx hb dX1_finish_163 (by decide) (fun h7 => ?_) (fun h7 => ?_)
                    · skip
                      first | exact absurd h7 (by decide) | exact (h7 rfl).elim
                    · skip
                      refine lv_aload_n hx hb dX1_finish_166 rfl (lv_at hl 5 rfl) ?_
                      refine lv_iconst (v := 3) hx hb dX1_finish_167 (by decide) ?_
                      refine va_put (D := D) (ci := 1) (v := .int 3) (ty := .int) (C := RX1) (T := TX1) (N := 7) hx hb hts (fun w h => wm (ui_X1 w h)) tyX1 tyX1_ok nmX1 hown hK hP hD hS 0 rfl rfl 0 (by decide) (hts (.fieldLink RX1 26 "LinkedIndexModel" "code" "I") (wm mb_47)) (fun _ h9 => h9) rfl (by decide +kernel) rfl rfl (Nat.le_of_ble_eq_true rfl) dX1_finish_168 (fun H locs hP hD hS => ?_)
                      have hP : va_P D vwCl (wM b g 3 n K V (fun i9 => upd kd j (-1) i9 + 1) SK SV) H := hP
                      have hD : va_D A (wM b g 3 n K V (fun i9 => upd kd j (-1) i9 + 1) SK SV) := hD
                      refine lv_lconst (v := 0) hx hb dX1_finish_171 (by decide) ?_
                      have hf : fin n K V kd SK SV (nI j) = (3, 0, n, K, V, upd kd j (-1)) := by
                        unfold fin
                        rw [ix_n hj, ← hr0, if_pos (okS_n hj), if_neg (show ¬ kd j = -1 by rw [ek]; decide), if_neg (show ¬ kd j = 1 by rw [ek]; decide), if_pos ek, if_neg h3]
                      rw [hf]
                      exact fn_l hx hb hr hlocks (by decide) (by decide) (fun q => absurd (show (3 : Int32) = 0 from q) (by decide)) hP hK hD hS dX1_finish_172
              · skip
                first | exact absurd h7 (by decide) | exact (h7 rfl).elim
            · skip
              have h3 : r < n := Nat.lt_of_not_le (fun q => h8 ((nI_leI (by omega) (by omega)).mpr q))
              refine lv_aload_n hx hb dX1_finish_70 rfl (lv_at hl 3 rfl) ?_
              refine va_get (D := D) (ci := 1) (v := .ref (b 1)) (C := RX1) (T := TX1) (N := 7) hx hb hts (fun w h => wm (ui_X1 w h)) hown hK hP 0 rfl rfl 2 (by decide) (hts (.fieldLink RX1 7 "LinkedIndexModel" "keys" "[J") (wm mb_56)) (fun _ h9 => h9) rfl dX1_finish_71 ?_
              refine lv_iload hx hb dX1_finish_74 (lv_at hl 0 rfl) ?_
              refine x_lald (j := r) hx hb hK hP 1 0 rfl rfl (by omega) (by decide) dX1_finish_76 ?_
              refine lv_lload_n hx hb dX1_finish_77 rfl (lv_at hl 1 rfl) ?_
              refine W.lcmp hx hb dX1_finish_78 ?_
              refine lv_if_ne (tgt := 86) hx hb dX1_finish_79 (by decide) (fun h8 => ?_) (fun h8 => ?_)
              · skip
                have h4 : ¬ atR K n (SK j) r := fun q => h8 ((lg_cmp_eq _ _).mpr q.2)
                refine lv_iconst (v := 0) hx hb dX1_finish_86 (by decide) ?_
                refine lv_istore (lv' := [(6, .int 0), (5, .int (nI r)), (3, .long (SK j)), (2, .int 3), (0, .ref (b 0)), (1, .int (nI j))]) hx hb dX1_finish_87 hl (by decide) rfl (fun ls hl => ?_)
                refine lv_iload_n hx hb dX1_finish_89 rfl (lv_at hl 3 rfl) ?_
                refine lv_iconst (v := 1) hx hb dX1_finish_90 (by decide) ?_
                refine lv_icmp_ne (tgt := 115) hx hb dX1_finish_91 (by decide) (fun h7 => ?_) (fun h7 => ?_)
                · skip
                  refine lv_aload_n hx hb dX1_finish_115 rfl (lv_at hl 4 rfl) ?_
                  refine va_get (D := D) (ci := 1) (v := .ref (b 3)) (C := RX1) (T := TX1) (N := 7) hx hb hts (fun w h => wm (ui_X1 w h)) hown hK hP 0 rfl rfl 4 (by decide) (hts (.fieldLink RX1 16 "LinkedIndexModel" "kinds" "[I") (wm mb_52)) (fun _ h9 => h9) rfl dX1_finish_116 ?_
                  refine lv_iload_n hx hb dX1_finish_119 rfl (lv_at hl 5 rfl) ?_
                  refine lv_iconst (v := 0) hx hb dX1_finish_120 (by decide) ?_
                  refine x_iast (j := j) hx hb hK hP hD hS 3 2 rfl rfl (by omega) (by decide) dX1_finish_121 (fun H locs hP hD hS => ?_)
                  have hP : va_P D vwCl (wM b g 0 n K V (upd (fun i9 => kd i9 + 1) j 0) SK SV) H := hP
                  have hD : va_D A (wM b g 0 n K V (upd (fun i9 => kd i9 + 1) j 0) SK SV) := hD
                  rw [upd_0] at hP hD
                  refine lv_iload_n hx hb dX1_finish_122 rfl (lv_at hl 3 rfl) ?_
                  refine lv_iconst (v := 3) hx hb dX1_finish_123 (by decide) ?_
                  refine lv_icmp_ne (tgt := 144) hx hb dX1_finish_124 (by decide) (fun h7 => ?_) (fun h7 => ?_)
                  · skip
                    first | exact absurd h7 (by decide) | exact (h7 rfl).elim
                  · skip
                    refine lv_iload hx hb dX1_finish_127 (lv_at hl 1 rfl) ?_
                    refine lv_aload_n hx hb dX1_finish_129 rfl (lv_at hl 4 rfl) ?_
                    refine va_get (D := D) (ci := 1) (v := .int (nI n)) (C := RX1) (T := TX1) (N := 7) hx hb hts (fun w h => wm (ui_X1 w h)) hown hK hP 0 rfl rfl 1 (by decide) (hts (.fieldLink RX1 34 "LinkedIndexModel" "size" "I") (wm mb_55)) (fun _ h9 => h9) rfl dX1_finish_130 ?_
                    refine lv_icmp_ne (tgt := 140) hx hb dX1_finish_133 (by decide) (fun h8 => ?_) (fun h8 => ?_)
                    · skip
                      refine lv_iconst (v := 0) hx hb dX1_finish_140 (by decide) ?_
                      refine lv_goto (tgt := 159) hx hb dX1_finish_141 (by decide) ?_
                      refine lv_istore (lv' := [(7, .int 0), (6, .int 0), (5, .int (nI r)), (3, .long (SK j)), (2, .int 3), (0, .ref (b 0)), (1, .int (nI j))]) hx hb dX1_finish_159 hl (by decide) rfl (fun ls hl => ?_)
                      refine lv_iload hx hb dX1_finish_161 (lv_at hl 0 rfl) ?_
                      refine lv_if_eq (tgt := 173) hx hb dX1_finish_163 (by decide) (fun h7 => ?_) (fun h7 => ?_)
                      · skip
                        refine lv_iload_n hx hb dX1_finish_173 rfl (lv_at hl 4 rfl) ?_
                        refine lv_if_ne (tgt := 187) hx hb dX1_finish_174 (by decide) (fun h7 => ?_) (fun h7 => ?_)
                        · skip
                          refine lv_iload_n hx hb dX1_finish_187 rfl (lv_at hl 4 rfl) ?_
                          refine lv_iconst (v := 1) hx hb dX1_finish_188 (by decide) ?_
                          refine lv_icmp_ne (tgt := 210) hx hb dX1_finish_189 (by decide) (fun h7 => ?_) (fun h7 => ?_)
                          · skip
                            refine lv_iload_n hx hb dX1_finish_210 rfl (lv_at hl 4 rfl) ?_
                            refine lv_iconst (v := 2) hx hb dX1_finish_211 (by decide) ?_
                            refine lv_icmp_ne (tgt := 224) hx hb dX1_finish_212 (by decide) (fun h7 => ?_) (fun h7 => ?_)
                            · skip
                              refine lv_aload_n hx hb dX1_finish_224 rfl (lv_at hl 5 rfl) ?_
                              refine va_get (D := D) (ci := 1) (v := .ref (b 1)) (C := RX1) (T := TX1) (N := 7) hx hb hts (fun w h => wm (ui_X1 w h)) hown hK hP 0 rfl rfl 2 (by decide) (hts (.fieldLink RX1 7 "LinkedIndexModel" "keys" "[J") (wm mb_56)) (fun _ h9 => h9) rfl dX1_finish_225 ?_
                              refine lv_iload hx hb dX1_finish_228 (lv_at hl 2 rfl) ?_
                              refine x_lald (j := r) hx hb hK hP 1 0 rfl rfl (by omega) (by decide) dX1_finish_230 ?_
                              have hf : fin n K V kd SK SV (nI j) = (0, K r, n, K, V, upd kd j (-1)) := by
                                unfold fin
                                rw [ix_n hj, ← hr0, if_pos (okS_n hj), if_neg (show ¬ kd j = -1 by rw [ek]; decide), if_neg (show ¬ kd j = 1 by rw [ek]; decide), if_pos ek, if_pos h3]
                              rw [hf]
                              exact fn_l hx hb hr hlocks (by decide) (by decide) (fun _ => rfl) hP hK hD hS dX1_finish_231
                            · skip
                              first | exact absurd h7 (by decide) | exact (h7 rfl).elim
                          · skip
                            first | exact absurd h7 (by decide) | exact (h7 rfl).elim
                        · skip
                          first | exact absurd h7 (by decide) | exact (h7 rfl).elim
                      · skip
                        first | exact absurd h7 (by decide) | exact (h7 rfl).elim
                    · skip
                      exact absurd ((nI_eq (by omega) (by omega)).mp h8) (by omega)
                · skip
                  first | exact absurd h7 (by decide) | exact (h7 rfl).elim
              · skip
                have h4 : atR K n (SK j) r := ⟨h3, (lg_cmp_eq _ _).mp h8⟩
                refine lv_iconst (v := 1) hx hb dX1_finish_82 (by decide) ?_
                refine lv_goto (tgt := 87) hx hb dX1_finish_83 (by decide) ?_
                refine lv_istore (lv' := [(6, .int 1), (5, .int (nI r)), (3, .long (SK j)), (2, .int 3), (0, .ref (b 0)), (1, .int (nI j))]) hx hb dX1_finish_87 hl (by decide) rfl (fun ls hl => ?_)
                refine lv_iload_n hx hb dX1_finish_89 rfl (lv_at hl 3 rfl) ?_
                refine lv_iconst (v := 1) hx hb dX1_finish_90 (by decide) ?_
                refine lv_icmp_ne (tgt := 115) hx hb dX1_finish_91 (by decide) (fun h7 => ?_) (fun h7 => ?_)
                · skip
                  refine lv_aload_n hx hb dX1_finish_115 rfl (lv_at hl 4 rfl) ?_
                  refine va_get (D := D) (ci := 1) (v := .ref (b 3)) (C := RX1) (T := TX1) (N := 7) hx hb hts (fun w h => wm (ui_X1 w h)) hown hK hP 0 rfl rfl 4 (by decide) (hts (.fieldLink RX1 16 "LinkedIndexModel" "kinds" "[I") (wm mb_52)) (fun _ h9 => h9) rfl dX1_finish_116 ?_
                  refine lv_iload_n hx hb dX1_finish_119 rfl (lv_at hl 5 rfl) ?_
                  refine lv_iconst (v := 0) hx hb dX1_finish_120 (by decide) ?_
                  refine x_iast (j := j) hx hb hK hP hD hS 3 2 rfl rfl (by omega) (by decide) dX1_finish_121 (fun H locs hP hD hS => ?_)
                  have hP : va_P D vwCl (wM b g 0 n K V (upd (fun i9 => kd i9 + 1) j 0) SK SV) H := hP
                  have hD : va_D A (wM b g 0 n K V (upd (fun i9 => kd i9 + 1) j 0) SK SV) := hD
                  rw [upd_0] at hP hD
                  refine lv_iload_n hx hb dX1_finish_122 rfl (lv_at hl 3 rfl) ?_
                  refine lv_iconst (v := 3) hx hb dX1_finish_123 (by decide) ?_
                  refine lv_icmp_ne (tgt := 144) hx hb dX1_finish_124 (by decide) (fun h7 => ?_) (fun h7 => ?_)
                  · skip
                    first | exact absurd h7 (by decide) | exact (h7 rfl).elim
                  · skip
                    refine lv_iload hx hb dX1_finish_127 (lv_at hl 1 rfl) ?_
                    refine lv_aload_n hx hb dX1_finish_129 rfl (lv_at hl 4 rfl) ?_
                    refine va_get (D := D) (ci := 1) (v := .int (nI n)) (C := RX1) (T := TX1) (N := 7) hx hb hts (fun w h => wm (ui_X1 w h)) hown hK hP 0 rfl rfl 1 (by decide) (hts (.fieldLink RX1 34 "LinkedIndexModel" "size" "I") (wm mb_55)) (fun _ h9 => h9) rfl dX1_finish_130 ?_
                    refine lv_icmp_ne (tgt := 140) hx hb dX1_finish_133 (by decide) (fun h8 => ?_) (fun h8 => ?_)
                    · skip
                      refine lv_iconst (v := 0) hx hb dX1_finish_140 (by decide) ?_
                      refine lv_goto (tgt := 159) hx hb dX1_finish_141 (by decide) ?_
                      refine lv_istore (lv' := [(7, .int 0), (6, .int 1), (5, .int (nI r)), (3, .long (SK j)), (2, .int 3), (0, .ref (b 0)), (1, .int (nI j))]) hx hb dX1_finish_159 hl (by decide) rfl (fun ls hl => ?_)
                      refine lv_iload hx hb dX1_finish_161 (lv_at hl 0 rfl) ?_
                      refine lv_if_eq (tgt := 173) hx hb dX1_finish_163 (by decide) (fun h7 => ?_) (fun h7 => ?_)
                      · skip
                        refine lv_iload_n hx hb dX1_finish_173 rfl (lv_at hl 4 rfl) ?_
                        refine lv_if_ne (tgt := 187) hx hb dX1_finish_174 (by decide) (fun h7 => ?_) (fun h7 => ?_)
                        · skip
                          refine lv_iload_n hx hb dX1_finish_187 rfl (lv_at hl 4 rfl) ?_
                          refine lv_iconst (v := 1) hx hb dX1_finish_188 (by decide) ?_
                          refine lv_icmp_ne (tgt := 210) hx hb dX1_finish_189 (by decide) (fun h7 => ?_) (fun h7 => ?_)
                          · skip
                            refine lv_iload_n hx hb dX1_finish_210 rfl (lv_at hl 4 rfl) ?_
                            refine lv_iconst (v := 2) hx hb dX1_finish_211 (by decide) ?_
                            refine lv_icmp_ne (tgt := 224) hx hb dX1_finish_212 (by decide) (fun h7 => ?_) (fun h7 => ?_)
                            · skip
                              refine lv_aload_n hx hb dX1_finish_224 rfl (lv_at hl 5 rfl) ?_
                              refine va_get (D := D) (ci := 1) (v := .ref (b 1)) (C := RX1) (T := TX1) (N := 7) hx hb hts (fun w h => wm (ui_X1 w h)) hown hK hP 0 rfl rfl 2 (by decide) (hts (.fieldLink RX1 7 "LinkedIndexModel" "keys" "[J") (wm mb_56)) (fun _ h9 => h9) rfl dX1_finish_225 ?_
                              refine lv_iload hx hb dX1_finish_228 (lv_at hl 2 rfl) ?_
                              refine x_lald (j := r) hx hb hK hP 1 0 rfl rfl (by omega) (by decide) dX1_finish_230 ?_
                              have hf : fin n K V kd SK SV (nI j) = (0, K r, n, K, V, upd kd j (-1)) := by
                                unfold fin
                                rw [ix_n hj, ← hr0, if_pos (okS_n hj), if_neg (show ¬ kd j = -1 by rw [ek]; decide), if_neg (show ¬ kd j = 1 by rw [ek]; decide), if_pos ek, if_pos h3]
                              rw [hf]
                              exact fn_l hx hb hr hlocks (by decide) (by decide) (fun _ => rfl) hP hK hD hS dX1_finish_231
                            · skip
                              first | exact absurd h7 (by decide) | exact (h7 rfl).elim
                          · skip
                            first | exact absurd h7 (by decide) | exact (h7 rfl).elim
                        · skip
                          first | exact absurd h7 (by decide) | exact (h7 rfl).elim
                      · skip
                        first | exact absurd h7 (by decide) | exact (h7 rfl).elim
                    · skip
                      exact absurd ((nI_eq (by omega) (by omega)).mp h8) (by omega)
                · skip
                  first | exact absurd h7 (by decide) | exact (h7 rfl).elim
          · skip
            first | exact absurd h7 (by decide) | exact (h7 rfl).elim
        · skip
          first | exact absurd h7 (by decide) | exact (h7 rfl).elim
    · skip
      first | exact absurd h0 (by decide) | exact (h0 rfl).elim
  · skip
    rw [if_neg hs] at hp
    subst hp
    refine lv_if_ne (tgt := 12) hx hb dX1_finish_5 (by decide) (fun h0 => ?_) (fun h0 => ?_)
    · skip
      first | exact absurd h0 (by decide) | exact (h0 rfl).elim
    · skip
      refine lv_iconst (v := 1) hx hb dX1_finish_8 (by decide) ?_
      refine lv_goto (tgt := 26) hx hb dX1_finish_9 (by decide) ?_
      refine va_put (D := D) (ci := 1) (v := .int 1) (ty := .int) (C := RX1) (T := TX1) (N := 7) hx hb hts (fun w h => wm (ui_X1 w h)) tyX1 tyX1_ok nmX1 hown hK hP hD hS 0 rfl rfl 0 (by decide) (hts (.fieldLink RX1 26 "LinkedIndexModel" "code" "I") (wm mb_47)) (fun _ h9 => h9) rfl (by decide +kernel) rfl rfl (Nat.le_of_ble_eq_true rfl) dX1_finish_26 (fun H locs hP hD hS => ?_)
      have hP : va_P D vwCl (wM b g 1 n K V (fun i9 => kd i9 + 1) SK SV) H := hP
      have hD : va_D A (wM b g 1 n K V (fun i9 => kd i9 + 1) SK SV) := hD
      refine lv_aload_n hx hb dX1_finish_29 rfl (lv_at hl 0 rfl) ?_
      refine va_get (D := D) (ci := 1) (v := .int 1) (C := RX1) (T := TX1) (N := 7) hx hb hts (fun w h => wm (ui_X1 w h)) hown hK hP 0 rfl rfl 0 (by decide) (hts (.fieldLink RX1 26 "LinkedIndexModel" "code" "I") (wm mb_47)) (fun _ h9 => h9) rfl dX1_finish_30 ?_
      refine lv_if_le (tgt := 38) hx hb dX1_finish_33 (by decide) (fun h9 => ?_) (fun h9 => ?_)
      · skip
        first | exact absurd h9 (by decide) | exact (h9 rfl).elim
      · skip
        have hf : fin n K V kd SK SV slot = (1, 0, n, K, V, kd) := by unfold fin; rw [if_neg hs]
        rw [hf]
        refine lv_lconst (v := 0) hx hb dX1_finish_36 (by decide) ?_
        exact fn_l hx hb hr hlocks (by decide) (by decide) (fun q => absurd (show (1 : Int32) = 0 from q) (by decide)) hP hK hD hS dX1_finish_37
