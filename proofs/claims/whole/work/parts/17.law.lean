theorem rm_c : room_1.cells = 1045 := rfl
theorem rm_s : room_1.slots = 8702 := rfl
set_option maxHeartbeats 1000000 in
set_option maxRecDepth 100000 in
theorem law_0 {p : Program} {e : Env} {s : State} {m : MethodId} {below : List Frame} {meth : Method} {c : Code} {l : Launch} {b L : Nat} {xs : Nat → Int32} {D : va_G} {A : Nat → Prop} {a : Nat → Nat} {k : Nat → ClassId} {bb : Nat → Nat} {g : Nat → ClassId} {q : Nat} {z : ClassId} (hl9 : l.stackTraces = false) (hx : p.tables.exec = Jvm.exec) (hb : c.code = cL_law) (hr : meth.sig.returnType = some .boolean) (hml : c.maxLocals = 8) (hlocks : meth.locks = false) (hown : s.vm.findClass RL = some m.cls) (hts : ∀ w ∈ ALL, w.before #[Value.ref b] s = true) (hX : va_X b L xs s s.heap) (hbl : b < s.heap.size) (hbA : ¬ A b) (hK : va_K D vwCl (tX k ++ tM g ++ tO z) s) (hZ : zx A s s.heap) (hA : ∀ q : Nat, s.heap.size ≤ q → A q) (hL : L ≤ 3584) (t : Nat) (ht : 7 * t + 7 ≤ L) (n : Nat) (K V : Nat → Int64) (kd : Nat → Int32) (SK SV : Nat → Int64) (cd : Int32) (o : Nat → Int64) (H : Heap) (locs : List Loc) (ls : Array Slot) (hI : inv n K kd) (hP : va_P D vwCl (wX a k n K V kd SK SV ++ wM bb g cd n K V (fun i9 => kd i9 + 1) SK SV ++ wO q z o) H) (hD : va_D A (wX a k n K V kd SK SV ++ wM bb g cd n K V (fun i9 => kd i9 + 1) SK SV ++ wO q z o)) (hS : va_S A s.heap H locs) (hl : lv_has ls 8 [(4, .int (nI (7 * t))), (0, .ref b), (1, .ref (a 0)), (2, .ref (bb 0)), (3, .ref q)])
    (nx : ∀ (n : Nat) (K V : Nat → Int64) (kd : Nat → Int32) (SK SV : Nat → Int64) (cd : Int32) (o : Nat → Int64) (H : Heap) (locs : List Loc) (ls : Array Slot), inv n K kd → va_P D vwCl (wX a k n K V kd SK SV ++ wM bb g cd n K V (fun i9 => kd i9 + 1) SK SV ++ wO q z o) H → va_D A (wX a k n K V kd SK SV ++ wM bb g cd n K V (fun i9 => kd i9 + 1) SK SV ++ wO q z o) → va_S A s.heap H locs → lv_has ls 8 [(4, .int (nI (7 * t))), (0, .ref b), (1, .ref (a 0)), (2, .ref (bb 0)), (3, .ref q)] → W p l e room_1 s m #[Value.ref b] below meth c H locs (13 + 1 * (t + 1)) (462 + 6 * (t + 1)) (lw_Z below #[Value.ref b] s) (F0 m 839 ls [])) :
    W p l e room_1 s m #[Value.ref b] below meth c H locs (13 + 1 * t) (462 + 6 * t) (lw_Z below #[Value.ref b] s) (F0 m 104 ls []) := by
  have hn := hI.1
  have hk := hI.2.2
  refine lv_aload_n hx hb dL_law_104 rfl (lv_at hl 2 rfl) ?_
  refine lv_aload_n hx hb dL_law_105 rfl (lv_at hl 1 rfl) ?_
  refine lv_iload hx hb dL_law_106 (lv_at hl 0 rfl) ?_
  refine lv_iconst (v := 1) hx hb dL_law_108 (by decide) ?_
  refine lv_iadd hx hb dL_law_109 ?_
  refine xi (y := nI (7 * t + 1)) (nI_add (7 * t) 1) ?_
  refine x_sld (j := (7 * t + 1)) hx hb hX hbl hbA hS (by omega) (by omega) dL_law_110 ?_
  refine lv_aload_n hx hb dL_law_111 rfl (lv_at hl 1 rfl) ?_
  refine lv_iload hx hb dL_law_112 (lv_at hl 0 rfl) ?_
  refine lv_iconst (v := 2) hx hb dL_law_114 (by decide) ?_
  refine lv_iadd hx hb dL_law_115 ?_
  refine xi (y := nI (7 * t + 2)) (nI_add (7 * t) 2) ?_
  refine x_sld (j := (7 * t + 2)) hx hb hX hbl hbA hS (by omega) (by omega) dL_law_116 ?_
  refine lv_aload_n hx hb dL_law_117 rfl (lv_at hl 1 rfl) ?_
  refine lv_iload hx hb dL_law_118 (lv_at hl 0 rfl) ?_
  refine lv_iconst (v := 3) hx hb dL_law_120 (by decide) ?_
  refine lv_iadd hx hb dL_law_121 ?_
  refine xi (y := nI (7 * t + 3)) (nI_add (7 * t) 3) ?_
  refine x_sld (j := (7 * t + 3)) hx hb hX hbl hbA hS (by omega) (by omega) dL_law_122 ?_
  refine lv_i2l (v := (xs (7 * t + 3)).toInt64) hx hb dL_law_123 rfl ?_
  refine lv_bipush (v := 32) hx hb dL_law_124 (by decide) ?_
  refine lv_lshl (v := ((xs (7 * t + 3)).toInt64) <<< ((32 : Int32).toInt64 &&& 63)) hx hb dL_law_126 rfl ?_
  refine lv_aload_n hx hb dL_law_127 rfl (lv_at hl 1 rfl) ?_
  refine lv_iload hx hb dL_law_128 (lv_at hl 0 rfl) ?_
  refine lv_iconst (v := 4) hx hb dL_law_130 (by decide) ?_
  refine lv_iadd hx hb dL_law_131 ?_
  refine xi (y := nI (7 * t + 4)) (nI_add (7 * t) 4) ?_
  refine x_sld (j := (7 * t + 4)) hx hb hX hbl hbA hS (by omega) (by omega) dL_law_132 ?_
  refine lv_i2l (v := (xs (7 * t + 4)).toInt64) hx hb dL_law_133 rfl ?_
  refine lv_ldc2 (v := 4294967295) hx hb hown (hts (.constantLong RL 51 (4294967295)) mb_112) dL_law_134 ?_
  refine lv_land hx hb dL_law_137 ?_
  refine lv_lor hx hb dL_law_138 ?_
  refine lv_aload_n hx hb dL_law_139 rfl (lv_at hl 1 rfl) ?_
  refine lv_iload hx hb dL_law_140 (lv_at hl 0 rfl) ?_
  refine lv_iconst (v := 5) hx hb dL_law_142 (by decide) ?_
  refine lv_iadd hx hb dL_law_143 ?_
  refine xi (y := nI (7 * t + 5)) (nI_add (7 * t) 5) ?_
  refine x_sld (j := (7 * t + 5)) hx hb hX hbl hbA hS (by omega) (by omega) dL_law_144 ?_
  refine lv_i2l (v := (xs (7 * t + 5)).toInt64) hx hb dL_law_145 rfl ?_
  refine lv_bipush (v := 32) hx hb dL_law_146 (by decide) ?_
  refine lv_lshl (v := ((xs (7 * t + 5)).toInt64) <<< ((32 : Int32).toInt64 &&& 63)) hx hb dL_law_148 rfl ?_
  refine lv_aload_n hx hb dL_law_149 rfl (lv_at hl 1 rfl) ?_
  refine lv_iload hx hb dL_law_150 (lv_at hl 0 rfl) ?_
  refine lv_bipush (v := 6) hx hb dL_law_152 (by decide) ?_
  refine lv_iadd hx hb dL_law_154 ?_
  refine xi (y := nI (7 * t + 6)) (nI_add (7 * t) 6) ?_
  refine x_sld (j := (7 * t + 6)) hx hb hX hbl hbA hS (by omega) (by omega) dL_law_155 ?_
  refine lv_i2l (v := (xs (7 * t + 6)).toInt64) hx hb dL_law_156 rfl ?_
  refine lv_ldc2 (v := 4294967295) hx hb hown (hts (.constantLong RL 51 (4294967295)) mb_112) dL_law_157 ?_
  refine lv_land hx hb dL_law_160 ?_
  refine lv_lor hx hb dL_law_161 ?_
  refine kn_i (wc := (wX a k n K V kd SK SV)) (wr := (wM bb g cd n K V (fun i9 => kd i9 + 1) SK SV ++ wO q z o)) (w1 := (wX a k n K V (kdB (xs (7 * t + 1)) (xs (7 * t + 2)) kd) (svB (xs (7 * t + 1)) (xs (7 * t + 2)) kd (lwL (xs (7 * t + 3)) (xs (7 * t + 4))) SK) (svB (xs (7 * t + 1)) (xs (7 * t + 2)) kd (lwL (xs (7 * t + 5)) (xs (7 * t + 6))) SV))) (vx_runSW (As := [.ref (a 0), .int (xs (7 * t + 1)), .int (xs (7 * t + 2)), .long ((((xs (7 * t + 3)).toInt64) <<< ((32 : Int32).toInt64 &&& 63)) ||| (((xs (7 * t + 4)).toInt64) &&& 4294967295)), .long ((((xs (7 * t + 5)).toInt64) <<< ((32 : Int32).toInt64 &&& 63)) ||| (((xs (7 * t + 6)).toInt64) &&& 4294967295))]) (rest := []) ⟨hx, hb, hml, hown, hts⟩ (h_begin l hl9 D a k n K V kd SK SV (xs (7 * t + 1)) (xs (7 * t + 2)) (lwL (xs (7 * t + 3)) (xs (7 * t + 4))) (lwL (xs (7 * t + 5)) (xs (7 * t + 6))) H.size) (vx_cwSW (hh := [(0, 9, 12, 13), (0, 9, 16, 15)]) 5 hts (gd_S mb_113 mb_114 mb_115 mb_116) rfl rfl rfl (by decide +kernel) ⟨by decide, by decide⟩) ⟨cP_blind, cPre hP hD hK hS hA hZ [0, 1, 2, 3, 4, 5] rfl (by decide) [0, 1, 2, 3, 4] rfl⟩ rfl rfl hl.1 rfl (lv_room (Nat.le_of_ble_eq_true rfl)) dL_law_162 ⟨by rw [rm_c]; omega, by rw [rm_s]; omega⟩) hP hD hS hA [0, 1, 2, 3, 4, 5] [6, 7, 8, 9, 10, 11, 12] rfl rfl (by decide) (by decide) (fun r9 H locs hp hP hD hS => ?_)
  have hP := hP.sub (ws' := wX a k n K V (kdB (xs (7 * t + 1)) (xs (7 * t + 2)) kd) (svB (xs (7 * t + 1)) (xs (7 * t + 2)) kd (lwL (xs (7 * t + 3)) (xs (7 * t + 4))) SK) (svB (xs (7 * t + 1)) (xs (7 * t + 2)) kd (lwL (xs (7 * t + 5)) (xs (7 * t + 6))) SV) ++ wM bb g cd n K V (fun i9 => kd i9 + 1) SK SV ++ wO q z o) [7, 8, 9, 10, 11, 12, 0, 1, 2, 3, 4, 5, 6] rfl
  have hD := hD.sub (ws' := wX a k n K V (kdB (xs (7 * t + 1)) (xs (7 * t + 2)) kd) (svB (xs (7 * t + 1)) (xs (7 * t + 2)) kd (lwL (xs (7 * t + 3)) (xs (7 * t + 4))) SK) (svB (xs (7 * t + 1)) (xs (7 * t + 2)) kd (lwL (xs (7 * t + 5)) (xs (7 * t + 6))) SV) ++ wM bb g cd n K V (fun i9 => kd i9 + 1) SK SV ++ wO q z o) [7, 8, 9, 10, 11, 12, 0, 1, 2, 3, 4, 5, 6] (by decide) rfl
  have hP : va_P D vwCl (wX a k n K V (kdB (xs (7 * t + 1)) (xs (7 * t + 2)) kd) (svB (xs (7 * t + 1)) (xs (7 * t + 2)) kd (lwL (xs (7 * t + 3)) (xs (7 * t + 4))) SK) (svB (xs (7 * t + 1)) (xs (7 * t + 2)) kd (lwL (xs (7 * t + 5)) (xs (7 * t + 6))) SV) ++ wM bb g cd n K V (fun i9 => kd i9 + 1) SK SV ++ wO q z o) H := hP
  have hD : va_D A (wX a k n K V (kdB (xs (7 * t + 1)) (xs (7 * t + 2)) kd) (svB (xs (7 * t + 1)) (xs (7 * t + 2)) kd (lwL (xs (7 * t + 3)) (xs (7 * t + 4))) SK) (svB (xs (7 * t + 1)) (xs (7 * t + 2)) kd (lwL (xs (7 * t + 5)) (xs (7 * t + 6))) SV) ++ wM bb g cd n K V (fun i9 => kd i9 + 1) SK SV ++ wO q z o) := hD
  have hp : r9 = cdB (xs (7 * t + 1)) (xs (7 * t + 2)) kd := hp
  subst hp
  refine lv_istore (lv' := [(5, .int (cdB (xs (7 * t + 1)) (xs (7 * t + 2)) kd)), (4, .int (nI (7 * t))), (0, .ref b), (1, .ref (a 0)), (2, .ref (bb 0)), (3, .ref q)]) hx hb dL_law_165 hl (by decide) rfl (fun ls hl => ?_)
  refine lv_aload_n hx hb dL_law_167 rfl (lv_at hl 4 rfl) ?_
  refine lv_aload_n hx hb dL_law_168 rfl (lv_at hl 2 rfl) ?_
  refine lv_iload hx hb dL_law_169 (lv_at hl 1 rfl) ?_
  refine lv_iconst (v := 1) hx hb dL_law_171 (by decide) ?_
  refine lv_iadd hx hb dL_law_172 ?_
  refine xi (y := nI (7 * t + 1)) (nI_add (7 * t) 1) ?_
  refine x_sld (j := (7 * t + 1)) hx hb hX hbl hbA hS (by omega) (by omega) dL_law_173 ?_
  refine lv_aload_n hx hb dL_law_174 rfl (lv_at hl 2 rfl) ?_
  refine lv_iload hx hb dL_law_175 (lv_at hl 1 rfl) ?_
  refine lv_iconst (v := 2) hx hb dL_law_177 (by decide) ?_
  refine lv_iadd hx hb dL_law_178 ?_
  refine xi (y := nI (7 * t + 2)) (nI_add (7 * t) 2) ?_
  refine x_sld (j := (7 * t + 2)) hx hb hX hbl hbA hS (by omega) (by omega) dL_law_179 ?_
  refine lv_aload_n hx hb dL_law_180 rfl (lv_at hl 2 rfl) ?_
  refine lv_iload hx hb dL_law_181 (lv_at hl 1 rfl) ?_
  refine lv_iconst (v := 3) hx hb dL_law_183 (by decide) ?_
  refine lv_iadd hx hb dL_law_184 ?_
  refine xi (y := nI (7 * t + 3)) (nI_add (7 * t) 3) ?_
  refine x_sld (j := (7 * t + 3)) hx hb hX hbl hbA hS (by omega) (by omega) dL_law_185 ?_
  refine lv_i2l (v := (xs (7 * t + 3)).toInt64) hx hb dL_law_186 rfl ?_
  refine lv_bipush (v := 32) hx hb dL_law_187 (by decide) ?_
  refine lv_lshl (v := ((xs (7 * t + 3)).toInt64) <<< ((32 : Int32).toInt64 &&& 63)) hx hb dL_law_189 rfl ?_
  refine lv_aload_n hx hb dL_law_190 rfl (lv_at hl 2 rfl) ?_
  refine lv_iload hx hb dL_law_191 (lv_at hl 1 rfl) ?_
  refine lv_iconst (v := 4) hx hb dL_law_193 (by decide) ?_
  refine lv_iadd hx hb dL_law_194 ?_
  refine xi (y := nI (7 * t + 4)) (nI_add (7 * t) 4) ?_
  refine x_sld (j := (7 * t + 4)) hx hb hX hbl hbA hS (by omega) (by omega) dL_law_195 ?_
  refine lv_i2l (v := (xs (7 * t + 4)).toInt64) hx hb dL_law_196 rfl ?_
  refine lv_ldc2 (v := 4294967295) hx hb hown (hts (.constantLong RL 51 (4294967295)) mb_112) dL_law_197 ?_
  refine lv_land hx hb dL_law_200 ?_
  refine lv_lor hx hb dL_law_201 ?_
  refine lv_aload_n hx hb dL_law_202 rfl (lv_at hl 2 rfl) ?_
  refine lv_iload hx hb dL_law_203 (lv_at hl 1 rfl) ?_
  refine lv_iconst (v := 5) hx hb dL_law_205 (by decide) ?_
  refine lv_iadd hx hb dL_law_206 ?_
  refine xi (y := nI (7 * t + 5)) (nI_add (7 * t) 5) ?_
  refine x_sld (j := (7 * t + 5)) hx hb hX hbl hbA hS (by omega) (by omega) dL_law_207 ?_
  refine lv_i2l (v := (xs (7 * t + 5)).toInt64) hx hb dL_law_208 rfl ?_
  refine lv_bipush (v := 32) hx hb dL_law_209 (by decide) ?_
  refine lv_lshl (v := ((xs (7 * t + 5)).toInt64) <<< ((32 : Int32).toInt64 &&& 63)) hx hb dL_law_211 rfl ?_
  refine lv_aload_n hx hb dL_law_212 rfl (lv_at hl 2 rfl) ?_
  refine lv_iload hx hb dL_law_213 (lv_at hl 1 rfl) ?_
  refine lv_bipush (v := 6) hx hb dL_law_215 (by decide) ?_
  refine lv_iadd hx hb dL_law_217 ?_
  refine xi (y := nI (7 * t + 6)) (nI_add (7 * t) 6) ?_
  refine x_sld (j := (7 * t + 6)) hx hb hX hbl hbA hS (by omega) (by omega) dL_law_218 ?_
  refine lv_i2l (v := (xs (7 * t + 6)).toInt64) hx hb dL_law_219 rfl ?_
  refine lv_ldc2 (v := 4294967295) hx hb hown (hts (.constantLong RL 51 (4294967295)) mb_112) dL_law_220 ?_
  refine lv_land hx hb dL_law_223 ?_
  refine lv_lor hx hb dL_law_224 ?_
  refine kn_v (wc := (wM bb g cd n K V (fun i9 => kd i9 + 1) SK SV)) (wr := (wX a k n K V (kdB (xs (7 * t + 1)) (xs (7 * t + 2)) kd) (svB (xs (7 * t + 1)) (xs (7 * t + 2)) kd (lwL (xs (7 * t + 3)) (xs (7 * t + 4))) SK) (svB (xs (7 * t + 1)) (xs (7 * t + 2)) kd (lwL (xs (7 * t + 5)) (xs (7 * t + 6))) SV) ++ wO q z o)) (w1 := (wM bb g (cdB (xs (7 * t + 1)) (xs (7 * t + 2)) kd) n K V (fun i9 => kdB (xs (7 * t + 1)) (xs (7 * t + 2)) kd i9 + 1) (svB (xs (7 * t + 1)) (xs (7 * t + 2)) kd (lwL (xs (7 * t + 3)) (xs (7 * t + 4))) SK) (svB (xs (7 * t + 1)) (xs (7 * t + 2)) kd (lwL (xs (7 * t + 5)) (xs (7 * t + 6))) SV))) (va_runV (As := [.int (xs (7 * t + 1)), .int (xs (7 * t + 2)), .long ((((xs (7 * t + 3)).toInt64) <<< ((32 : Int32).toInt64 &&& 63)) ||| (((xs (7 * t + 4)).toInt64) &&& 4294967295)), .long ((((xs (7 * t + 5)).toInt64) <<< ((32 : Int32).toInt64 &&& 63)) ||| (((xs (7 * t + 6)).toInt64) &&& 4294967295))]) (rest := []) ⟨hx, hb, hml, hown, hts⟩ (m_begin l hl9 D bb g cd n K V kd SK SV (xs (7 * t + 1)) (xs (7 * t + 2)) (lwL (xs (7 * t + 3)) (xs (7 * t + 4))) (lwL (xs (7 * t + 5)) (xs (7 * t + 6))) H.size hk) (cwV 4 hts (gd_V mb_117 mb_118 mb_119 mb_50 mb_120) rfl rfl rfl (by decide +kernel) ⟨by decide, by decide⟩) ⟨cP_blind, va_recv (q0 := 6) (ci := 1) (q := (RX1, TX1, 7)) hK hP rfl rfl, cPre hP hD hK hS hA hZ [6, 7, 8, 9, 10, 11] rfl (by decide) [5, 6, 7, 8, 9] rfl⟩ rfl rfl hl.1 rfl (lv_room (Nat.le_of_ble_eq_true rfl)) dL_law_225 ⟨by rw [rm_c]; omega, by rw [rm_s]; omega⟩) hP hD hS hA [6, 7, 8, 9, 10, 11] [0, 1, 2, 3, 4, 5, 12] rfl rfl (by decide) (by decide) (fun H locs hp hP hD hS => ?_)
  have hP := hP.sub (ws' := wX a k n K V (kdB (xs (7 * t + 1)) (xs (7 * t + 2)) kd) (svB (xs (7 * t + 1)) (xs (7 * t + 2)) kd (lwL (xs (7 * t + 3)) (xs (7 * t + 4))) SK) (svB (xs (7 * t + 1)) (xs (7 * t + 2)) kd (lwL (xs (7 * t + 5)) (xs (7 * t + 6))) SV) ++ wM bb g (cdB (xs (7 * t + 1)) (xs (7 * t + 2)) kd) n K V (fun i9 => kdB (xs (7 * t + 1)) (xs (7 * t + 2)) kd i9 + 1) (svB (xs (7 * t + 1)) (xs (7 * t + 2)) kd (lwL (xs (7 * t + 3)) (xs (7 * t + 4))) SK) (svB (xs (7 * t + 1)) (xs (7 * t + 2)) kd (lwL (xs (7 * t + 5)) (xs (7 * t + 6))) SV) ++ wO q z o) [0, 1, 2, 3, 4, 5, 7, 8, 9, 10, 11, 12, 6] rfl
  have hD := hD.sub (ws' := wX a k n K V (kdB (xs (7 * t + 1)) (xs (7 * t + 2)) kd) (svB (xs (7 * t + 1)) (xs (7 * t + 2)) kd (lwL (xs (7 * t + 3)) (xs (7 * t + 4))) SK) (svB (xs (7 * t + 1)) (xs (7 * t + 2)) kd (lwL (xs (7 * t + 5)) (xs (7 * t + 6))) SV) ++ wM bb g (cdB (xs (7 * t + 1)) (xs (7 * t + 2)) kd) n K V (fun i9 => kdB (xs (7 * t + 1)) (xs (7 * t + 2)) kd i9 + 1) (svB (xs (7 * t + 1)) (xs (7 * t + 2)) kd (lwL (xs (7 * t + 3)) (xs (7 * t + 4))) SK) (svB (xs (7 * t + 1)) (xs (7 * t + 2)) kd (lwL (xs (7 * t + 5)) (xs (7 * t + 6))) SV) ++ wO q z o) [0, 1, 2, 3, 4, 5, 7, 8, 9, 10, 11, 12, 6] (by decide) rfl
  have hP : va_P D vwCl (wX a k n K V (kdB (xs (7 * t + 1)) (xs (7 * t + 2)) kd) (svB (xs (7 * t + 1)) (xs (7 * t + 2)) kd (lwL (xs (7 * t + 3)) (xs (7 * t + 4))) SK) (svB (xs (7 * t + 1)) (xs (7 * t + 2)) kd (lwL (xs (7 * t + 5)) (xs (7 * t + 6))) SV) ++ wM bb g (cdB (xs (7 * t + 1)) (xs (7 * t + 2)) kd) n K V (fun i9 => kdB (xs (7 * t + 1)) (xs (7 * t + 2)) kd i9 + 1) (svB (xs (7 * t + 1)) (xs (7 * t + 2)) kd (lwL (xs (7 * t + 3)) (xs (7 * t + 4))) SK) (svB (xs (7 * t + 1)) (xs (7 * t + 2)) kd (lwL (xs (7 * t + 5)) (xs (7 * t + 6))) SV) ++ wO q z o) H := hP
  have hD : va_D A (wX a k n K V (kdB (xs (7 * t + 1)) (xs (7 * t + 2)) kd) (svB (xs (7 * t + 1)) (xs (7 * t + 2)) kd (lwL (xs (7 * t + 3)) (xs (7 * t + 4))) SK) (svB (xs (7 * t + 1)) (xs (7 * t + 2)) kd (lwL (xs (7 * t + 5)) (xs (7 * t + 6))) SV) ++ wM bb g (cdB (xs (7 * t + 1)) (xs (7 * t + 2)) kd) n K V (fun i9 => kdB (xs (7 * t + 1)) (xs (7 * t + 2)) kd i9 + 1) (svB (xs (7 * t + 1)) (xs (7 * t + 2)) kd (lwL (xs (7 * t + 3)) (xs (7 * t + 4))) SK) (svB (xs (7 * t + 1)) (xs (7 * t + 2)) kd (lwL (xs (7 * t + 5)) (xs (7 * t + 6))) SV) ++ wO q z o) := hD
  refine lv_aload_n hx hb dL_law_228 rfl (lv_at hl 4 rfl) ?_
  refine kn_i (wc := (wM bb g (cdB (xs (7 * t + 1)) (xs (7 * t + 2)) kd) n K V (fun i9 => kdB (xs (7 * t + 1)) (xs (7 * t + 2)) kd i9 + 1) (svB (xs (7 * t + 1)) (xs (7 * t + 2)) kd (lwL (xs (7 * t + 3)) (xs (7 * t + 4))) SK) (svB (xs (7 * t + 1)) (xs (7 * t + 2)) kd (lwL (xs (7 * t + 5)) (xs (7 * t + 6))) SV))) (wr := (wX a k n K V (kdB (xs (7 * t + 1)) (xs (7 * t + 2)) kd) (svB (xs (7 * t + 1)) (xs (7 * t + 2)) kd (lwL (xs (7 * t + 3)) (xs (7 * t + 4))) SK) (svB (xs (7 * t + 1)) (xs (7 * t + 2)) kd (lwL (xs (7 * t + 5)) (xs (7 * t + 6))) SV) ++ wO q z o)) (w1 := (wM bb g (cdB (xs (7 * t + 1)) (xs (7 * t + 2)) kd) n K V (fun i9 => kdB (xs (7 * t + 1)) (xs (7 * t + 2)) kd i9 + 1) (svB (xs (7 * t + 1)) (xs (7 * t + 2)) kd (lwL (xs (7 * t + 3)) (xs (7 * t + 4))) SK) (svB (xs (7 * t + 1)) (xs (7 * t + 2)) kd (lwL (xs (7 * t + 5)) (xs (7 * t + 6))) SV))) (va_runV (As := []) (rest := []) ⟨hx, hb, hml, hown, hts⟩ (m_thrown l hl9 D bb g (cdB (xs (7 * t + 1)) (xs (7 * t + 2)) kd) n K V (kdB (xs (7 * t + 1)) (xs (7 * t + 2)) kd) (svB (xs (7 * t + 1)) (xs (7 * t + 2)) kd (lwL (xs (7 * t + 3)) (xs (7 * t + 4))) SK) (svB (xs (7 * t + 1)) (xs (7 * t + 2)) kd (lwL (xs (7 * t + 5)) (xs (7 * t + 6))) SV) H.size) (cwV 0 hts (gd_V mb_121 mb_122 mb_123 mb_50 mb_124) rfl rfl rfl (by decide +kernel) ⟨by decide, by decide⟩) ⟨cP_blind, va_recv (q0 := 6) (ci := 1) (q := (RX1, TX1, 7)) hK hP rfl rfl, cPre hP hD hK hS hA hZ [6, 7, 8, 9, 10, 11] rfl (by decide) [5, 6, 7, 8, 9] rfl⟩ rfl rfl hl.1 rfl (lv_room (Nat.le_of_ble_eq_true rfl)) dL_law_229 ⟨by rw [rm_c]; omega, by rw [rm_s]; omega⟩) hP hD hS hA [6, 7, 8, 9, 10, 11] [0, 1, 2, 3, 4, 5, 12] rfl rfl (by decide) (by decide) (fun r9 H locs hp hP hD hS => ?_)
  have hP := hP.sub (ws' := wX a k n K V (kdB (xs (7 * t + 1)) (xs (7 * t + 2)) kd) (svB (xs (7 * t + 1)) (xs (7 * t + 2)) kd (lwL (xs (7 * t + 3)) (xs (7 * t + 4))) SK) (svB (xs (7 * t + 1)) (xs (7 * t + 2)) kd (lwL (xs (7 * t + 5)) (xs (7 * t + 6))) SV) ++ wM bb g (cdB (xs (7 * t + 1)) (xs (7 * t + 2)) kd) n K V (fun i9 => kdB (xs (7 * t + 1)) (xs (7 * t + 2)) kd i9 + 1) (svB (xs (7 * t + 1)) (xs (7 * t + 2)) kd (lwL (xs (7 * t + 3)) (xs (7 * t + 4))) SK) (svB (xs (7 * t + 1)) (xs (7 * t + 2)) kd (lwL (xs (7 * t + 5)) (xs (7 * t + 6))) SV) ++ wO q z o) [0, 1, 2, 3, 4, 5, 7, 8, 9, 10, 11, 12, 6] rfl
  have hD := hD.sub (ws' := wX a k n K V (kdB (xs (7 * t + 1)) (xs (7 * t + 2)) kd) (svB (xs (7 * t + 1)) (xs (7 * t + 2)) kd (lwL (xs (7 * t + 3)) (xs (7 * t + 4))) SK) (svB (xs (7 * t + 1)) (xs (7 * t + 2)) kd (lwL (xs (7 * t + 5)) (xs (7 * t + 6))) SV) ++ wM bb g (cdB (xs (7 * t + 1)) (xs (7 * t + 2)) kd) n K V (fun i9 => kdB (xs (7 * t + 1)) (xs (7 * t + 2)) kd i9 + 1) (svB (xs (7 * t + 1)) (xs (7 * t + 2)) kd (lwL (xs (7 * t + 3)) (xs (7 * t + 4))) SK) (svB (xs (7 * t + 1)) (xs (7 * t + 2)) kd (lwL (xs (7 * t + 5)) (xs (7 * t + 6))) SV) ++ wO q z o) [0, 1, 2, 3, 4, 5, 7, 8, 9, 10, 11, 12, 6] (by decide) rfl
  have hP : va_P D vwCl (wX a k n K V (kdB (xs (7 * t + 1)) (xs (7 * t + 2)) kd) (svB (xs (7 * t + 1)) (xs (7 * t + 2)) kd (lwL (xs (7 * t + 3)) (xs (7 * t + 4))) SK) (svB (xs (7 * t + 1)) (xs (7 * t + 2)) kd (lwL (xs (7 * t + 5)) (xs (7 * t + 6))) SV) ++ wM bb g (cdB (xs (7 * t + 1)) (xs (7 * t + 2)) kd) n K V (fun i9 => kdB (xs (7 * t + 1)) (xs (7 * t + 2)) kd i9 + 1) (svB (xs (7 * t + 1)) (xs (7 * t + 2)) kd (lwL (xs (7 * t + 3)) (xs (7 * t + 4))) SK) (svB (xs (7 * t + 1)) (xs (7 * t + 2)) kd (lwL (xs (7 * t + 5)) (xs (7 * t + 6))) SV) ++ wO q z o) H := hP
  have hD : va_D A (wX a k n K V (kdB (xs (7 * t + 1)) (xs (7 * t + 2)) kd) (svB (xs (7 * t + 1)) (xs (7 * t + 2)) kd (lwL (xs (7 * t + 3)) (xs (7 * t + 4))) SK) (svB (xs (7 * t + 1)) (xs (7 * t + 2)) kd (lwL (xs (7 * t + 5)) (xs (7 * t + 6))) SV) ++ wM bb g (cdB (xs (7 * t + 1)) (xs (7 * t + 2)) kd) n K V (fun i9 => kdB (xs (7 * t + 1)) (xs (7 * t + 2)) kd i9 + 1) (svB (xs (7 * t + 1)) (xs (7 * t + 2)) kd (lwL (xs (7 * t + 3)) (xs (7 * t + 4))) SK) (svB (xs (7 * t + 1)) (xs (7 * t + 2)) kd (lwL (xs (7 * t + 5)) (xs (7 * t + 6))) SV) ++ wO q z o) := hD
  have hp : r9 = cdB (xs (7 * t + 1)) (xs (7 * t + 2)) kd := hp
  subst hp
  refine lv_iload hx hb dL_law_232 (lv_at hl 0 rfl) ?_
  refine lv_icmp_eq (tgt := 239) hx hb dL_law_234 (by decide) (fun h1 => ?_) (fun h1 => ?_)
  · skip
    refine lv_goto (tgt := 839) hx hb dL_law_239 (by decide) ?_
    refine W.widen (k := 13 + 1 * (t + 1)) (n := 462 + 6 * (t + 1)) (by omega) (by omega) ?_
    exact nx n K V (kdB (xs (7 * t + 1)) (xs (7 * t + 2)) kd) (svB (xs (7 * t + 1)) (xs (7 * t + 2)) kd (lwL (xs (7 * t + 3)) (xs (7 * t + 4))) SK) (svB (xs (7 * t + 1)) (xs (7 * t + 2)) kd (lwL (xs (7 * t + 5)) (xs (7 * t + 6))) SV) (cdB (xs (7 * t + 1)) (xs (7 * t + 2)) kd) o H locs ls (inv_B _ _ hI) hP hD hS (lv_sub hl [1, 2, 3, 4, 5] rfl)
  · skip
    exact absurd rfl h1
set_option maxHeartbeats 1000000 in
set_option maxRecDepth 100000 in
theorem law_1 {p : Program} {e : Env} {s : State} {m : MethodId} {below : List Frame} {meth : Method} {c : Code} {l : Launch} {b L : Nat} {xs : Nat → Int32} {D : va_G} {A : Nat → Prop} {a : Nat → Nat} {k : Nat → ClassId} {bb : Nat → Nat} {g : Nat → ClassId} {q : Nat} {z : ClassId} (hl9 : l.stackTraces = false) (hx : p.tables.exec = Jvm.exec) (hb : c.code = cL_law) (hr : meth.sig.returnType = some .boolean) (hml : c.maxLocals = 8) (hlocks : meth.locks = false) (hown : s.vm.findClass RL = some m.cls) (hts : ∀ w ∈ ALL, w.before #[Value.ref b] s = true) (hX : va_X b L xs s s.heap) (hbl : b < s.heap.size) (hbA : ¬ A b) (hK : va_K D vwCl (tX k ++ tM g ++ tO z) s) (hZ : zx A s s.heap) (hA : ∀ q : Nat, s.heap.size ≤ q → A q) (hL : L ≤ 3584) (t : Nat) (ht : 7 * t + 7 ≤ L) (n : Nat) (K V : Nat → Int64) (kd : Nat → Int32) (SK SV : Nat → Int64) (cd : Int32) (o : Nat → Int64) (H : Heap) (locs : List Loc) (ls : Array Slot) (hI : inv n K kd) (hP : va_P D vwCl (wX a k n K V kd SK SV ++ wM bb g cd n K V (fun i9 => kd i9 + 1) SK SV ++ wO q z o) H) (hD : va_D A (wX a k n K V kd SK SV ++ wM bb g cd n K V (fun i9 => kd i9 + 1) SK SV ++ wO q z o)) (hS : va_S A s.heap H locs) (hl : lv_has ls 8 [(4, .int (nI (7 * t))), (0, .ref b), (1, .ref (a 0)), (2, .ref (bb 0)), (3, .ref q)])
    (nx : ∀ (n : Nat) (K V : Nat → Int64) (kd : Nat → Int32) (SK SV : Nat → Int64) (cd : Int32) (o : Nat → Int64) (H : Heap) (locs : List Loc) (ls : Array Slot), inv n K kd → va_P D vwCl (wX a k n K V kd SK SV ++ wM bb g cd n K V (fun i9 => kd i9 + 1) SK SV ++ wO q z o) H → va_D A (wX a k n K V kd SK SV ++ wM bb g cd n K V (fun i9 => kd i9 + 1) SK SV ++ wO q z o) → va_S A s.heap H locs → lv_has ls 8 [(4, .int (nI (7 * t))), (0, .ref b), (1, .ref (a 0)), (2, .ref (bb 0)), (3, .ref q)] → W p l e room_1 s m #[Value.ref b] below meth c H locs (13 + 1 * (t + 1)) (462 + 6 * (t + 1)) (lw_Z below #[Value.ref b] s) (F0 m 839 ls [])) :
    W p l e room_1 s m #[Value.ref b] below meth c H locs (13 + 1 * t) (462 + 6 * t) (lw_Z below #[Value.ref b] s) (F0 m 242 ls []) := by
  have hn := hI.1
  have hk := hI.2.2
  refine lv_aload_n hx hb dL_law_242 rfl (lv_at hl 2 rfl) ?_
  refine lv_aload_n hx hb dL_law_243 rfl (lv_at hl 1 rfl) ?_
  refine lv_iload hx hb dL_law_244 (lv_at hl 0 rfl) ?_
  refine lv_iconst (v := 1) hx hb dL_law_246 (by decide) ?_
  refine lv_iadd hx hb dL_law_247 ?_
  refine xi (y := nI (7 * t + 1)) (nI_add (7 * t) 1) ?_
  refine x_sld (j := (7 * t + 1)) hx hb hX hbl hbA hS (by omega) (by omega) dL_law_248 ?_
  refine lv_aload_n hx hb dL_law_249 rfl (lv_at hl 1 rfl) ?_
  refine lv_iload hx hb dL_law_250 (lv_at hl 0 rfl) ?_
  refine lv_iconst (v := 2) hx hb dL_law_252 (by decide) ?_
  refine lv_iadd hx hb dL_law_253 ?_
  refine xi (y := nI (7 * t + 2)) (nI_add (7 * t) 2) ?_
  refine x_sld (j := (7 * t + 2)) hx hb hX hbl hbA hS (by omega) (by omega) dL_law_254 ?_
  refine kn_i (wc := (wX a k n K V kd SK SV)) (wr := (wM bb g cd n K V (fun i9 => kd i9 + 1) SK SV ++ wO q z o)) (w1 := (wX a k n K V kd SK SV)) (vx_runSW (As := [.ref (a 0), .int (xs (7 * t + 1)), .int (xs (7 * t + 2))]) (rest := []) ⟨hx, hb, hml, hown, hts⟩ (h_step l hl9 D a k n K V kd SK SV (xs (7 * t + 1)) (xs (7 * t + 2)) H.size) (vx_cwSW (hh := [(0, 6, 9, 13), (0, 6, 12, 15)]) 3 hts (gd_S mb_125 mb_126 mb_115 mb_127) rfl rfl rfl (by decide +kernel) ⟨by decide, by decide⟩) ⟨cP_blind, cPre hP hD hK hS hA hZ [0, 1, 2, 3, 4, 5] rfl (by decide) [0, 1, 2, 3, 4] rfl⟩ rfl rfl hl.1 rfl (lv_room (Nat.le_of_ble_eq_true rfl)) dL_law_255 ⟨by rw [rm_c]; omega, by rw [rm_s]; omega⟩) hP hD hS hA [0, 1, 2, 3, 4, 5] [6, 7, 8, 9, 10, 11, 12] rfl rfl (by decide) (by decide) (fun r9 H locs hp hP hD hS => ?_)
  have hP := hP.sub (ws' := wX a k n K V kd SK SV ++ wM bb g cd n K V (fun i9 => kd i9 + 1) SK SV ++ wO q z o) [7, 8, 9, 10, 11, 12, 0, 1, 2, 3, 4, 5, 6] rfl
  have hD := hD.sub (ws' := wX a k n K V kd SK SV ++ wM bb g cd n K V (fun i9 => kd i9 + 1) SK SV ++ wO q z o) [7, 8, 9, 10, 11, 12, 0, 1, 2, 3, 4, 5, 6] (by decide) rfl
  have hP : va_P D vwCl (wX a k n K V kd SK SV ++ wM bb g cd n K V (fun i9 => kd i9 + 1) SK SV ++ wO q z o) H := hP
  have hD : va_D A (wX a k n K V kd SK SV ++ wM bb g cd n K V (fun i9 => kd i9 + 1) SK SV ++ wO q z o) := hD
  have hp : r9 = cdT (xs (7 * t + 1)) (xs (7 * t + 2)) kd := hp
  subst hp
  refine lv_istore (lv' := [(5, .int (cdT (xs (7 * t + 1)) (xs (7 * t + 2)) kd)), (4, .int (nI (7 * t))), (0, .ref b), (1, .ref (a 0)), (2, .ref (bb 0)), (3, .ref q)]) hx hb dL_law_258 hl (by decide) rfl (fun ls hl => ?_)
  refine lv_aload_n hx hb dL_law_260 rfl (lv_at hl 4 rfl) ?_
  refine lv_aload_n hx hb dL_law_261 rfl (lv_at hl 2 rfl) ?_
  refine lv_iload hx hb dL_law_262 (lv_at hl 1 rfl) ?_
  refine lv_iconst (v := 1) hx hb dL_law_264 (by decide) ?_
  refine lv_iadd hx hb dL_law_265 ?_
  refine xi (y := nI (7 * t + 1)) (nI_add (7 * t) 1) ?_
  refine x_sld (j := (7 * t + 1)) hx hb hX hbl hbA hS (by omega) (by omega) dL_law_266 ?_
  refine lv_aload_n hx hb dL_law_267 rfl (lv_at hl 2 rfl) ?_
  refine lv_iload hx hb dL_law_268 (lv_at hl 1 rfl) ?_
  refine lv_iconst (v := 2) hx hb dL_law_270 (by decide) ?_
  refine lv_iadd hx hb dL_law_271 ?_
  refine xi (y := nI (7 * t + 2)) (nI_add (7 * t) 2) ?_
  refine x_sld (j := (7 * t + 2)) hx hb hX hbl hbA hS (by omega) (by omega) dL_law_272 ?_
  refine kn_v (wc := (wM bb g cd n K V (fun i9 => kd i9 + 1) SK SV)) (wr := (wX a k n K V kd SK SV ++ wO q z o)) (w1 := (wM bb g (cdT (xs (7 * t + 1)) (xs (7 * t + 2)) kd) n K V (fun i9 => kd i9 + 1) SK SV)) (va_runV (As := [.int (xs (7 * t + 1)), .int (xs (7 * t + 2))]) (rest := []) ⟨hx, hb, hml, hown, hts⟩ (m_step l hl9 D bb g cd n K V kd SK SV (xs (7 * t + 1)) (xs (7 * t + 2)) H.size hk) (cwV 2 hts (gd_V mb_128 mb_129 mb_130 mb_50 mb_131) rfl rfl rfl (by decide +kernel) ⟨by decide, by decide⟩) ⟨cP_blind, va_recv (q0 := 6) (ci := 1) (q := (RX1, TX1, 7)) hK hP rfl rfl, cPre hP hD hK hS hA hZ [6, 7, 8, 9, 10, 11] rfl (by decide) [5, 6, 7, 8, 9] rfl⟩ rfl rfl hl.1 rfl (lv_room (Nat.le_of_ble_eq_true rfl)) dL_law_273 ⟨by rw [rm_c]; omega, by rw [rm_s]; omega⟩) hP hD hS hA [6, 7, 8, 9, 10, 11] [0, 1, 2, 3, 4, 5, 12] rfl rfl (by decide) (by decide) (fun H locs hp hP hD hS => ?_)
  have hP := hP.sub (ws' := wX a k n K V kd SK SV ++ wM bb g (cdT (xs (7 * t + 1)) (xs (7 * t + 2)) kd) n K V (fun i9 => kd i9 + 1) SK SV ++ wO q z o) [0, 1, 2, 3, 4, 5, 7, 8, 9, 10, 11, 12, 6] rfl
  have hD := hD.sub (ws' := wX a k n K V kd SK SV ++ wM bb g (cdT (xs (7 * t + 1)) (xs (7 * t + 2)) kd) n K V (fun i9 => kd i9 + 1) SK SV ++ wO q z o) [0, 1, 2, 3, 4, 5, 7, 8, 9, 10, 11, 12, 6] (by decide) rfl
  have hP : va_P D vwCl (wX a k n K V kd SK SV ++ wM bb g (cdT (xs (7 * t + 1)) (xs (7 * t + 2)) kd) n K V (fun i9 => kd i9 + 1) SK SV ++ wO q z o) H := hP
  have hD : va_D A (wX a k n K V kd SK SV ++ wM bb g (cdT (xs (7 * t + 1)) (xs (7 * t + 2)) kd) n K V (fun i9 => kd i9 + 1) SK SV ++ wO q z o) := hD
  refine lv_aload_n hx hb dL_law_276 rfl (lv_at hl 4 rfl) ?_
  refine kn_i (wc := (wM bb g (cdT (xs (7 * t + 1)) (xs (7 * t + 2)) kd) n K V (fun i9 => kd i9 + 1) SK SV)) (wr := (wX a k n K V kd SK SV ++ wO q z o)) (w1 := (wM bb g (cdT (xs (7 * t + 1)) (xs (7 * t + 2)) kd) n K V (fun i9 => kd i9 + 1) SK SV)) (va_runV (As := []) (rest := []) ⟨hx, hb, hml, hown, hts⟩ (m_thrown l hl9 D bb g (cdT (xs (7 * t + 1)) (xs (7 * t + 2)) kd) n K V kd SK SV H.size) (cwV 0 hts (gd_V mb_121 mb_122 mb_123 mb_50 mb_124) rfl rfl rfl (by decide +kernel) ⟨by decide, by decide⟩) ⟨cP_blind, va_recv (q0 := 6) (ci := 1) (q := (RX1, TX1, 7)) hK hP rfl rfl, cPre hP hD hK hS hA hZ [6, 7, 8, 9, 10, 11] rfl (by decide) [5, 6, 7, 8, 9] rfl⟩ rfl rfl hl.1 rfl (lv_room (Nat.le_of_ble_eq_true rfl)) dL_law_277 ⟨by rw [rm_c]; omega, by rw [rm_s]; omega⟩) hP hD hS hA [6, 7, 8, 9, 10, 11] [0, 1, 2, 3, 4, 5, 12] rfl rfl (by decide) (by decide) (fun r9 H locs hp hP hD hS => ?_)
  have hP := hP.sub (ws' := wX a k n K V kd SK SV ++ wM bb g (cdT (xs (7 * t + 1)) (xs (7 * t + 2)) kd) n K V (fun i9 => kd i9 + 1) SK SV ++ wO q z o) [0, 1, 2, 3, 4, 5, 7, 8, 9, 10, 11, 12, 6] rfl
  have hD := hD.sub (ws' := wX a k n K V kd SK SV ++ wM bb g (cdT (xs (7 * t + 1)) (xs (7 * t + 2)) kd) n K V (fun i9 => kd i9 + 1) SK SV ++ wO q z o) [0, 1, 2, 3, 4, 5, 7, 8, 9, 10, 11, 12, 6] (by decide) rfl
  have hP : va_P D vwCl (wX a k n K V kd SK SV ++ wM bb g (cdT (xs (7 * t + 1)) (xs (7 * t + 2)) kd) n K V (fun i9 => kd i9 + 1) SK SV ++ wO q z o) H := hP
  have hD : va_D A (wX a k n K V kd SK SV ++ wM bb g (cdT (xs (7 * t + 1)) (xs (7 * t + 2)) kd) n K V (fun i9 => kd i9 + 1) SK SV ++ wO q z o) := hD
  have hp : r9 = cdT (xs (7 * t + 1)) (xs (7 * t + 2)) kd := hp
  subst hp
  refine lv_iload hx hb dL_law_280 (lv_at hl 0 rfl) ?_
  refine lv_icmp_eq (tgt := 287) hx hb dL_law_282 (by decide) (fun h1 => ?_) (fun h1 => ?_)
  · skip
    refine lv_goto (tgt := 839) hx hb dL_law_287 (by decide) ?_
    refine W.widen (k := 13 + 1 * (t + 1)) (n := 462 + 6 * (t + 1)) (by omega) (by omega) ?_
    exact nx n K V kd SK SV (cdT (xs (7 * t + 1)) (xs (7 * t + 2)) kd) o H locs ls hI hP hD hS (lv_sub hl [1, 2, 3, 4, 5] rfl)
  · skip
    exact absurd rfl h1
set_option maxHeartbeats 1000000 in
set_option maxRecDepth 100000 in
theorem law_2 {p : Program} {e : Env} {s : State} {m : MethodId} {below : List Frame} {meth : Method} {c : Code} {l : Launch} {b L : Nat} {xs : Nat → Int32} {D : va_G} {A : Nat → Prop} {a : Nat → Nat} {k : Nat → ClassId} {bb : Nat → Nat} {g : Nat → ClassId} {q : Nat} {z : ClassId} (hl9 : l.stackTraces = false) (hx : p.tables.exec = Jvm.exec) (hb : c.code = cL_law) (hr : meth.sig.returnType = some .boolean) (hml : c.maxLocals = 8) (hlocks : meth.locks = false) (hown : s.vm.findClass RL = some m.cls) (hts : ∀ w ∈ ALL, w.before #[Value.ref b] s = true) (hX : va_X b L xs s s.heap) (hbl : b < s.heap.size) (hbA : ¬ A b) (hK : va_K D vwCl (tX k ++ tM g ++ tO z) s) (hZ : zx A s s.heap) (hA : ∀ q : Nat, s.heap.size ≤ q → A q) (hL : L ≤ 3584) (t : Nat) (ht : 7 * t + 7 ≤ L) (n : Nat) (K V : Nat → Int64) (kd : Nat → Int32) (SK SV : Nat → Int64) (cd : Int32) (o : Nat → Int64) (H : Heap) (locs : List Loc) (ls : Array Slot) (hI : inv n K kd) (hP : va_P D vwCl (wX a k n K V kd SK SV ++ wM bb g cd n K V (fun i9 => kd i9 + 1) SK SV ++ wO q z o) H) (hD : va_D A (wX a k n K V kd SK SV ++ wM bb g cd n K V (fun i9 => kd i9 + 1) SK SV ++ wO q z o)) (hS : va_S A s.heap H locs) (hl : lv_has ls 8 [(4, .int (nI (7 * t))), (0, .ref b), (1, .ref (a 0)), (2, .ref (bb 0)), (3, .ref q)])
    (nx : ∀ (n : Nat) (K V : Nat → Int64) (kd : Nat → Int32) (SK SV : Nat → Int64) (cd : Int32) (o : Nat → Int64) (H : Heap) (locs : List Loc) (ls : Array Slot), inv n K kd → va_P D vwCl (wX a k n K V kd SK SV ++ wM bb g cd n K V (fun i9 => kd i9 + 1) SK SV ++ wO q z o) H → va_D A (wX a k n K V kd SK SV ++ wM bb g cd n K V (fun i9 => kd i9 + 1) SK SV ++ wO q z o) → va_S A s.heap H locs → lv_has ls 8 [(4, .int (nI (7 * t))), (0, .ref b), (1, .ref (a 0)), (2, .ref (bb 0)), (3, .ref q)] → W p l e room_1 s m #[Value.ref b] below meth c H locs (13 + 1 * (t + 1)) (462 + 6 * (t + 1)) (lw_Z below #[Value.ref b] s) (F0 m 839 ls [])) :
    W p l e room_1 s m #[Value.ref b] below meth c H locs (13 + 1 * t) (462 + 6 * t) (lw_Z below #[Value.ref b] s) (F0 m 290 ls []) := by
  have hn := hI.1
  have hk := hI.2.2
  refine lv_aload_n hx hb dL_law_290 rfl (lv_at hl 2 rfl) ?_
  refine lv_aload_n hx hb dL_law_291 rfl (lv_at hl 1 rfl) ?_
  refine lv_iload hx hb dL_law_292 (lv_at hl 0 rfl) ?_
  refine lv_iconst (v := 1) hx hb dL_law_294 (by decide) ?_
  refine lv_iadd hx hb dL_law_295 ?_
  refine xi (y := nI (7 * t + 1)) (nI_add (7 * t) 1) ?_
  refine x_sld (j := (7 * t + 1)) hx hb hX hbl hbA hS (by omega) (by omega) dL_law_296 ?_
  refine lv_aload_n hx hb dL_law_297 rfl (lv_at hl 4 rfl) ?_
  refine kn_i (wc := (wX a k n K V kd SK SV ++ wO q z o)) (wr := (wM bb g cd n K V (fun i9 => kd i9 + 1) SK SV)) (w1 := (wX a k ((fin n K V kd SK SV (xs (7 * t + 1))).2.2.1) ((fin n K V kd SK SV (xs (7 * t + 1))).2.2.2.1) ((fin n K V kd SK SV (xs (7 * t + 1))).2.2.2.2.1) ((fin n K V kd SK SV (xs (7 * t + 1))).2.2.2.2.2) SK SV ++ wO q z (oS (fin n K V kd SK SV (xs (7 * t + 1))).1 (fin n K V kd SK SV (xs (7 * t + 1))).2.1 o))) (vx_runSW (As := [.ref (a 0), .int (xs (7 * t + 1)), .ref q]) (rest := []) ⟨hx, hb, hml, hown, hts⟩ (h_finish l hl9 D a k n K V kd SK SV (xs (7 * t + 1)) q z o H.size hn) (vx_cwSW (hh := [(0, 8, 11, 13), (0, 8, 14, 15), (0, 8, 17, 25)]) 3 hts (gd_S mb_132 mb_133 mb_115 mb_134) rfl rfl rfl (by decide +kernel) ⟨by decide, by decide⟩) ⟨cP_blind, cPre hP hD hK hS hA hZ [0, 1, 2, 3, 4, 5, 12] rfl (by decide) [0, 1, 2, 3, 4, 10] rfl⟩ rfl rfl hl.1 rfl (lv_room (Nat.le_of_ble_eq_true rfl)) dL_law_298 ⟨by rw [rm_c]; omega, by rw [rm_s]; omega⟩) hP hD hS hA [0, 1, 2, 3, 4, 5, 12] [6, 7, 8, 9, 10, 11] rfl rfl (by decide) (by decide) (fun r9 H locs hp hP hD hS => ?_)
  have hP := hP.sub (ws' := wX a k ((fin n K V kd SK SV (xs (7 * t + 1))).2.2.1) ((fin n K V kd SK SV (xs (7 * t + 1))).2.2.2.1) ((fin n K V kd SK SV (xs (7 * t + 1))).2.2.2.2.1) ((fin n K V kd SK SV (xs (7 * t + 1))).2.2.2.2.2) SK SV ++ wM bb g cd n K V (fun i9 => kd i9 + 1) SK SV ++ wO q z (oS (fin n K V kd SK SV (xs (7 * t + 1))).1 (fin n K V kd SK SV (xs (7 * t + 1))).2.1 o)) [6, 7, 8, 9, 10, 11, 0, 1, 2, 3, 4, 5, 12] rfl
  have hD := hD.sub (ws' := wX a k ((fin n K V kd SK SV (xs (7 * t + 1))).2.2.1) ((fin n K V kd SK SV (xs (7 * t + 1))).2.2.2.1) ((fin n K V kd SK SV (xs (7 * t + 1))).2.2.2.2.1) ((fin n K V kd SK SV (xs (7 * t + 1))).2.2.2.2.2) SK SV ++ wM bb g cd n K V (fun i9 => kd i9 + 1) SK SV ++ wO q z (oS (fin n K V kd SK SV (xs (7 * t + 1))).1 (fin n K V kd SK SV (xs (7 * t + 1))).2.1 o)) [6, 7, 8, 9, 10, 11, 0, 1, 2, 3, 4, 5, 12] (by decide) rfl
  have hP : va_P D vwCl (wX a k ((fin n K V kd SK SV (xs (7 * t + 1))).2.2.1) ((fin n K V kd SK SV (xs (7 * t + 1))).2.2.2.1) ((fin n K V kd SK SV (xs (7 * t + 1))).2.2.2.2.1) ((fin n K V kd SK SV (xs (7 * t + 1))).2.2.2.2.2) SK SV ++ wM bb g cd n K V (fun i9 => kd i9 + 1) SK SV ++ wO q z (oS (fin n K V kd SK SV (xs (7 * t + 1))).1 (fin n K V kd SK SV (xs (7 * t + 1))).2.1 o)) H := hP
  have hD : va_D A (wX a k ((fin n K V kd SK SV (xs (7 * t + 1))).2.2.1) ((fin n K V kd SK SV (xs (7 * t + 1))).2.2.2.1) ((fin n K V kd SK SV (xs (7 * t + 1))).2.2.2.2.1) ((fin n K V kd SK SV (xs (7 * t + 1))).2.2.2.2.2) SK SV ++ wM bb g cd n K V (fun i9 => kd i9 + 1) SK SV ++ wO q z (oS (fin n K V kd SK SV (xs (7 * t + 1))).1 (fin n K V kd SK SV (xs (7 * t + 1))).2.1 o)) := hD
  have hp : r9 = (fin n K V kd SK SV (xs (7 * t + 1))).1 := hp
  subst hp
  refine lv_istore (lv' := [(5, .int ((fin n K V kd SK SV (xs (7 * t + 1))).1)), (4, .int (nI (7 * t))), (0, .ref b), (1, .ref (a 0)), (2, .ref (bb 0)), (3, .ref q)]) hx hb dL_law_301 hl (by decide) rfl (fun ls hl => ?_)
  refine lv_aload_n hx hb dL_law_303 rfl (lv_at hl 4 rfl) ?_
  refine lv_aload_n hx hb dL_law_304 rfl (lv_at hl 2 rfl) ?_
  refine lv_iload hx hb dL_law_305 (lv_at hl 1 rfl) ?_
  refine lv_iconst (v := 1) hx hb dL_law_307 (by decide) ?_
  refine lv_iadd hx hb dL_law_308 ?_
  refine xi (y := nI (7 * t + 1)) (nI_add (7 * t) 1) ?_
  refine x_sld (j := (7 * t + 1)) hx hb hX hbl hbA hS (by omega) (by omega) dL_law_309 ?_
  refine kn_l (wc := (wM bb g cd n K V (fun i9 => kd i9 + 1) SK SV)) (wr := (wX a k ((fin n K V kd SK SV (xs (7 * t + 1))).2.2.1) ((fin n K V kd SK SV (xs (7 * t + 1))).2.2.2.1) ((fin n K V kd SK SV (xs (7 * t + 1))).2.2.2.2.1) ((fin n K V kd SK SV (xs (7 * t + 1))).2.2.2.2.2) SK SV ++ wO q z (oS (fin n K V kd SK SV (xs (7 * t + 1))).1 (fin n K V kd SK SV (xs (7 * t + 1))).2.1 o))) (w1 := (wM bb g ((fin n K V kd SK SV (xs (7 * t + 1))).1) ((fin n K V kd SK SV (xs (7 * t + 1))).2.2.1) ((fin n K V kd SK SV (xs (7 * t + 1))).2.2.2.1) ((fin n K V kd SK SV (xs (7 * t + 1))).2.2.2.2.1) (fun i9 => (fin n K V kd SK SV (xs (7 * t + 1))).2.2.2.2.2 i9 + 1) SK SV)) (va_runV (As := [.int (xs (7 * t + 1))]) (rest := []) ⟨hx, hb, hml, hown, hts⟩ (m_finish l hl9 D bb g cd n K V kd SK SV (xs (7 * t + 1)) H.size hn hk) (cwV 1 hts (gd_V mb_135 mb_136 mb_137 mb_50 mb_138) rfl rfl rfl (by decide +kernel) ⟨by decide, by decide⟩) ⟨cP_blind, va_recv (q0 := 6) (ci := 1) (q := (RX1, TX1, 7)) hK hP rfl rfl, cPre hP hD hK hS hA hZ [6, 7, 8, 9, 10, 11] rfl (by decide) [5, 6, 7, 8, 9] rfl⟩ rfl rfl hl.1 rfl (lv_room (Nat.le_of_ble_eq_true rfl)) dL_law_310 ⟨by rw [rm_c]; omega, by rw [rm_s]; omega⟩) hP hD hS hA [6, 7, 8, 9, 10, 11] [0, 1, 2, 3, 4, 5, 12] rfl rfl (by decide) (by decide) (fun r9 H locs hp hP hD hS => ?_)
  have hP := hP.sub (ws' := wX a k ((fin n K V kd SK SV (xs (7 * t + 1))).2.2.1) ((fin n K V kd SK SV (xs (7 * t + 1))).2.2.2.1) ((fin n K V kd SK SV (xs (7 * t + 1))).2.2.2.2.1) ((fin n K V kd SK SV (xs (7 * t + 1))).2.2.2.2.2) SK SV ++ wM bb g ((fin n K V kd SK SV (xs (7 * t + 1))).1) ((fin n K V kd SK SV (xs (7 * t + 1))).2.2.1) ((fin n K V kd SK SV (xs (7 * t + 1))).2.2.2.1) ((fin n K V kd SK SV (xs (7 * t + 1))).2.2.2.2.1) (fun i9 => (fin n K V kd SK SV (xs (7 * t + 1))).2.2.2.2.2 i9 + 1) SK SV ++ wO q z (oS (fin n K V kd SK SV (xs (7 * t + 1))).1 (fin n K V kd SK SV (xs (7 * t + 1))).2.1 o)) [0, 1, 2, 3, 4, 5, 7, 8, 9, 10, 11, 12, 6] rfl
  have hD := hD.sub (ws' := wX a k ((fin n K V kd SK SV (xs (7 * t + 1))).2.2.1) ((fin n K V kd SK SV (xs (7 * t + 1))).2.2.2.1) ((fin n K V kd SK SV (xs (7 * t + 1))).2.2.2.2.1) ((fin n K V kd SK SV (xs (7 * t + 1))).2.2.2.2.2) SK SV ++ wM bb g ((fin n K V kd SK SV (xs (7 * t + 1))).1) ((fin n K V kd SK SV (xs (7 * t + 1))).2.2.1) ((fin n K V kd SK SV (xs (7 * t + 1))).2.2.2.1) ((fin n K V kd SK SV (xs (7 * t + 1))).2.2.2.2.1) (fun i9 => (fin n K V kd SK SV (xs (7 * t + 1))).2.2.2.2.2 i9 + 1) SK SV ++ wO q z (oS (fin n K V kd SK SV (xs (7 * t + 1))).1 (fin n K V kd SK SV (xs (7 * t + 1))).2.1 o)) [0, 1, 2, 3, 4, 5, 7, 8, 9, 10, 11, 12, 6] (by decide) rfl
  have hP : va_P D vwCl (wX a k ((fin n K V kd SK SV (xs (7 * t + 1))).2.2.1) ((fin n K V kd SK SV (xs (7 * t + 1))).2.2.2.1) ((fin n K V kd SK SV (xs (7 * t + 1))).2.2.2.2.1) ((fin n K V kd SK SV (xs (7 * t + 1))).2.2.2.2.2) SK SV ++ wM bb g ((fin n K V kd SK SV (xs (7 * t + 1))).1) ((fin n K V kd SK SV (xs (7 * t + 1))).2.2.1) ((fin n K V kd SK SV (xs (7 * t + 1))).2.2.2.1) ((fin n K V kd SK SV (xs (7 * t + 1))).2.2.2.2.1) (fun i9 => (fin n K V kd SK SV (xs (7 * t + 1))).2.2.2.2.2 i9 + 1) SK SV ++ wO q z (oS (fin n K V kd SK SV (xs (7 * t + 1))).1 (fin n K V kd SK SV (xs (7 * t + 1))).2.1 o)) H := hP
  have hD : va_D A (wX a k ((fin n K V kd SK SV (xs (7 * t + 1))).2.2.1) ((fin n K V kd SK SV (xs (7 * t + 1))).2.2.2.1) ((fin n K V kd SK SV (xs (7 * t + 1))).2.2.2.2.1) ((fin n K V kd SK SV (xs (7 * t + 1))).2.2.2.2.2) SK SV ++ wM bb g ((fin n K V kd SK SV (xs (7 * t + 1))).1) ((fin n K V kd SK SV (xs (7 * t + 1))).2.2.1) ((fin n K V kd SK SV (xs (7 * t + 1))).2.2.2.1) ((fin n K V kd SK SV (xs (7 * t + 1))).2.2.2.2.1) (fun i9 => (fin n K V kd SK SV (xs (7 * t + 1))).2.2.2.2.2 i9 + 1) SK SV ++ wO q z (oS (fin n K V kd SK SV (xs (7 * t + 1))).1 (fin n K V kd SK SV (xs (7 * t + 1))).2.1 o)) := hD
  have hp0 := hp
  generalize r9 = v9 at hp0 ⊢
  refine lv_lstore (lv' := [(6, .long v9), (5, .int ((fin n K V kd SK SV (xs (7 * t + 1))).1)), (4, .int (nI (7 * t))), (0, .ref b), (1, .ref (a 0)), (2, .ref (bb 0)), (3, .ref q)]) hx hb dL_law_313 hl (by decide) rfl (fun ls hl => ?_)
  refine lv_aload_n hx hb dL_law_315 rfl (lv_at hl 5 rfl) ?_
  refine kn_i (wc := (wM bb g ((fin n K V kd SK SV (xs (7 * t + 1))).1) ((fin n K V kd SK SV (xs (7 * t + 1))).2.2.1) ((fin n K V kd SK SV (xs (7 * t + 1))).2.2.2.1) ((fin n K V kd SK SV (xs (7 * t + 1))).2.2.2.2.1) (fun i9 => (fin n K V kd SK SV (xs (7 * t + 1))).2.2.2.2.2 i9 + 1) SK SV)) (wr := (wX a k ((fin n K V kd SK SV (xs (7 * t + 1))).2.2.1) ((fin n K V kd SK SV (xs (7 * t + 1))).2.2.2.1) ((fin n K V kd SK SV (xs (7 * t + 1))).2.2.2.2.1) ((fin n K V kd SK SV (xs (7 * t + 1))).2.2.2.2.2) SK SV ++ wO q z (oS (fin n K V kd SK SV (xs (7 * t + 1))).1 (fin n K V kd SK SV (xs (7 * t + 1))).2.1 o))) (w1 := (wM bb g ((fin n K V kd SK SV (xs (7 * t + 1))).1) ((fin n K V kd SK SV (xs (7 * t + 1))).2.2.1) ((fin n K V kd SK SV (xs (7 * t + 1))).2.2.2.1) ((fin n K V kd SK SV (xs (7 * t + 1))).2.2.2.2.1) (fun i9 => (fin n K V kd SK SV (xs (7 * t + 1))).2.2.2.2.2 i9 + 1) SK SV)) (va_runV (As := []) (rest := []) ⟨hx, hb, hml, hown, hts⟩ (m_thrown l hl9 D bb g (fin n K V kd SK SV (xs (7 * t + 1))).1 (fin n K V kd SK SV (xs (7 * t + 1))).2.2.1 (fin n K V kd SK SV (xs (7 * t + 1))).2.2.2.1 (fin n K V kd SK SV (xs (7 * t + 1))).2.2.2.2.1 (fin n K V kd SK SV (xs (7 * t + 1))).2.2.2.2.2 SK SV H.size) (cwV 0 hts (gd_V mb_121 mb_122 mb_123 mb_50 mb_124) rfl rfl rfl (by decide +kernel) ⟨by decide, by decide⟩) ⟨cP_blind, va_recv (q0 := 6) (ci := 1) (q := (RX1, TX1, 7)) hK hP rfl rfl, cPre hP hD hK hS hA hZ [6, 7, 8, 9, 10, 11] rfl (by decide) [5, 6, 7, 8, 9] rfl⟩ rfl rfl hl.1 rfl (lv_room (Nat.le_of_ble_eq_true rfl)) dL_law_316 ⟨by rw [rm_c]; omega, by rw [rm_s]; omega⟩) hP hD hS hA [6, 7, 8, 9, 10, 11] [0, 1, 2, 3, 4, 5, 12] rfl rfl (by decide) (by decide) (fun r9 H locs hp hP hD hS => ?_)
  have hP := hP.sub (ws' := wX a k ((fin n K V kd SK SV (xs (7 * t + 1))).2.2.1) ((fin n K V kd SK SV (xs (7 * t + 1))).2.2.2.1) ((fin n K V kd SK SV (xs (7 * t + 1))).2.2.2.2.1) ((fin n K V kd SK SV (xs (7 * t + 1))).2.2.2.2.2) SK SV ++ wM bb g ((fin n K V kd SK SV (xs (7 * t + 1))).1) ((fin n K V kd SK SV (xs (7 * t + 1))).2.2.1) ((fin n K V kd SK SV (xs (7 * t + 1))).2.2.2.1) ((fin n K V kd SK SV (xs (7 * t + 1))).2.2.2.2.1) (fun i9 => (fin n K V kd SK SV (xs (7 * t + 1))).2.2.2.2.2 i9 + 1) SK SV ++ wO q z (oS (fin n K V kd SK SV (xs (7 * t + 1))).1 (fin n K V kd SK SV (xs (7 * t + 1))).2.1 o)) [0, 1, 2, 3, 4, 5, 7, 8, 9, 10, 11, 12, 6] rfl
  have hD := hD.sub (ws' := wX a k ((fin n K V kd SK SV (xs (7 * t + 1))).2.2.1) ((fin n K V kd SK SV (xs (7 * t + 1))).2.2.2.1) ((fin n K V kd SK SV (xs (7 * t + 1))).2.2.2.2.1) ((fin n K V kd SK SV (xs (7 * t + 1))).2.2.2.2.2) SK SV ++ wM bb g ((fin n K V kd SK SV (xs (7 * t + 1))).1) ((fin n K V kd SK SV (xs (7 * t + 1))).2.2.1) ((fin n K V kd SK SV (xs (7 * t + 1))).2.2.2.1) ((fin n K V kd SK SV (xs (7 * t + 1))).2.2.2.2.1) (fun i9 => (fin n K V kd SK SV (xs (7 * t + 1))).2.2.2.2.2 i9 + 1) SK SV ++ wO q z (oS (fin n K V kd SK SV (xs (7 * t + 1))).1 (fin n K V kd SK SV (xs (7 * t + 1))).2.1 o)) [0, 1, 2, 3, 4, 5, 7, 8, 9, 10, 11, 12, 6] (by decide) rfl
  have hP : va_P D vwCl (wX a k ((fin n K V kd SK SV (xs (7 * t + 1))).2.2.1) ((fin n K V kd SK SV (xs (7 * t + 1))).2.2.2.1) ((fin n K V kd SK SV (xs (7 * t + 1))).2.2.2.2.1) ((fin n K V kd SK SV (xs (7 * t + 1))).2.2.2.2.2) SK SV ++ wM bb g ((fin n K V kd SK SV (xs (7 * t + 1))).1) ((fin n K V kd SK SV (xs (7 * t + 1))).2.2.1) ((fin n K V kd SK SV (xs (7 * t + 1))).2.2.2.1) ((fin n K V kd SK SV (xs (7 * t + 1))).2.2.2.2.1) (fun i9 => (fin n K V kd SK SV (xs (7 * t + 1))).2.2.2.2.2 i9 + 1) SK SV ++ wO q z (oS (fin n K V kd SK SV (xs (7 * t + 1))).1 (fin n K V kd SK SV (xs (7 * t + 1))).2.1 o)) H := hP
  have hD : va_D A (wX a k ((fin n K V kd SK SV (xs (7 * t + 1))).2.2.1) ((fin n K V kd SK SV (xs (7 * t + 1))).2.2.2.1) ((fin n K V kd SK SV (xs (7 * t + 1))).2.2.2.2.1) ((fin n K V kd SK SV (xs (7 * t + 1))).2.2.2.2.2) SK SV ++ wM bb g ((fin n K V kd SK SV (xs (7 * t + 1))).1) ((fin n K V kd SK SV (xs (7 * t + 1))).2.2.1) ((fin n K V kd SK SV (xs (7 * t + 1))).2.2.2.1) ((fin n K V kd SK SV (xs (7 * t + 1))).2.2.2.2.1) (fun i9 => (fin n K V kd SK SV (xs (7 * t + 1))).2.2.2.2.2 i9 + 1) SK SV ++ wO q z (oS (fin n K V kd SK SV (xs (7 * t + 1))).1 (fin n K V kd SK SV (xs (7 * t + 1))).2.1 o)) := hD
  have hp : r9 = (fin n K V kd SK SV (xs (7 * t + 1))).1 := hp
  subst hp
  refine lv_iload hx hb dL_law_319 (lv_at hl 1 rfl) ?_
  refine lv_icmp_eq (tgt := 326) hx hb dL_law_321 (by decide) (fun h1 => ?_) (fun h1 => ?_)
  · skip
    refine lv_iload hx hb dL_law_326 (lv_at hl 1 rfl) ?_
    refine lv_if_ne (tgt := 342) hx hb dL_law_328 (by decide) (fun h2 => ?_) (fun h2 => ?_)
    · skip
      refine lv_goto (tgt := 839) hx hb dL_law_342 (by decide) ?_
      refine W.widen (k := 13 + 1 * (t + 1)) (n := 462 + 6 * (t + 1)) (by omega) (by omega) ?_
      exact nx ((fin n K V kd SK SV (xs (7 * t + 1))).2.2.1) ((fin n K V kd SK SV (xs (7 * t + 1))).2.2.2.1) ((fin n K V kd SK SV (xs (7 * t + 1))).2.2.2.2.1) ((fin n K V kd SK SV (xs (7 * t + 1))).2.2.2.2.2) SK SV ((fin n K V kd SK SV (xs (7 * t + 1))).1) (oS (fin n K V kd SK SV (xs (7 * t + 1))).1 (fin n K V kd SK SV (xs (7 * t + 1))).2.1 o) H locs ls (inv_F _ hI) hP hD hS (lv_sub hl [2, 3, 4, 5, 6] rfl)
    · skip
      have h3 : v9 = (fin n K V kd SK SV (xs (7 * t + 1))).2.1 := hp0 h2
      subst h3
      refine lv_aload_n hx hb dL_law_331 rfl (lv_at hl 6 rfl) ?_
      refine lv_iconst (v := 0) hx hb dL_law_332 (by decide) ?_
      refine xi (y := nI 0) rfl ?_
      refine x_lald (j := 0) hx hb hK hP 12 10 rfl rfl (by decide) (by decide) dL_law_333 ?_
      refine xl (y := (fin n K V kd SK SV (xs (7 * t + 1))).2.1) (oS_at h2) ?_
      refine lv_lload hx hb dL_law_334 (lv_at hl 0 rfl) ?_
      refine W.lcmp hx hb dL_law_336 ?_
      refine lv_if_eq (tgt := 342) hx hb dL_law_337 (by decide) (fun h4 => ?_) (fun h4 => ?_)
      · skip
        refine lv_goto (tgt := 839) hx hb dL_law_342 (by decide) ?_
        refine W.widen (k := 13 + 1 * (t + 1)) (n := 462 + 6 * (t + 1)) (by omega) (by omega) ?_
        exact nx ((fin n K V kd SK SV (xs (7 * t + 1))).2.2.1) ((fin n K V kd SK SV (xs (7 * t + 1))).2.2.2.1) ((fin n K V kd SK SV (xs (7 * t + 1))).2.2.2.2.1) ((fin n K V kd SK SV (xs (7 * t + 1))).2.2.2.2.2) SK SV ((fin n K V kd SK SV (xs (7 * t + 1))).1) (oS (fin n K V kd SK SV (xs (7 * t + 1))).1 (fin n K V kd SK SV (xs (7 * t + 1))).2.1 o) H locs ls (inv_F _ hI) hP hD hS (lv_sub hl [2, 3, 4, 5, 6] rfl)
      · skip
        exact absurd ((lg_cmp_eq _ _).mpr rfl) h4
  · skip
    exact absurd rfl h1
set_option maxHeartbeats 1000000 in
set_option maxRecDepth 100000 in
theorem law_3 {p : Program} {e : Env} {s : State} {m : MethodId} {below : List Frame} {meth : Method} {c : Code} {l : Launch} {b L : Nat} {xs : Nat → Int32} {D : va_G} {A : Nat → Prop} {a : Nat → Nat} {k : Nat → ClassId} {bb : Nat → Nat} {g : Nat → ClassId} {q : Nat} {z : ClassId} (hl9 : l.stackTraces = false) (hx : p.tables.exec = Jvm.exec) (hb : c.code = cL_law) (hr : meth.sig.returnType = some .boolean) (hml : c.maxLocals = 8) (hlocks : meth.locks = false) (hown : s.vm.findClass RL = some m.cls) (hts : ∀ w ∈ ALL, w.before #[Value.ref b] s = true) (hX : va_X b L xs s s.heap) (hbl : b < s.heap.size) (hbA : ¬ A b) (hK : va_K D vwCl (tX k ++ tM g ++ tO z) s) (hZ : zx A s s.heap) (hA : ∀ q : Nat, s.heap.size ≤ q → A q) (hL : L ≤ 3584) (t : Nat) (ht : 7 * t + 7 ≤ L) (n : Nat) (K V : Nat → Int64) (kd : Nat → Int32) (SK SV : Nat → Int64) (cd : Int32) (o : Nat → Int64) (H : Heap) (locs : List Loc) (ls : Array Slot) (hI : inv n K kd) (hP : va_P D vwCl (wX a k n K V kd SK SV ++ wM bb g cd n K V (fun i9 => kd i9 + 1) SK SV ++ wO q z o) H) (hD : va_D A (wX a k n K V kd SK SV ++ wM bb g cd n K V (fun i9 => kd i9 + 1) SK SV ++ wO q z o)) (hS : va_S A s.heap H locs) (hl : lv_has ls 8 [(4, .int (nI (7 * t))), (0, .ref b), (1, .ref (a 0)), (2, .ref (bb 0)), (3, .ref q)])
    (nx : ∀ (n : Nat) (K V : Nat → Int64) (kd : Nat → Int32) (SK SV : Nat → Int64) (cd : Int32) (o : Nat → Int64) (H : Heap) (locs : List Loc) (ls : Array Slot), inv n K kd → va_P D vwCl (wX a k n K V kd SK SV ++ wM bb g cd n K V (fun i9 => kd i9 + 1) SK SV ++ wO q z o) H → va_D A (wX a k n K V kd SK SV ++ wM bb g cd n K V (fun i9 => kd i9 + 1) SK SV ++ wO q z o) → va_S A s.heap H locs → lv_has ls 8 [(4, .int (nI (7 * t))), (0, .ref b), (1, .ref (a 0)), (2, .ref (bb 0)), (3, .ref q)] → W p l e room_1 s m #[Value.ref b] below meth c H locs (13 + 1 * (t + 1)) (462 + 6 * (t + 1)) (lw_Z below #[Value.ref b] s) (F0 m 839 ls [])) :
    W p l e room_1 s m #[Value.ref b] below meth c H locs (13 + 1 * t) (462 + 6 * t) (lw_Z below #[Value.ref b] s) (F0 m 345 ls []) := by
  have hn := hI.1
  have hk := hI.2.2
  refine lv_aload_n hx hb dL_law_345 rfl (lv_at hl 2 rfl) ?_
  refine lv_aload_n hx hb dL_law_346 rfl (lv_at hl 1 rfl) ?_
  refine lv_iload hx hb dL_law_347 (lv_at hl 0 rfl) ?_
  refine lv_iconst (v := 1) hx hb dL_law_349 (by decide) ?_
  refine lv_iadd hx hb dL_law_350 ?_
  refine xi (y := nI (7 * t + 1)) (nI_add (7 * t) 1) ?_
  refine x_sld (j := (7 * t + 1)) hx hb hX hbl hbA hS (by omega) (by omega) dL_law_351 ?_
  refine lv_aload_n hx hb dL_law_352 rfl (lv_at hl 4 rfl) ?_
  refine kn_i (wc := (wX a k n K V kd SK SV ++ wO q z o)) (wr := (wM bb g cd n K V (fun i9 => kd i9 + 1) SK SV)) (w1 := (wX a k n K V (kdD (xs (7 * t + 1)) kd) SK SV ++ wO q z (oS (cdD (xs (7 * t + 1))) (if kd (ix (xs (7 * t + 1))) = -1 then 0 else 1) o))) (vx_runSW (As := [.ref (a 0), .int (xs (7 * t + 1)), .ref q]) (rest := []) ⟨hx, hb, hml, hown, hts⟩ (h_drop l hl9 D a k n K V kd SK SV (xs (7 * t + 1)) q z o H.size) (vx_cwSW (hh := [(0, 16, 19, 13)]) 3 hts (gd_S mb_139 mb_140 mb_115 mb_141) rfl rfl rfl (by decide +kernel) ⟨by decide, by decide⟩) ⟨cP_blind, cPre hP hD hK hS hA hZ [0, 1, 2, 3, 4, 5, 12] rfl (by decide) [0, 1, 2, 3, 4, 10] rfl⟩ rfl rfl hl.1 rfl (lv_room (Nat.le_of_ble_eq_true rfl)) dL_law_353 ⟨by rw [rm_c]; omega, by rw [rm_s]; omega⟩) hP hD hS hA [0, 1, 2, 3, 4, 5, 12] [6, 7, 8, 9, 10, 11] rfl rfl (by decide) (by decide) (fun r9 H locs hp hP hD hS => ?_)
  have hP := hP.sub (ws' := wX a k n K V (kdD (xs (7 * t + 1)) kd) SK SV ++ wM bb g cd n K V (fun i9 => kd i9 + 1) SK SV ++ wO q z (oS (cdD (xs (7 * t + 1))) (if kd (ix (xs (7 * t + 1))) = -1 then 0 else 1) o)) [6, 7, 8, 9, 10, 11, 0, 1, 2, 3, 4, 5, 12] rfl
  have hD := hD.sub (ws' := wX a k n K V (kdD (xs (7 * t + 1)) kd) SK SV ++ wM bb g cd n K V (fun i9 => kd i9 + 1) SK SV ++ wO q z (oS (cdD (xs (7 * t + 1))) (if kd (ix (xs (7 * t + 1))) = -1 then 0 else 1) o)) [6, 7, 8, 9, 10, 11, 0, 1, 2, 3, 4, 5, 12] (by decide) rfl
  have hP : va_P D vwCl (wX a k n K V (kdD (xs (7 * t + 1)) kd) SK SV ++ wM bb g cd n K V (fun i9 => kd i9 + 1) SK SV ++ wO q z (oS (cdD (xs (7 * t + 1))) (if kd (ix (xs (7 * t + 1))) = -1 then 0 else 1) o)) H := hP
  have hD : va_D A (wX a k n K V (kdD (xs (7 * t + 1)) kd) SK SV ++ wM bb g cd n K V (fun i9 => kd i9 + 1) SK SV ++ wO q z (oS (cdD (xs (7 * t + 1))) (if kd (ix (xs (7 * t + 1))) = -1 then 0 else 1) o)) := hD
  have hp : r9 = cdD (xs (7 * t + 1)) := hp
  subst hp
  refine lv_istore (lv' := [(5, .int (cdD (xs (7 * t + 1)))), (4, .int (nI (7 * t))), (0, .ref b), (1, .ref (a 0)), (2, .ref (bb 0)), (3, .ref q)]) hx hb dL_law_356 hl (by decide) rfl (fun ls hl => ?_)
  refine lv_aload_n hx hb dL_law_358 rfl (lv_at hl 4 rfl) ?_
  refine lv_aload_n hx hb dL_law_359 rfl (lv_at hl 2 rfl) ?_
  refine lv_iload hx hb dL_law_360 (lv_at hl 1 rfl) ?_
  refine lv_iconst (v := 1) hx hb dL_law_362 (by decide) ?_
  refine lv_iadd hx hb dL_law_363 ?_
  refine xi (y := nI (7 * t + 1)) (nI_add (7 * t) 1) ?_
  refine x_sld (j := (7 * t + 1)) hx hb hX hbl hbA hS (by omega) (by omega) dL_law_364 ?_
  refine kn_i (wc := (wM bb g cd n K V (fun i9 => kd i9 + 1) SK SV)) (wr := (wX a k n K V (kdD (xs (7 * t + 1)) kd) SK SV ++ wO q z (oS (cdD (xs (7 * t + 1))) (if kd (ix (xs (7 * t + 1))) = -1 then 0 else 1) o))) (w1 := (wM bb g (cdD (xs (7 * t + 1))) n K V (fun i9 => kdD (xs (7 * t + 1)) kd i9 + 1) SK SV)) (va_runV (As := [.int (xs (7 * t + 1))]) (rest := []) ⟨hx, hb, hml, hown, hts⟩ (m_drop l hl9 D bb g cd n K V kd SK SV (xs (7 * t + 1)) H.size hk) (cwV 1 hts (gd_V mb_142 mb_143 mb_144 mb_50 mb_145) rfl rfl rfl (by decide +kernel) ⟨by decide, by decide⟩) ⟨cP_blind, va_recv (q0 := 6) (ci := 1) (q := (RX1, TX1, 7)) hK hP rfl rfl, cPre hP hD hK hS hA hZ [6, 7, 8, 9, 10, 11] rfl (by decide) [5, 6, 7, 8, 9] rfl⟩ rfl rfl hl.1 rfl (lv_room (Nat.le_of_ble_eq_true rfl)) dL_law_365 ⟨by rw [rm_c]; omega, by rw [rm_s]; omega⟩) hP hD hS hA [6, 7, 8, 9, 10, 11] [0, 1, 2, 3, 4, 5, 12] rfl rfl (by decide) (by decide) (fun r9 H locs hp hP hD hS => ?_)
  have hP := hP.sub (ws' := wX a k n K V (kdD (xs (7 * t + 1)) kd) SK SV ++ wM bb g (cdD (xs (7 * t + 1))) n K V (fun i9 => kdD (xs (7 * t + 1)) kd i9 + 1) SK SV ++ wO q z (oS (cdD (xs (7 * t + 1))) (if kd (ix (xs (7 * t + 1))) = -1 then 0 else 1) o)) [0, 1, 2, 3, 4, 5, 7, 8, 9, 10, 11, 12, 6] rfl
  have hD := hD.sub (ws' := wX a k n K V (kdD (xs (7 * t + 1)) kd) SK SV ++ wM bb g (cdD (xs (7 * t + 1))) n K V (fun i9 => kdD (xs (7 * t + 1)) kd i9 + 1) SK SV ++ wO q z (oS (cdD (xs (7 * t + 1))) (if kd (ix (xs (7 * t + 1))) = -1 then 0 else 1) o)) [0, 1, 2, 3, 4, 5, 7, 8, 9, 10, 11, 12, 6] (by decide) rfl
  have hP : va_P D vwCl (wX a k n K V (kdD (xs (7 * t + 1)) kd) SK SV ++ wM bb g (cdD (xs (7 * t + 1))) n K V (fun i9 => kdD (xs (7 * t + 1)) kd i9 + 1) SK SV ++ wO q z (oS (cdD (xs (7 * t + 1))) (if kd (ix (xs (7 * t + 1))) = -1 then 0 else 1) o)) H := hP
  have hD : va_D A (wX a k n K V (kdD (xs (7 * t + 1)) kd) SK SV ++ wM bb g (cdD (xs (7 * t + 1))) n K V (fun i9 => kdD (xs (7 * t + 1)) kd i9 + 1) SK SV ++ wO q z (oS (cdD (xs (7 * t + 1))) (if kd (ix (xs (7 * t + 1))) = -1 then 0 else 1) o)) := hD
  have hp0 := hp
  generalize r9 = v9 at hp0 ⊢
  refine lv_istore (lv' := [(6, .int v9), (5, .int (cdD (xs (7 * t + 1)))), (4, .int (nI (7 * t))), (0, .ref b), (1, .ref (a 0)), (2, .ref (bb 0)), (3, .ref q)]) hx hb dL_law_368 hl (by decide) rfl (fun ls hl => ?_)
  refine lv_aload_n hx hb dL_law_370 rfl (lv_at hl 5 rfl) ?_
  refine kn_i (wc := (wM bb g (cdD (xs (7 * t + 1))) n K V (fun i9 => kdD (xs (7 * t + 1)) kd i9 + 1) SK SV)) (wr := (wX a k n K V (kdD (xs (7 * t + 1)) kd) SK SV ++ wO q z (oS (cdD (xs (7 * t + 1))) (if kd (ix (xs (7 * t + 1))) = -1 then 0 else 1) o))) (w1 := (wM bb g (cdD (xs (7 * t + 1))) n K V (fun i9 => kdD (xs (7 * t + 1)) kd i9 + 1) SK SV)) (va_runV (As := []) (rest := []) ⟨hx, hb, hml, hown, hts⟩ (m_thrown l hl9 D bb g (cdD (xs (7 * t + 1))) n K V (kdD (xs (7 * t + 1)) kd) SK SV H.size) (cwV 0 hts (gd_V mb_121 mb_122 mb_123 mb_50 mb_124) rfl rfl rfl (by decide +kernel) ⟨by decide, by decide⟩) ⟨cP_blind, va_recv (q0 := 6) (ci := 1) (q := (RX1, TX1, 7)) hK hP rfl rfl, cPre hP hD hK hS hA hZ [6, 7, 8, 9, 10, 11] rfl (by decide) [5, 6, 7, 8, 9] rfl⟩ rfl rfl hl.1 rfl (lv_room (Nat.le_of_ble_eq_true rfl)) dL_law_371 ⟨by rw [rm_c]; omega, by rw [rm_s]; omega⟩) hP hD hS hA [6, 7, 8, 9, 10, 11] [0, 1, 2, 3, 4, 5, 12] rfl rfl (by decide) (by decide) (fun r9 H locs hp hP hD hS => ?_)
  have hP := hP.sub (ws' := wX a k n K V (kdD (xs (7 * t + 1)) kd) SK SV ++ wM bb g (cdD (xs (7 * t + 1))) n K V (fun i9 => kdD (xs (7 * t + 1)) kd i9 + 1) SK SV ++ wO q z (oS (cdD (xs (7 * t + 1))) (if kd (ix (xs (7 * t + 1))) = -1 then 0 else 1) o)) [0, 1, 2, 3, 4, 5, 7, 8, 9, 10, 11, 12, 6] rfl
  have hD := hD.sub (ws' := wX a k n K V (kdD (xs (7 * t + 1)) kd) SK SV ++ wM bb g (cdD (xs (7 * t + 1))) n K V (fun i9 => kdD (xs (7 * t + 1)) kd i9 + 1) SK SV ++ wO q z (oS (cdD (xs (7 * t + 1))) (if kd (ix (xs (7 * t + 1))) = -1 then 0 else 1) o)) [0, 1, 2, 3, 4, 5, 7, 8, 9, 10, 11, 12, 6] (by decide) rfl
  have hP : va_P D vwCl (wX a k n K V (kdD (xs (7 * t + 1)) kd) SK SV ++ wM bb g (cdD (xs (7 * t + 1))) n K V (fun i9 => kdD (xs (7 * t + 1)) kd i9 + 1) SK SV ++ wO q z (oS (cdD (xs (7 * t + 1))) (if kd (ix (xs (7 * t + 1))) = -1 then 0 else 1) o)) H := hP
  have hD : va_D A (wX a k n K V (kdD (xs (7 * t + 1)) kd) SK SV ++ wM bb g (cdD (xs (7 * t + 1))) n K V (fun i9 => kdD (xs (7 * t + 1)) kd i9 + 1) SK SV ++ wO q z (oS (cdD (xs (7 * t + 1))) (if kd (ix (xs (7 * t + 1))) = -1 then 0 else 1) o)) := hD
  have hp : r9 = cdD (xs (7 * t + 1)) := hp
  subst hp
  refine lv_iload hx hb dL_law_374 (lv_at hl 1 rfl) ?_
  refine lv_icmp_eq (tgt := 381) hx hb dL_law_376 (by decide) (fun h1 => ?_) (fun h1 => ?_)
  · skip
    refine lv_iload hx hb dL_law_381 (lv_at hl 1 rfl) ?_
    refine lv_if_ne (tgt := 405) hx hb dL_law_383 (by decide) (fun h2 => ?_) (fun h2 => ?_)
    · skip
      refine lv_goto (tgt := 839) hx hb dL_law_405 (by decide) ?_
      refine W.widen (k := 13 + 1 * (t + 1)) (n := 462 + 6 * (t + 1)) (by omega) (by omega) ?_
      exact nx n K V (kdD (xs (7 * t + 1)) kd) SK SV (cdD (xs (7 * t + 1))) (oS (cdD (xs (7 * t + 1))) (if kd (ix (xs (7 * t + 1))) = -1 then 0 else 1) o) H locs ls (inv_D _ hI) hP hD hS (lv_sub hl [2, 3, 4, 5, 6] rfl)
    · skip
      have hs : okS (xs (7 * t + 1)) := cdD_0 h2
      have h3 := hp0 hs
      refine lv_aload_n hx hb dL_law_386 rfl (lv_at hl 6 rfl) ?_
      refine lv_iconst (v := 0) hx hb dL_law_387 (by decide) ?_
      refine xi (y := nI 0) rfl ?_
      refine x_lald (j := 0) hx hb hK hP 12 10 rfl rfl (by decide) (by decide) dL_law_388 ?_
      refine xl (y := (if kd (ix (xs (7 * t + 1))) = -1 then 0 else 1)) (oS_at h2) ?_
      by_cases h5 : kd (ix (xs (7 * t + 1))) = -1
      · skip
        rw [if_pos h5] at h3
        subst h3
        refine xl (y := 0) (if_pos h5) ?_
        refine lv_iload hx hb dL_law_389 (lv_at hl 0 rfl) ?_
        refine lv_if_eq (tgt := 398) hx hb dL_law_391 (by decide) (fun h6 => ?_) (fun h6 => ?_)
        · skip
          refine lv_lconst (v := 0) hx hb dL_law_398 (by decide) ?_
          refine W.lcmp hx hb dL_law_399 ?_
          refine lv_if_eq (tgt := 405) hx hb dL_law_400 (by decide) (fun h4 => ?_) (fun h4 => ?_)
          · skip
            refine lv_goto (tgt := 839) hx hb dL_law_405 (by decide) ?_
            refine W.widen (k := 13 + 1 * (t + 1)) (n := 462 + 6 * (t + 1)) (by omega) (by omega) ?_
            exact nx n K V (kdD (xs (7 * t + 1)) kd) SK SV (cdD (xs (7 * t + 1))) (oS (cdD (xs (7 * t + 1))) (if kd (ix (xs (7 * t + 1))) = -1 then 0 else 1) o) H locs ls (inv_D _ hI) hP hD hS (lv_sub hl [2, 3, 4, 5, 6] rfl)
          · skip
            exact absurd ((lg_cmp_eq _ _).mpr rfl) h4
        · skip
          first | exact absurd h6 (by decide) | exact (h6 rfl).elim
      · skip
        rw [if_neg h5] at h3
        subst h3
        refine xl (y := 1) (if_neg h5) ?_
        refine lv_iload hx hb dL_law_389 (lv_at hl 0 rfl) ?_
        refine lv_if_eq (tgt := 398) hx hb dL_law_391 (by decide) (fun h6 => ?_) (fun h6 => ?_)
        · skip
          first | exact absurd h6 (by decide) | exact (h6 rfl).elim
        · skip
          refine lv_lconst (v := 1) hx hb dL_law_394 (by decide) ?_
          refine lv_goto (tgt := 399) hx hb dL_law_395 (by decide) ?_
          refine W.lcmp hx hb dL_law_399 ?_
          refine lv_if_eq (tgt := 405) hx hb dL_law_400 (by decide) (fun h4 => ?_) (fun h4 => ?_)
          · skip
            refine lv_goto (tgt := 839) hx hb dL_law_405 (by decide) ?_
            refine W.widen (k := 13 + 1 * (t + 1)) (n := 462 + 6 * (t + 1)) (by omega) (by omega) ?_
            exact nx n K V (kdD (xs (7 * t + 1)) kd) SK SV (cdD (xs (7 * t + 1))) (oS (cdD (xs (7 * t + 1))) (if kd (ix (xs (7 * t + 1))) = -1 then 0 else 1) o) H locs ls (inv_D _ hI) hP hD hS (lv_sub hl [2, 3, 4, 5, 6] rfl)
          · skip
            exact absurd ((lg_cmp_eq _ _).mpr rfl) h4
  · skip
    exact absurd rfl h1
set_option maxHeartbeats 1000000 in
set_option maxRecDepth 100000 in
theorem law_4 {p : Program} {e : Env} {s : State} {m : MethodId} {below : List Frame} {meth : Method} {c : Code} {l : Launch} {b L : Nat} {xs : Nat → Int32} {D : va_G} {A : Nat → Prop} {a : Nat → Nat} {k : Nat → ClassId} {bb : Nat → Nat} {g : Nat → ClassId} {q : Nat} {z : ClassId} (hl9 : l.stackTraces = false) (hx : p.tables.exec = Jvm.exec) (hb : c.code = cL_law) (hr : meth.sig.returnType = some .boolean) (hml : c.maxLocals = 8) (hlocks : meth.locks = false) (hown : s.vm.findClass RL = some m.cls) (hts : ∀ w ∈ ALL, w.before #[Value.ref b] s = true) (hX : va_X b L xs s s.heap) (hbl : b < s.heap.size) (hbA : ¬ A b) (hK : va_K D vwCl (tX k ++ tM g ++ tO z) s) (hZ : zx A s s.heap) (hA : ∀ q : Nat, s.heap.size ≤ q → A q) (hL : L ≤ 3584) (t : Nat) (ht : 7 * t + 7 ≤ L) (n : Nat) (K V : Nat → Int64) (kd : Nat → Int32) (SK SV : Nat → Int64) (cd : Int32) (o : Nat → Int64) (H : Heap) (locs : List Loc) (ls : Array Slot) (hI : inv n K kd) (hP : va_P D vwCl (wX a k n K V kd SK SV ++ wM bb g cd n K V (fun i9 => kd i9 + 1) SK SV ++ wO q z o) H) (hD : va_D A (wX a k n K V kd SK SV ++ wM bb g cd n K V (fun i9 => kd i9 + 1) SK SV ++ wO q z o)) (hS : va_S A s.heap H locs) (hl : lv_has ls 8 [(4, .int (nI (7 * t))), (0, .ref b), (1, .ref (a 0)), (2, .ref (bb 0)), (3, .ref q)])
    (nx : ∀ (n : Nat) (K V : Nat → Int64) (kd : Nat → Int32) (SK SV : Nat → Int64) (cd : Int32) (o : Nat → Int64) (H : Heap) (locs : List Loc) (ls : Array Slot), inv n K kd → va_P D vwCl (wX a k n K V kd SK SV ++ wM bb g cd n K V (fun i9 => kd i9 + 1) SK SV ++ wO q z o) H → va_D A (wX a k n K V kd SK SV ++ wM bb g cd n K V (fun i9 => kd i9 + 1) SK SV ++ wO q z o) → va_S A s.heap H locs → lv_has ls 8 [(4, .int (nI (7 * t))), (0, .ref b), (1, .ref (a 0)), (2, .ref (bb 0)), (3, .ref q)] → W p l e room_1 s m #[Value.ref b] below meth c H locs (13 + 1 * (t + 1)) (462 + 6 * (t + 1)) (lw_Z below #[Value.ref b] s) (F0 m 839 ls [])) :
    W p l e room_1 s m #[Value.ref b] below meth c H locs (13 + 1 * t) (462 + 6 * t) (lw_Z below #[Value.ref b] s) (F0 m 408 ls []) := by
  have hn := hI.1
  have hk := hI.2.2
  refine lv_aload_n hx hb dL_law_408 rfl (lv_at hl 2 rfl) ?_
  refine lv_aload_n hx hb dL_law_409 rfl (lv_at hl 1 rfl) ?_
  refine lv_iload hx hb dL_law_410 (lv_at hl 0 rfl) ?_
  refine lv_iconst (v := 1) hx hb dL_law_412 (by decide) ?_
  refine lv_iadd hx hb dL_law_413 ?_
  refine xi (y := nI (7 * t + 1)) (nI_add (7 * t) 1) ?_
  refine x_sld (j := (7 * t + 1)) hx hb hX hbl hbA hS (by omega) (by omega) dL_law_414 ?_
  refine kn_i (wc := (wX a k n K V kd SK SV)) (wr := (wM bb g cd n K V (fun i9 => kd i9 + 1) SK SV ++ wO q z o)) (w1 := (wX a k n K V kd SK SV)) (vx_runSW (As := [.ref (a 0), .int (xs (7 * t + 1))]) (rest := []) ⟨hx, hb, hml, hown, hts⟩ (h_tidy l hl9 D a k n K V kd SK SV (xs (7 * t + 1)) H.size) (vx_cwSW (hh := [(0, 5, 8, 13)]) 2 hts (gd_S mb_146 mb_147 mb_115 mb_148) rfl rfl rfl (by decide +kernel) ⟨by decide, by decide⟩) ⟨cP_blind, cPre hP hD hK hS hA hZ [0, 1, 2, 3, 4, 5] rfl (by decide) [0, 1, 2, 3, 4] rfl⟩ rfl rfl hl.1 rfl (lv_room (Nat.le_of_ble_eq_true rfl)) dL_law_415 ⟨by rw [rm_c]; omega, by rw [rm_s]; omega⟩) hP hD hS hA [0, 1, 2, 3, 4, 5] [6, 7, 8, 9, 10, 11, 12] rfl rfl (by decide) (by decide) (fun r9 H locs hp hP hD hS => ?_)
  have hP := hP.sub (ws' := wX a k n K V kd SK SV ++ wM bb g cd n K V (fun i9 => kd i9 + 1) SK SV ++ wO q z o) [7, 8, 9, 10, 11, 12, 0, 1, 2, 3, 4, 5, 6] rfl
  have hD := hD.sub (ws' := wX a k n K V kd SK SV ++ wM bb g cd n K V (fun i9 => kd i9 + 1) SK SV ++ wO q z o) [7, 8, 9, 10, 11, 12, 0, 1, 2, 3, 4, 5, 6] (by decide) rfl
  have hP : va_P D vwCl (wX a k n K V kd SK SV ++ wM bb g cd n K V (fun i9 => kd i9 + 1) SK SV ++ wO q z o) H := hP
  have hD : va_D A (wX a k n K V kd SK SV ++ wM bb g cd n K V (fun i9 => kd i9 + 1) SK SV ++ wO q z o) := hD
  have hp : r9 = cdY (xs (7 * t + 1)) := hp
  subst hp
  refine lv_istore (lv' := [(5, .int (cdY (xs (7 * t + 1)))), (4, .int (nI (7 * t))), (0, .ref b), (1, .ref (a 0)), (2, .ref (bb 0)), (3, .ref q)]) hx hb dL_law_418 hl (by decide) rfl (fun ls hl => ?_)
  refine lv_aload_n hx hb dL_law_420 rfl (lv_at hl 4 rfl) ?_
  refine lv_aload_n hx hb dL_law_421 rfl (lv_at hl 2 rfl) ?_
  refine lv_iload hx hb dL_law_422 (lv_at hl 1 rfl) ?_
  refine lv_iconst (v := 1) hx hb dL_law_424 (by decide) ?_
  refine lv_iadd hx hb dL_law_425 ?_
  refine xi (y := nI (7 * t + 1)) (nI_add (7 * t) 1) ?_
  refine x_sld (j := (7 * t + 1)) hx hb hX hbl hbA hS (by omega) (by omega) dL_law_426 ?_
  refine kn_v (wc := (wM bb g cd n K V (fun i9 => kd i9 + 1) SK SV)) (wr := (wX a k n K V kd SK SV ++ wO q z o)) (w1 := (wM bb g (cdY (xs (7 * t + 1))) n K V (fun i9 => kd i9 + 1) SK SV)) (va_runV (As := [.int (xs (7 * t + 1))]) (rest := []) ⟨hx, hb, hml, hown, hts⟩ (m_tidy l hl9 D bb g cd n K V kd SK SV (xs (7 * t + 1)) H.size) (cwV 1 hts (gd_V mb_149 mb_150 mb_151 mb_50 mb_152) rfl rfl rfl (by decide +kernel) ⟨by decide, by decide⟩) ⟨cP_blind, va_recv (q0 := 6) (ci := 1) (q := (RX1, TX1, 7)) hK hP rfl rfl, cPre hP hD hK hS hA hZ [6, 7, 8, 9, 10, 11] rfl (by decide) [5, 6, 7, 8, 9] rfl⟩ rfl rfl hl.1 rfl (lv_room (Nat.le_of_ble_eq_true rfl)) dL_law_427 ⟨by rw [rm_c]; omega, by rw [rm_s]; omega⟩) hP hD hS hA [6, 7, 8, 9, 10, 11] [0, 1, 2, 3, 4, 5, 12] rfl rfl (by decide) (by decide) (fun H locs hp hP hD hS => ?_)
  have hP := hP.sub (ws' := wX a k n K V kd SK SV ++ wM bb g (cdY (xs (7 * t + 1))) n K V (fun i9 => kd i9 + 1) SK SV ++ wO q z o) [0, 1, 2, 3, 4, 5, 7, 8, 9, 10, 11, 12, 6] rfl
  have hD := hD.sub (ws' := wX a k n K V kd SK SV ++ wM bb g (cdY (xs (7 * t + 1))) n K V (fun i9 => kd i9 + 1) SK SV ++ wO q z o) [0, 1, 2, 3, 4, 5, 7, 8, 9, 10, 11, 12, 6] (by decide) rfl
  have hP : va_P D vwCl (wX a k n K V kd SK SV ++ wM bb g (cdY (xs (7 * t + 1))) n K V (fun i9 => kd i9 + 1) SK SV ++ wO q z o) H := hP
  have hD : va_D A (wX a k n K V kd SK SV ++ wM bb g (cdY (xs (7 * t + 1))) n K V (fun i9 => kd i9 + 1) SK SV ++ wO q z o) := hD
  refine lv_aload_n hx hb dL_law_430 rfl (lv_at hl 4 rfl) ?_
  refine kn_i (wc := (wM bb g (cdY (xs (7 * t + 1))) n K V (fun i9 => kd i9 + 1) SK SV)) (wr := (wX a k n K V kd SK SV ++ wO q z o)) (w1 := (wM bb g (cdY (xs (7 * t + 1))) n K V (fun i9 => kd i9 + 1) SK SV)) (va_runV (As := []) (rest := []) ⟨hx, hb, hml, hown, hts⟩ (m_thrown l hl9 D bb g (cdY (xs (7 * t + 1))) n K V kd SK SV H.size) (cwV 0 hts (gd_V mb_121 mb_122 mb_123 mb_50 mb_124) rfl rfl rfl (by decide +kernel) ⟨by decide, by decide⟩) ⟨cP_blind, va_recv (q0 := 6) (ci := 1) (q := (RX1, TX1, 7)) hK hP rfl rfl, cPre hP hD hK hS hA hZ [6, 7, 8, 9, 10, 11] rfl (by decide) [5, 6, 7, 8, 9] rfl⟩ rfl rfl hl.1 rfl (lv_room (Nat.le_of_ble_eq_true rfl)) dL_law_431 ⟨by rw [rm_c]; omega, by rw [rm_s]; omega⟩) hP hD hS hA [6, 7, 8, 9, 10, 11] [0, 1, 2, 3, 4, 5, 12] rfl rfl (by decide) (by decide) (fun r9 H locs hp hP hD hS => ?_)
  have hP := hP.sub (ws' := wX a k n K V kd SK SV ++ wM bb g (cdY (xs (7 * t + 1))) n K V (fun i9 => kd i9 + 1) SK SV ++ wO q z o) [0, 1, 2, 3, 4, 5, 7, 8, 9, 10, 11, 12, 6] rfl
  have hD := hD.sub (ws' := wX a k n K V kd SK SV ++ wM bb g (cdY (xs (7 * t + 1))) n K V (fun i9 => kd i9 + 1) SK SV ++ wO q z o) [0, 1, 2, 3, 4, 5, 7, 8, 9, 10, 11, 12, 6] (by decide) rfl
  have hP : va_P D vwCl (wX a k n K V kd SK SV ++ wM bb g (cdY (xs (7 * t + 1))) n K V (fun i9 => kd i9 + 1) SK SV ++ wO q z o) H := hP
  have hD : va_D A (wX a k n K V kd SK SV ++ wM bb g (cdY (xs (7 * t + 1))) n K V (fun i9 => kd i9 + 1) SK SV ++ wO q z o) := hD
  have hp : r9 = cdY (xs (7 * t + 1)) := hp
  subst hp
  refine lv_iload hx hb dL_law_434 (lv_at hl 0 rfl) ?_
  refine lv_icmp_eq (tgt := 441) hx hb dL_law_436 (by decide) (fun h1 => ?_) (fun h1 => ?_)
  · skip
    refine lv_goto (tgt := 839) hx hb dL_law_441 (by decide) ?_
    refine W.widen (k := 13 + 1 * (t + 1)) (n := 462 + 6 * (t + 1)) (by omega) (by omega) ?_
    exact nx n K V kd SK SV (cdY (xs (7 * t + 1))) o H locs ls hI hP hD hS (lv_sub hl [1, 2, 3, 4, 5] rfl)
  · skip
    exact absurd rfl h1
set_option maxHeartbeats 1000000 in
set_option maxRecDepth 100000 in
theorem law_5 {p : Program} {e : Env} {s : State} {m : MethodId} {below : List Frame} {meth : Method} {c : Code} {l : Launch} {b L : Nat} {xs : Nat → Int32} {D : va_G} {A : Nat → Prop} {a : Nat → Nat} {k : Nat → ClassId} {bb : Nat → Nat} {g : Nat → ClassId} {q : Nat} {z : ClassId} (hl9 : l.stackTraces = false) (hx : p.tables.exec = Jvm.exec) (hb : c.code = cL_law) (hr : meth.sig.returnType = some .boolean) (hml : c.maxLocals = 8) (hlocks : meth.locks = false) (hown : s.vm.findClass RL = some m.cls) (hts : ∀ w ∈ ALL, w.before #[Value.ref b] s = true) (hX : va_X b L xs s s.heap) (hbl : b < s.heap.size) (hbA : ¬ A b) (hK : va_K D vwCl (tX k ++ tM g ++ tO z) s) (hZ : zx A s s.heap) (hA : ∀ q : Nat, s.heap.size ≤ q → A q) (hL : L ≤ 3584) (t : Nat) (ht : 7 * t + 7 ≤ L) (n : Nat) (K V : Nat → Int64) (kd : Nat → Int32) (SK SV : Nat → Int64) (cd : Int32) (o : Nat → Int64) (H : Heap) (locs : List Loc) (ls : Array Slot) (hI : inv n K kd) (hP : va_P D vwCl (wX a k n K V kd SK SV ++ wM bb g cd n K V (fun i9 => kd i9 + 1) SK SV ++ wO q z o) H) (hD : va_D A (wX a k n K V kd SK SV ++ wM bb g cd n K V (fun i9 => kd i9 + 1) SK SV ++ wO q z o)) (hS : va_S A s.heap H locs) (hl : lv_has ls 8 [(4, .int (nI (7 * t))), (0, .ref b), (1, .ref (a 0)), (2, .ref (bb 0)), (3, .ref q)])
    (nx : ∀ (n : Nat) (K V : Nat → Int64) (kd : Nat → Int32) (SK SV : Nat → Int64) (cd : Int32) (o : Nat → Int64) (H : Heap) (locs : List Loc) (ls : Array Slot), inv n K kd → va_P D vwCl (wX a k n K V kd SK SV ++ wM bb g cd n K V (fun i9 => kd i9 + 1) SK SV ++ wO q z o) H → va_D A (wX a k n K V kd SK SV ++ wM bb g cd n K V (fun i9 => kd i9 + 1) SK SV ++ wO q z o) → va_S A s.heap H locs → lv_has ls 8 [(4, .int (nI (7 * t))), (0, .ref b), (1, .ref (a 0)), (2, .ref (bb 0)), (3, .ref q)] → W p l e room_1 s m #[Value.ref b] below meth c H locs (13 + 1 * (t + 1)) (462 + 6 * (t + 1)) (lw_Z below #[Value.ref b] s) (F0 m 839 ls [])) :
    W p l e room_1 s m #[Value.ref b] below meth c H locs (13 + 1 * t) (462 + 6 * t) (lw_Z below #[Value.ref b] s) (F0 m 444 ls []) := by
  have hn := hI.1
  have hk := hI.2.2
  refine lv_aload_n hx hb dL_law_444 rfl (lv_at hl 2 rfl) ?_
  refine kn_i (wc := (wX a k n K V kd SK SV)) (wr := (wM bb g cd n K V (fun i9 => kd i9 + 1) SK SV ++ wO q z o)) (w1 := (wX a k n K V ((crF 8 0 kd 0).1) SK SV)) (va_runV (As := []) (rest := []) ⟨hx, hb, hml, hown, hts⟩ (c_crash l hl9 D a k n K V kd SK SV H.size) (cwV 0 hts (gd_V mb_153 mb_154 mb_155 mb_12 mb_156) rfl rfl rfl (by decide +kernel) ⟨by decide, by decide⟩) ⟨cP_blind, va_recv (q0 := 0) (ci := 0) (q := (RX0, TX0, 6)) hK hP rfl rfl, cPre hP hD hK hS hA hZ [0, 1, 2, 3, 4, 5] rfl (by decide) [0, 1, 2, 3, 4] rfl⟩ rfl rfl hl.1 rfl (lv_room (Nat.le_of_ble_eq_true rfl)) dL_law_445 ⟨by rw [rm_c]; omega, by rw [rm_s]; omega⟩) hP hD hS hA [0, 1, 2, 3, 4, 5] [6, 7, 8, 9, 10, 11, 12] rfl rfl (by decide) (by decide) (fun r9 H locs hp hP hD hS => ?_)
  have hP := hP.sub (ws' := wX a k n K V ((crF 8 0 kd 0).1) SK SV ++ wM bb g cd n K V (fun i9 => kd i9 + 1) SK SV ++ wO q z o) [7, 8, 9, 10, 11, 12, 0, 1, 2, 3, 4, 5, 6] rfl
  have hD := hD.sub (ws' := wX a k n K V ((crF 8 0 kd 0).1) SK SV ++ wM bb g cd n K V (fun i9 => kd i9 + 1) SK SV ++ wO q z o) [7, 8, 9, 10, 11, 12, 0, 1, 2, 3, 4, 5, 6] (by decide) rfl
  have hP : va_P D vwCl (wX a k n K V ((crF 8 0 kd 0).1) SK SV ++ wM bb g cd n K V (fun i9 => kd i9 + 1) SK SV ++ wO q z o) H := hP
  have hD : va_D A (wX a k n K V ((crF 8 0 kd 0).1) SK SV ++ wM bb g cd n K V (fun i9 => kd i9 + 1) SK SV ++ wO q z o) := hD
  have hp : r9 = (crF 8 0 kd 0).2 := hp
  subst hp
  refine lv_aload_n hx hb dL_law_448 rfl (lv_at hl 3 rfl) ?_
  refine kn_i (wc := (wM bb g cd n K V (fun i9 => kd i9 + 1) SK SV)) (wr := (wX a k n K V ((crF 8 0 kd 0).1) SK SV ++ wO q z o)) (w1 := (wM bb g 0 n K V (fun i9 => (crF 8 0 kd 0).1 i9 + 1) SK SV)) (va_runV (As := []) (rest := [.int ((crF 8 0 kd 0).2)]) ⟨hx, hb, hml, hown, hts⟩ (m_crash l hl9 D bb g cd n K V kd SK SV H.size hk) (cwV 0 hts (gd_V mb_157 mb_158 mb_159 mb_50 mb_160) rfl rfl rfl (by decide +kernel) ⟨by decide, by decide⟩) ⟨cP_blind, va_recv (q0 := 6) (ci := 1) (q := (RX1, TX1, 7)) hK hP rfl rfl, cPre hP hD hK hS hA hZ [6, 7, 8, 9, 10, 11] rfl (by decide) [5, 6, 7, 8, 9] rfl⟩ rfl rfl hl.1 rfl (lv_room (Nat.le_of_ble_eq_true rfl)) dL_law_449 ⟨by rw [rm_c]; omega, by rw [rm_s]; omega⟩) hP hD hS hA [6, 7, 8, 9, 10, 11] [0, 1, 2, 3, 4, 5, 12] rfl rfl (by decide) (by decide) (fun r9 H locs hp hP hD hS => ?_)
  have hP := hP.sub (ws' := wX a k n K V ((crF 8 0 kd 0).1) SK SV ++ wM bb g 0 n K V (fun i9 => (crF 8 0 kd 0).1 i9 + 1) SK SV ++ wO q z o) [0, 1, 2, 3, 4, 5, 7, 8, 9, 10, 11, 12, 6] rfl
  have hD := hD.sub (ws' := wX a k n K V ((crF 8 0 kd 0).1) SK SV ++ wM bb g 0 n K V (fun i9 => (crF 8 0 kd 0).1 i9 + 1) SK SV ++ wO q z o) [0, 1, 2, 3, 4, 5, 7, 8, 9, 10, 11, 12, 6] (by decide) rfl
  have hP : va_P D vwCl (wX a k n K V ((crF 8 0 kd 0).1) SK SV ++ wM bb g 0 n K V (fun i9 => (crF 8 0 kd 0).1 i9 + 1) SK SV ++ wO q z o) H := hP
  have hD : va_D A (wX a k n K V ((crF 8 0 kd 0).1) SK SV ++ wM bb g 0 n K V (fun i9 => (crF 8 0 kd 0).1 i9 + 1) SK SV ++ wO q z o) := hD
  have hp : r9 = (crF 8 0 kd 0).2 := hp
  subst hp
  refine lv_icmp_eq (tgt := 839) hx hb dL_law_452 (by decide) (fun h1 => ?_) (fun h1 => ?_)
  · skip
    refine W.widen (k := 13 + 1 * (t + 1)) (n := 462 + 6 * (t + 1)) (by omega) (by omega) ?_
    exact nx n K V ((crF 8 0 kd 0).1) SK SV 0 o H locs ls ⟨hI.1, hI.2.1, crF_ok 8 0 kd 0 hk⟩ hP hD hS (lv_sub hl [0, 1, 2, 3, 4] rfl)
  · skip
    exact absurd rfl h1
set_option maxHeartbeats 1000000 in
set_option maxRecDepth 100000 in
theorem law_6 {p : Program} {e : Env} {s : State} {m : MethodId} {below : List Frame} {meth : Method} {c : Code} {l : Launch} {b L : Nat} {xs : Nat → Int32} {D : va_G} {A : Nat → Prop} {a : Nat → Nat} {k : Nat → ClassId} {bb : Nat → Nat} {g : Nat → ClassId} {q : Nat} {z : ClassId} (hl9 : l.stackTraces = false) (hx : p.tables.exec = Jvm.exec) (hb : c.code = cL_law) (hr : meth.sig.returnType = some .boolean) (hml : c.maxLocals = 8) (hlocks : meth.locks = false) (hown : s.vm.findClass RL = some m.cls) (hts : ∀ w ∈ ALL, w.before #[Value.ref b] s = true) (hX : va_X b L xs s s.heap) (hbl : b < s.heap.size) (hbA : ¬ A b) (hK : va_K D vwCl (tX k ++ tM g ++ tO z) s) (hZ : zx A s s.heap) (hA : ∀ q : Nat, s.heap.size ≤ q → A q) (hL : L ≤ 3584) (t : Nat) (ht : 7 * t + 7 ≤ L) (n : Nat) (K V : Nat → Int64) (kd : Nat → Int32) (SK SV : Nat → Int64) (cd : Int32) (o : Nat → Int64) (H : Heap) (locs : List Loc) (ls : Array Slot) (hI : inv n K kd) (hP : va_P D vwCl (wX a k n K V kd SK SV ++ wM bb g cd n K V (fun i9 => kd i9 + 1) SK SV ++ wO q z o) H) (hD : va_D A (wX a k n K V kd SK SV ++ wM bb g cd n K V (fun i9 => kd i9 + 1) SK SV ++ wO q z o)) (hS : va_S A s.heap H locs) (hl : lv_has ls 8 [(4, .int (nI (7 * t))), (0, .ref b), (1, .ref (a 0)), (2, .ref (bb 0)), (3, .ref q)])
    (nx : ∀ (n : Nat) (K V : Nat → Int64) (kd : Nat → Int32) (SK SV : Nat → Int64) (cd : Int32) (o : Nat → Int64) (H : Heap) (locs : List Loc) (ls : Array Slot), inv n K kd → va_P D vwCl (wX a k n K V kd SK SV ++ wM bb g cd n K V (fun i9 => kd i9 + 1) SK SV ++ wO q z o) H → va_D A (wX a k n K V kd SK SV ++ wM bb g cd n K V (fun i9 => kd i9 + 1) SK SV ++ wO q z o) → va_S A s.heap H locs → lv_has ls 8 [(4, .int (nI (7 * t))), (0, .ref b), (1, .ref (a 0)), (2, .ref (bb 0)), (3, .ref q)] → W p l e room_1 s m #[Value.ref b] below meth c H locs (13 + 1 * (t + 1)) (462 + 6 * (t + 1)) (lw_Z below #[Value.ref b] s) (F0 m 839 ls [])) :
    W p l e room_1 s m #[Value.ref b] below meth c H locs (13 + 1 * t) (462 + 6 * t) (lw_Z below #[Value.ref b] s) (F0 m 457 ls []) := by
  have hn := hI.1
  have hk := hI.2.2
  refine lv_aload_n hx hb dL_law_457 rfl (lv_at hl 2 rfl) ?_
  refine lv_aload_n hx hb dL_law_458 rfl (lv_at hl 1 rfl) ?_
  refine lv_iload hx hb dL_law_459 (lv_at hl 0 rfl) ?_
  refine lv_iconst (v := 1) hx hb dL_law_461 (by decide) ?_
  refine lv_iadd hx hb dL_law_462 ?_
  refine xi (y := nI (7 * t + 1)) (nI_add (7 * t) 1) ?_
  refine x_sld (j := (7 * t + 1)) hx hb hX hbl hbA hS (by omega) (by omega) dL_law_463 ?_
  refine lv_aload_n hx hb dL_law_464 rfl (lv_at hl 4 rfl) ?_
  refine kn_i (wc := (wX a k n K V kd SK SV ++ wO q z o)) (wr := (wM bb g cd n K V (fun i9 => kd i9 + 1) SK SV)) (w1 := (wX a k n K V kd SK SV ++ wO q z (oS (cdD (xs (7 * t + 1))) (kd (ix (xs (7 * t + 1)))).toInt64 o))) (vx_runSW (As := [.ref (a 0), .int (xs (7 * t + 1)), .ref q]) (rest := []) ⟨hx, hb, hml, hown, hts⟩ (h_kind l hl9 D a k n K V kd SK SV (xs (7 * t + 1)) q z o H.size) (vx_cwSW (hh := [(0, 9, 12, 13)]) 3 hts (gd_S mb_161 mb_162 mb_115 mb_163) rfl rfl rfl (by decide +kernel) ⟨by decide, by decide⟩) ⟨cP_blind, cPre hP hD hK hS hA hZ [0, 1, 2, 3, 4, 5, 12] rfl (by decide) [0, 1, 2, 3, 4, 10] rfl⟩ rfl rfl hl.1 rfl (lv_room (Nat.le_of_ble_eq_true rfl)) dL_law_465 ⟨by rw [rm_c]; omega, by rw [rm_s]; omega⟩) hP hD hS hA [0, 1, 2, 3, 4, 5, 12] [6, 7, 8, 9, 10, 11] rfl rfl (by decide) (by decide) (fun r9 H locs hp hP hD hS => ?_)
  have hP := hP.sub (ws' := wX a k n K V kd SK SV ++ wM bb g cd n K V (fun i9 => kd i9 + 1) SK SV ++ wO q z (oS (cdD (xs (7 * t + 1))) (kd (ix (xs (7 * t + 1)))).toInt64 o)) [6, 7, 8, 9, 10, 11, 0, 1, 2, 3, 4, 5, 12] rfl
  have hD := hD.sub (ws' := wX a k n K V kd SK SV ++ wM bb g cd n K V (fun i9 => kd i9 + 1) SK SV ++ wO q z (oS (cdD (xs (7 * t + 1))) (kd (ix (xs (7 * t + 1)))).toInt64 o)) [6, 7, 8, 9, 10, 11, 0, 1, 2, 3, 4, 5, 12] (by decide) rfl
  have hP : va_P D vwCl (wX a k n K V kd SK SV ++ wM bb g cd n K V (fun i9 => kd i9 + 1) SK SV ++ wO q z (oS (cdD (xs (7 * t + 1))) (kd (ix (xs (7 * t + 1)))).toInt64 o)) H := hP
  have hD : va_D A (wX a k n K V kd SK SV ++ wM bb g cd n K V (fun i9 => kd i9 + 1) SK SV ++ wO q z (oS (cdD (xs (7 * t + 1))) (kd (ix (xs (7 * t + 1)))).toInt64 o)) := hD
  have hp : r9 = cdD (xs (7 * t + 1)) := hp
  subst hp
  refine lv_istore (lv' := [(5, .int (cdD (xs (7 * t + 1)))), (4, .int (nI (7 * t))), (0, .ref b), (1, .ref (a 0)), (2, .ref (bb 0)), (3, .ref q)]) hx hb dL_law_468 hl (by decide) rfl (fun ls hl => ?_)
  refine lv_aload_n hx hb dL_law_470 rfl (lv_at hl 4 rfl) ?_
  refine lv_aload_n hx hb dL_law_471 rfl (lv_at hl 2 rfl) ?_
  refine lv_iload hx hb dL_law_472 (lv_at hl 1 rfl) ?_
  refine lv_iconst (v := 1) hx hb dL_law_474 (by decide) ?_
  refine lv_iadd hx hb dL_law_475 ?_
  refine xi (y := nI (7 * t + 1)) (nI_add (7 * t) 1) ?_
  refine x_sld (j := (7 * t + 1)) hx hb hX hbl hbA hS (by omega) (by omega) dL_law_476 ?_
  refine kn_i (wc := (wM bb g cd n K V (fun i9 => kd i9 + 1) SK SV)) (wr := (wX a k n K V kd SK SV ++ wO q z (oS (cdD (xs (7 * t + 1))) (kd (ix (xs (7 * t + 1)))).toInt64 o))) (w1 := (wM bb g (cdD (xs (7 * t + 1))) n K V (fun i9 => kd i9 + 1) SK SV)) (va_runV (As := [.int (xs (7 * t + 1))]) (rest := []) ⟨hx, hb, hml, hown, hts⟩ (m_kind l hl9 D bb g cd n K V kd SK SV (xs (7 * t + 1)) H.size) (cwV 1 hts (gd_V mb_164 mb_165 mb_166 mb_50 mb_167) rfl rfl rfl (by decide +kernel) ⟨by decide, by decide⟩) ⟨cP_blind, va_recv (q0 := 6) (ci := 1) (q := (RX1, TX1, 7)) hK hP rfl rfl, cPre hP hD hK hS hA hZ [6, 7, 8, 9, 10, 11] rfl (by decide) [5, 6, 7, 8, 9] rfl⟩ rfl rfl hl.1 rfl (lv_room (Nat.le_of_ble_eq_true rfl)) dL_law_477 ⟨by rw [rm_c]; omega, by rw [rm_s]; omega⟩) hP hD hS hA [6, 7, 8, 9, 10, 11] [0, 1, 2, 3, 4, 5, 12] rfl rfl (by decide) (by decide) (fun r9 H locs hp hP hD hS => ?_)
  have hP := hP.sub (ws' := wX a k n K V kd SK SV ++ wM bb g (cdD (xs (7 * t + 1))) n K V (fun i9 => kd i9 + 1) SK SV ++ wO q z (oS (cdD (xs (7 * t + 1))) (kd (ix (xs (7 * t + 1)))).toInt64 o)) [0, 1, 2, 3, 4, 5, 7, 8, 9, 10, 11, 12, 6] rfl
  have hD := hD.sub (ws' := wX a k n K V kd SK SV ++ wM bb g (cdD (xs (7 * t + 1))) n K V (fun i9 => kd i9 + 1) SK SV ++ wO q z (oS (cdD (xs (7 * t + 1))) (kd (ix (xs (7 * t + 1)))).toInt64 o)) [0, 1, 2, 3, 4, 5, 7, 8, 9, 10, 11, 12, 6] (by decide) rfl
  have hP : va_P D vwCl (wX a k n K V kd SK SV ++ wM bb g (cdD (xs (7 * t + 1))) n K V (fun i9 => kd i9 + 1) SK SV ++ wO q z (oS (cdD (xs (7 * t + 1))) (kd (ix (xs (7 * t + 1)))).toInt64 o)) H := hP
  have hD : va_D A (wX a k n K V kd SK SV ++ wM bb g (cdD (xs (7 * t + 1))) n K V (fun i9 => kd i9 + 1) SK SV ++ wO q z (oS (cdD (xs (7 * t + 1))) (kd (ix (xs (7 * t + 1)))).toInt64 o)) := hD
  have hp0 := hp
  generalize r9 = v9 at hp0 ⊢
  refine lv_istore (lv' := [(6, .int v9), (5, .int (cdD (xs (7 * t + 1)))), (4, .int (nI (7 * t))), (0, .ref b), (1, .ref (a 0)), (2, .ref (bb 0)), (3, .ref q)]) hx hb dL_law_480 hl (by decide) rfl (fun ls hl => ?_)
  refine lv_aload_n hx hb dL_law_482 rfl (lv_at hl 5 rfl) ?_
  refine kn_i (wc := (wM bb g (cdD (xs (7 * t + 1))) n K V (fun i9 => kd i9 + 1) SK SV)) (wr := (wX a k n K V kd SK SV ++ wO q z (oS (cdD (xs (7 * t + 1))) (kd (ix (xs (7 * t + 1)))).toInt64 o))) (w1 := (wM bb g (cdD (xs (7 * t + 1))) n K V (fun i9 => kd i9 + 1) SK SV)) (va_runV (As := []) (rest := []) ⟨hx, hb, hml, hown, hts⟩ (m_thrown l hl9 D bb g (cdD (xs (7 * t + 1))) n K V kd SK SV H.size) (cwV 0 hts (gd_V mb_121 mb_122 mb_123 mb_50 mb_124) rfl rfl rfl (by decide +kernel) ⟨by decide, by decide⟩) ⟨cP_blind, va_recv (q0 := 6) (ci := 1) (q := (RX1, TX1, 7)) hK hP rfl rfl, cPre hP hD hK hS hA hZ [6, 7, 8, 9, 10, 11] rfl (by decide) [5, 6, 7, 8, 9] rfl⟩ rfl rfl hl.1 rfl (lv_room (Nat.le_of_ble_eq_true rfl)) dL_law_483 ⟨by rw [rm_c]; omega, by rw [rm_s]; omega⟩) hP hD hS hA [6, 7, 8, 9, 10, 11] [0, 1, 2, 3, 4, 5, 12] rfl rfl (by decide) (by decide) (fun r9 H locs hp hP hD hS => ?_)
  have hP := hP.sub (ws' := wX a k n K V kd SK SV ++ wM bb g (cdD (xs (7 * t + 1))) n K V (fun i9 => kd i9 + 1) SK SV ++ wO q z (oS (cdD (xs (7 * t + 1))) (kd (ix (xs (7 * t + 1)))).toInt64 o)) [0, 1, 2, 3, 4, 5, 7, 8, 9, 10, 11, 12, 6] rfl
  have hD := hD.sub (ws' := wX a k n K V kd SK SV ++ wM bb g (cdD (xs (7 * t + 1))) n K V (fun i9 => kd i9 + 1) SK SV ++ wO q z (oS (cdD (xs (7 * t + 1))) (kd (ix (xs (7 * t + 1)))).toInt64 o)) [0, 1, 2, 3, 4, 5, 7, 8, 9, 10, 11, 12, 6] (by decide) rfl
  have hP : va_P D vwCl (wX a k n K V kd SK SV ++ wM bb g (cdD (xs (7 * t + 1))) n K V (fun i9 => kd i9 + 1) SK SV ++ wO q z (oS (cdD (xs (7 * t + 1))) (kd (ix (xs (7 * t + 1)))).toInt64 o)) H := hP
  have hD : va_D A (wX a k n K V kd SK SV ++ wM bb g (cdD (xs (7 * t + 1))) n K V (fun i9 => kd i9 + 1) SK SV ++ wO q z (oS (cdD (xs (7 * t + 1))) (kd (ix (xs (7 * t + 1)))).toInt64 o)) := hD
  have hp : r9 = cdD (xs (7 * t + 1)) := hp
  subst hp
  refine lv_iload hx hb dL_law_486 (lv_at hl 1 rfl) ?_
  refine lv_icmp_eq (tgt := 493) hx hb dL_law_488 (by decide) (fun h1 => ?_) (fun h1 => ?_)
  · skip
    refine lv_iload hx hb dL_law_493 (lv_at hl 1 rfl) ?_
    refine lv_if_ne (tgt := 510) hx hb dL_law_495 (by decide) (fun h2 => ?_) (fun h2 => ?_)
    · skip
      refine lv_goto (tgt := 839) hx hb dL_law_510 (by decide) ?_
      refine W.widen (k := 13 + 1 * (t + 1)) (n := 462 + 6 * (t + 1)) (by omega) (by omega) ?_
      exact nx n K V kd SK SV (cdD (xs (7 * t + 1))) (oS (cdD (xs (7 * t + 1))) (kd (ix (xs (7 * t + 1)))).toInt64 o) H locs ls hI hP hD hS (lv_sub hl [2, 3, 4, 5, 6] rfl)
    · skip
      have hs : okS (xs (7 * t + 1)) := cdD_0 h2
      have h3 := hp0 hs
      subst h3
      refine lv_aload_n hx hb dL_law_498 rfl (lv_at hl 6 rfl) ?_
      refine lv_iconst (v := 0) hx hb dL_law_499 (by decide) ?_
      refine xi (y := nI 0) rfl ?_
      refine x_lald (j := 0) hx hb hK hP 12 10 rfl rfl (by decide) (by decide) dL_law_500 ?_
      refine xl (y := (kd (ix (xs (7 * t + 1)))).toInt64) (oS_at h2) ?_
      refine lv_iload hx hb dL_law_501 (lv_at hl 0 rfl) ?_
      refine lv_i2l (v := (kd (ix (xs (7 * t + 1)))).toInt64) hx hb dL_law_503 rfl ?_
      refine W.lcmp hx hb dL_law_504 ?_
      refine lv_if_eq (tgt := 510) hx hb dL_law_505 (by decide) (fun h4 => ?_) (fun h4 => ?_)
      · skip
        refine lv_goto (tgt := 839) hx hb dL_law_510 (by decide) ?_
        refine W.widen (k := 13 + 1 * (t + 1)) (n := 462 + 6 * (t + 1)) (by omega) (by omega) ?_
        exact nx n K V kd SK SV (cdD (xs (7 * t + 1))) (oS (cdD (xs (7 * t + 1))) (kd (ix (xs (7 * t + 1)))).toInt64 o) H locs ls hI hP hD hS (lv_sub hl [2, 3, 4, 5, 6] rfl)
      · skip
        exact absurd ((lg_cmp_eq _ _).mpr rfl) h4
  · skip
    exact absurd rfl h1
set_option maxHeartbeats 1000000 in
set_option maxRecDepth 100000 in
theorem law_7 {p : Program} {e : Env} {s : State} {m : MethodId} {below : List Frame} {meth : Method} {c : Code} {l : Launch} {b L : Nat} {xs : Nat → Int32} {D : va_G} {A : Nat → Prop} {a : Nat → Nat} {k : Nat → ClassId} {bb : Nat → Nat} {g : Nat → ClassId} {q : Nat} {z : ClassId} (hl9 : l.stackTraces = false) (hx : p.tables.exec = Jvm.exec) (hb : c.code = cL_law) (hr : meth.sig.returnType = some .boolean) (hml : c.maxLocals = 8) (hlocks : meth.locks = false) (hown : s.vm.findClass RL = some m.cls) (hts : ∀ w ∈ ALL, w.before #[Value.ref b] s = true) (hX : va_X b L xs s s.heap) (hbl : b < s.heap.size) (hbA : ¬ A b) (hK : va_K D vwCl (tX k ++ tM g ++ tO z) s) (hZ : zx A s s.heap) (hA : ∀ q : Nat, s.heap.size ≤ q → A q) (hL : L ≤ 3584) (t : Nat) (ht : 7 * t + 7 ≤ L) (n : Nat) (K V : Nat → Int64) (kd : Nat → Int32) (SK SV : Nat → Int64) (cd : Int32) (o : Nat → Int64) (H : Heap) (locs : List Loc) (ls : Array Slot) (hI : inv n K kd) (hP : va_P D vwCl (wX a k n K V kd SK SV ++ wM bb g cd n K V (fun i9 => kd i9 + 1) SK SV ++ wO q z o) H) (hD : va_D A (wX a k n K V kd SK SV ++ wM bb g cd n K V (fun i9 => kd i9 + 1) SK SV ++ wO q z o)) (hS : va_S A s.heap H locs) (hl : lv_has ls 8 [(4, .int (nI (7 * t))), (0, .ref b), (1, .ref (a 0)), (2, .ref (bb 0)), (3, .ref q)])
    (nx : ∀ (n : Nat) (K V : Nat → Int64) (kd : Nat → Int32) (SK SV : Nat → Int64) (cd : Int32) (o : Nat → Int64) (H : Heap) (locs : List Loc) (ls : Array Slot), inv n K kd → va_P D vwCl (wX a k n K V kd SK SV ++ wM bb g cd n K V (fun i9 => kd i9 + 1) SK SV ++ wO q z o) H → va_D A (wX a k n K V kd SK SV ++ wM bb g cd n K V (fun i9 => kd i9 + 1) SK SV ++ wO q z o) → va_S A s.heap H locs → lv_has ls 8 [(4, .int (nI (7 * t))), (0, .ref b), (1, .ref (a 0)), (2, .ref (bb 0)), (3, .ref q)] → W p l e room_1 s m #[Value.ref b] below meth c H locs (13 + 1 * (t + 1)) (462 + 6 * (t + 1)) (lw_Z below #[Value.ref b] s) (F0 m 839 ls [])) :
    W p l e room_1 s m #[Value.ref b] below meth c H locs (13 + 1 * t) (462 + 6 * t) (lw_Z below #[Value.ref b] s) (F0 m 513 ls []) := by
  have hn := hI.1
  have hk := hI.2.2
  refine lv_aload_n hx hb dL_law_513 rfl (lv_at hl 2 rfl) ?_
  refine kn_i (wc := (wX a k n K V kd SK SV)) (wr := (wM bb g cd n K V (fun i9 => kd i9 + 1) SK SV ++ wO q z o)) (w1 := (wX a k n K V kd SK SV)) (va_runV (As := []) (rest := []) ⟨hx, hb, hml, hown, hts⟩ (c_size l hl9 D a k n K V kd SK SV H.size) (cwV 0 hts (gd_V mb_168 mb_169 mb_170 mb_12 mb_171) rfl rfl rfl (by decide +kernel) ⟨by decide, by decide⟩) ⟨cP_blind, va_recv (q0 := 0) (ci := 0) (q := (RX0, TX0, 6)) hK hP rfl rfl, cPre hP hD hK hS hA hZ [0, 1, 2, 3, 4, 5] rfl (by decide) [0, 1, 2, 3, 4] rfl⟩ rfl rfl hl.1 rfl (lv_room (Nat.le_of_ble_eq_true rfl)) dL_law_514 ⟨by rw [rm_c]; omega, by rw [rm_s]; omega⟩) hP hD hS hA [0, 1, 2, 3, 4, 5] [6, 7, 8, 9, 10, 11, 12] rfl rfl (by decide) (by decide) (fun r9 H locs hp hP hD hS => ?_)
  have hP := hP.sub (ws' := wX a k n K V kd SK SV ++ wM bb g cd n K V (fun i9 => kd i9 + 1) SK SV ++ wO q z o) [7, 8, 9, 10, 11, 12, 0, 1, 2, 3, 4, 5, 6] rfl
  have hD := hD.sub (ws' := wX a k n K V kd SK SV ++ wM bb g cd n K V (fun i9 => kd i9 + 1) SK SV ++ wO q z o) [7, 8, 9, 10, 11, 12, 0, 1, 2, 3, 4, 5, 6] (by decide) rfl
  have hP : va_P D vwCl (wX a k n K V kd SK SV ++ wM bb g cd n K V (fun i9 => kd i9 + 1) SK SV ++ wO q z o) H := hP
  have hD : va_D A (wX a k n K V kd SK SV ++ wM bb g cd n K V (fun i9 => kd i9 + 1) SK SV ++ wO q z o) := hD
  have hp : r9 = nI n := hp
  subst hp
  refine lv_aload_n hx hb dL_law_517 rfl (lv_at hl 3 rfl) ?_
  refine kn_i (wc := (wM bb g cd n K V (fun i9 => kd i9 + 1) SK SV)) (wr := (wX a k n K V kd SK SV ++ wO q z o)) (w1 := (wM bb g 0 n K V (fun i9 => kd i9 + 1) SK SV)) (va_runV (As := []) (rest := [.int (nI n)]) ⟨hx, hb, hml, hown, hts⟩ (m_size l hl9 D bb g cd n K V kd SK SV H.size) (cwV 0 hts (gd_V mb_172 mb_173 mb_174 mb_50 mb_175) rfl rfl rfl (by decide +kernel) ⟨by decide, by decide⟩) ⟨cP_blind, va_recv (q0 := 6) (ci := 1) (q := (RX1, TX1, 7)) hK hP rfl rfl, cPre hP hD hK hS hA hZ [6, 7, 8, 9, 10, 11] rfl (by decide) [5, 6, 7, 8, 9] rfl⟩ rfl rfl hl.1 rfl (lv_room (Nat.le_of_ble_eq_true rfl)) dL_law_518 ⟨by rw [rm_c]; omega, by rw [rm_s]; omega⟩) hP hD hS hA [6, 7, 8, 9, 10, 11] [0, 1, 2, 3, 4, 5, 12] rfl rfl (by decide) (by decide) (fun r9 H locs hp hP hD hS => ?_)
  have hP := hP.sub (ws' := wX a k n K V kd SK SV ++ wM bb g 0 n K V (fun i9 => kd i9 + 1) SK SV ++ wO q z o) [0, 1, 2, 3, 4, 5, 7, 8, 9, 10, 11, 12, 6] rfl
  have hD := hD.sub (ws' := wX a k n K V kd SK SV ++ wM bb g 0 n K V (fun i9 => kd i9 + 1) SK SV ++ wO q z o) [0, 1, 2, 3, 4, 5, 7, 8, 9, 10, 11, 12, 6] (by decide) rfl
  have hP : va_P D vwCl (wX a k n K V kd SK SV ++ wM bb g 0 n K V (fun i9 => kd i9 + 1) SK SV ++ wO q z o) H := hP
  have hD : va_D A (wX a k n K V kd SK SV ++ wM bb g 0 n K V (fun i9 => kd i9 + 1) SK SV ++ wO q z o) := hD
  have hp : r9 = nI n := hp
  subst hp
  refine lv_icmp_eq (tgt := 839) hx hb dL_law_521 (by decide) (fun h1 => ?_) (fun h1 => ?_)
  · skip
    refine W.widen (k := 13 + 1 * (t + 1)) (n := 462 + 6 * (t + 1)) (by omega) (by omega) ?_
    exact nx n K V kd SK SV 0 o H locs ls hI hP hD hS (lv_sub hl [0, 1, 2, 3, 4] rfl)
  · skip
    exact absurd rfl h1
set_option maxHeartbeats 1000000 in
set_option maxRecDepth 100000 in
theorem law_8 {p : Program} {e : Env} {s : State} {m : MethodId} {below : List Frame} {meth : Method} {c : Code} {l : Launch} {b L : Nat} {xs : Nat → Int32} {D : va_G} {A : Nat → Prop} {a : Nat → Nat} {k : Nat → ClassId} {bb : Nat → Nat} {g : Nat → ClassId} {q : Nat} {z : ClassId} (hl9 : l.stackTraces = false) (hx : p.tables.exec = Jvm.exec) (hb : c.code = cL_law) (hr : meth.sig.returnType = some .boolean) (hml : c.maxLocals = 8) (hlocks : meth.locks = false) (hown : s.vm.findClass RL = some m.cls) (hts : ∀ w ∈ ALL, w.before #[Value.ref b] s = true) (hX : va_X b L xs s s.heap) (hbl : b < s.heap.size) (hbA : ¬ A b) (hK : va_K D vwCl (tX k ++ tM g ++ tO z) s) (hZ : zx A s s.heap) (hA : ∀ q : Nat, s.heap.size ≤ q → A q) (hL : L ≤ 3584) (t : Nat) (ht : 7 * t + 7 ≤ L) (n : Nat) (K V : Nat → Int64) (kd : Nat → Int32) (SK SV : Nat → Int64) (cd : Int32) (o : Nat → Int64) (H : Heap) (locs : List Loc) (ls : Array Slot) (hI : inv n K kd) (hP : va_P D vwCl (wX a k n K V kd SK SV ++ wM bb g cd n K V (fun i9 => kd i9 + 1) SK SV ++ wO q z o) H) (hD : va_D A (wX a k n K V kd SK SV ++ wM bb g cd n K V (fun i9 => kd i9 + 1) SK SV ++ wO q z o)) (hS : va_S A s.heap H locs) (hl : lv_has ls 8 [(4, .int (nI (7 * t))), (0, .ref b), (1, .ref (a 0)), (2, .ref (bb 0)), (3, .ref q)])
    (nx : ∀ (n : Nat) (K V : Nat → Int64) (kd : Nat → Int32) (SK SV : Nat → Int64) (cd : Int32) (o : Nat → Int64) (H : Heap) (locs : List Loc) (ls : Array Slot), inv n K kd → va_P D vwCl (wX a k n K V kd SK SV ++ wM bb g cd n K V (fun i9 => kd i9 + 1) SK SV ++ wO q z o) H → va_D A (wX a k n K V kd SK SV ++ wM bb g cd n K V (fun i9 => kd i9 + 1) SK SV ++ wO q z o) → va_S A s.heap H locs → lv_has ls 8 [(4, .int (nI (7 * t))), (0, .ref b), (1, .ref (a 0)), (2, .ref (bb 0)), (3, .ref q)] → W p l e room_1 s m #[Value.ref b] below meth c H locs (13 + 1 * (t + 1)) (462 + 6 * (t + 1)) (lw_Z below #[Value.ref b] s) (F0 m 839 ls [])) :
    W p l e room_1 s m #[Value.ref b] below meth c H locs (13 + 1 * t) (462 + 6 * t) (lw_Z below #[Value.ref b] s) (F0 m 526 ls []) := by
  have hn := hI.1
  have hk := hI.2.2
  refine lv_aload_n hx hb dL_law_526 rfl (lv_at hl 2 rfl) ?_
  refine lv_aload_n hx hb dL_law_527 rfl (lv_at hl 1 rfl) ?_
  refine lv_iload hx hb dL_law_528 (lv_at hl 0 rfl) ?_
  refine lv_iconst (v := 1) hx hb dL_law_530 (by decide) ?_
  refine lv_iadd hx hb dL_law_531 ?_
  refine xi (y := nI (7 * t + 1)) (nI_add (7 * t) 1) ?_
  refine x_sld (j := (7 * t + 1)) hx hb hX hbl hbA hS (by omega) (by omega) dL_law_532 ?_
  refine lv_aload_n hx hb dL_law_533 rfl (lv_at hl 4 rfl) ?_
  refine kn_i (wc := (wX a k n K V kd SK SV ++ wO q z o)) (wr := (wM bb g cd n K V (fun i9 => kd i9 + 1) SK SV)) (w1 := (wX a k n K V kd SK SV ++ wO q z (oS (cdP (xs (7 * t + 1)) n) (K (ix (xs (7 * t + 1)))) o))) (vx_runSW (As := [.ref (a 0), .int (xs (7 * t + 1)), .ref q]) (rest := []) ⟨hx, hb, hml, hown, hts⟩ (h_key l hl9 D a k n K V kd SK SV (xs (7 * t + 1)) q z o H.size hn) (vx_cwSW (hh := [(0, 8, 11, 42)]) 3 hts (gd_S mb_192 mb_193 mb_115 mb_194) rfl rfl rfl (by decide +kernel) ⟨by decide, by decide⟩) ⟨cP_blind, cPre hP hD hK hS hA hZ [0, 1, 2, 3, 4, 5, 12] rfl (by decide) [0, 1, 2, 3, 4, 10] rfl⟩ rfl rfl hl.1 rfl (lv_room (Nat.le_of_ble_eq_true rfl)) dL_law_534 ⟨by rw [rm_c]; omega, by rw [rm_s]; omega⟩) hP hD hS hA [0, 1, 2, 3, 4, 5, 12] [6, 7, 8, 9, 10, 11] rfl rfl (by decide) (by decide) (fun r9 H locs hp hP hD hS => ?_)
  have hP := hP.sub (ws' := wX a k n K V kd SK SV ++ wM bb g cd n K V (fun i9 => kd i9 + 1) SK SV ++ wO q z (oS (cdP (xs (7 * t + 1)) n) (K (ix (xs (7 * t + 1)))) o)) [6, 7, 8, 9, 10, 11, 0, 1, 2, 3, 4, 5, 12] rfl
  have hD := hD.sub (ws' := wX a k n K V kd SK SV ++ wM bb g cd n K V (fun i9 => kd i9 + 1) SK SV ++ wO q z (oS (cdP (xs (7 * t + 1)) n) (K (ix (xs (7 * t + 1)))) o)) [6, 7, 8, 9, 10, 11, 0, 1, 2, 3, 4, 5, 12] (by decide) rfl
  have hP : va_P D vwCl (wX a k n K V kd SK SV ++ wM bb g cd n K V (fun i9 => kd i9 + 1) SK SV ++ wO q z (oS (cdP (xs (7 * t + 1)) n) (K (ix (xs (7 * t + 1)))) o)) H := hP
  have hD : va_D A (wX a k n K V kd SK SV ++ wM bb g cd n K V (fun i9 => kd i9 + 1) SK SV ++ wO q z (oS (cdP (xs (7 * t + 1)) n) (K (ix (xs (7 * t + 1)))) o)) := hD
  have hp : r9 = cdP (xs (7 * t + 1)) n := hp
  subst hp
  refine lv_istore (lv' := [(5, .int (cdP (xs (7 * t + 1)) n)), (4, .int (nI (7 * t))), (0, .ref b), (1, .ref (a 0)), (2, .ref (bb 0)), (3, .ref q)]) hx hb dL_law_537 hl (by decide) rfl (fun ls hl => ?_)
  refine lv_aload_n hx hb dL_law_539 rfl (lv_at hl 4 rfl) ?_
  refine lv_aload_n hx hb dL_law_540 rfl (lv_at hl 2 rfl) ?_
  refine lv_iload hx hb dL_law_541 (lv_at hl 1 rfl) ?_
  refine lv_iconst (v := 1) hx hb dL_law_543 (by decide) ?_
  refine lv_iadd hx hb dL_law_544 ?_
  refine xi (y := nI (7 * t + 1)) (nI_add (7 * t) 1) ?_
  refine x_sld (j := (7 * t + 1)) hx hb hX hbl hbA hS (by omega) (by omega) dL_law_545 ?_
  refine kn_l (wc := (wM bb g cd n K V (fun i9 => kd i9 + 1) SK SV)) (wr := (wX a k n K V kd SK SV ++ wO q z (oS (cdP (xs (7 * t + 1)) n) (K (ix (xs (7 * t + 1)))) o))) (w1 := (wM bb g (cdP (xs (7 * t + 1)) n) n K V (fun i9 => kd i9 + 1) SK SV)) (va_runV (As := [.int (xs (7 * t + 1))]) (rest := []) ⟨hx, hb, hml, hown, hts⟩ (m_key l hl9 D bb g cd n K V kd SK SV (xs (7 * t + 1)) H.size hn) (cwV 1 hts (gd_V mb_195 mb_196 mb_197 mb_50 mb_198) rfl rfl rfl (by decide +kernel) ⟨by decide, by decide⟩) ⟨cP_blind, va_recv (q0 := 6) (ci := 1) (q := (RX1, TX1, 7)) hK hP rfl rfl, cPre hP hD hK hS hA hZ [6, 7, 8, 9, 10, 11] rfl (by decide) [5, 6, 7, 8, 9] rfl⟩ rfl rfl hl.1 rfl (lv_room (Nat.le_of_ble_eq_true rfl)) dL_law_546 ⟨by rw [rm_c]; omega, by rw [rm_s]; omega⟩) hP hD hS hA [6, 7, 8, 9, 10, 11] [0, 1, 2, 3, 4, 5, 12] rfl rfl (by decide) (by decide) (fun r9 H locs hp hP hD hS => ?_)
  have hP := hP.sub (ws' := wX a k n K V kd SK SV ++ wM bb g (cdP (xs (7 * t + 1)) n) n K V (fun i9 => kd i9 + 1) SK SV ++ wO q z (oS (cdP (xs (7 * t + 1)) n) (K (ix (xs (7 * t + 1)))) o)) [0, 1, 2, 3, 4, 5, 7, 8, 9, 10, 11, 12, 6] rfl
  have hD := hD.sub (ws' := wX a k n K V kd SK SV ++ wM bb g (cdP (xs (7 * t + 1)) n) n K V (fun i9 => kd i9 + 1) SK SV ++ wO q z (oS (cdP (xs (7 * t + 1)) n) (K (ix (xs (7 * t + 1)))) o)) [0, 1, 2, 3, 4, 5, 7, 8, 9, 10, 11, 12, 6] (by decide) rfl
  have hP : va_P D vwCl (wX a k n K V kd SK SV ++ wM bb g (cdP (xs (7 * t + 1)) n) n K V (fun i9 => kd i9 + 1) SK SV ++ wO q z (oS (cdP (xs (7 * t + 1)) n) (K (ix (xs (7 * t + 1)))) o)) H := hP
  have hD : va_D A (wX a k n K V kd SK SV ++ wM bb g (cdP (xs (7 * t + 1)) n) n K V (fun i9 => kd i9 + 1) SK SV ++ wO q z (oS (cdP (xs (7 * t + 1)) n) (K (ix (xs (7 * t + 1)))) o)) := hD
  have hp0 := hp
  generalize r9 = v9 at hp0 ⊢
  refine lv_lstore (lv' := [(6, .long v9), (5, .int (cdP (xs (7 * t + 1)) n)), (4, .int (nI (7 * t))), (0, .ref b), (1, .ref (a 0)), (2, .ref (bb 0)), (3, .ref q)]) hx hb dL_law_549 hl (by decide) rfl (fun ls hl => ?_)
  refine lv_aload_n hx hb dL_law_551 rfl (lv_at hl 5 rfl) ?_
  refine kn_i (wc := (wM bb g (cdP (xs (7 * t + 1)) n) n K V (fun i9 => kd i9 + 1) SK SV)) (wr := (wX a k n K V kd SK SV ++ wO q z (oS (cdP (xs (7 * t + 1)) n) (K (ix (xs (7 * t + 1)))) o))) (w1 := (wM bb g (cdP (xs (7 * t + 1)) n) n K V (fun i9 => kd i9 + 1) SK SV)) (va_runV (As := []) (rest := []) ⟨hx, hb, hml, hown, hts⟩ (m_thrown l hl9 D bb g (cdP (xs (7 * t + 1)) n) n K V kd SK SV H.size) (cwV 0 hts (gd_V mb_121 mb_122 mb_123 mb_50 mb_124) rfl rfl rfl (by decide +kernel) ⟨by decide, by decide⟩) ⟨cP_blind, va_recv (q0 := 6) (ci := 1) (q := (RX1, TX1, 7)) hK hP rfl rfl, cPre hP hD hK hS hA hZ [6, 7, 8, 9, 10, 11] rfl (by decide) [5, 6, 7, 8, 9] rfl⟩ rfl rfl hl.1 rfl (lv_room (Nat.le_of_ble_eq_true rfl)) dL_law_552 ⟨by rw [rm_c]; omega, by rw [rm_s]; omega⟩) hP hD hS hA [6, 7, 8, 9, 10, 11] [0, 1, 2, 3, 4, 5, 12] rfl rfl (by decide) (by decide) (fun r9 H locs hp hP hD hS => ?_)
  have hP := hP.sub (ws' := wX a k n K V kd SK SV ++ wM bb g (cdP (xs (7 * t + 1)) n) n K V (fun i9 => kd i9 + 1) SK SV ++ wO q z (oS (cdP (xs (7 * t + 1)) n) (K (ix (xs (7 * t + 1)))) o)) [0, 1, 2, 3, 4, 5, 7, 8, 9, 10, 11, 12, 6] rfl
  have hD := hD.sub (ws' := wX a k n K V kd SK SV ++ wM bb g (cdP (xs (7 * t + 1)) n) n K V (fun i9 => kd i9 + 1) SK SV ++ wO q z (oS (cdP (xs (7 * t + 1)) n) (K (ix (xs (7 * t + 1)))) o)) [0, 1, 2, 3, 4, 5, 7, 8, 9, 10, 11, 12, 6] (by decide) rfl
  have hP : va_P D vwCl (wX a k n K V kd SK SV ++ wM bb g (cdP (xs (7 * t + 1)) n) n K V (fun i9 => kd i9 + 1) SK SV ++ wO q z (oS (cdP (xs (7 * t + 1)) n) (K (ix (xs (7 * t + 1)))) o)) H := hP
  have hD : va_D A (wX a k n K V kd SK SV ++ wM bb g (cdP (xs (7 * t + 1)) n) n K V (fun i9 => kd i9 + 1) SK SV ++ wO q z (oS (cdP (xs (7 * t + 1)) n) (K (ix (xs (7 * t + 1)))) o)) := hD
  have hp : r9 = cdP (xs (7 * t + 1)) n := hp
  subst hp
  refine lv_iload hx hb dL_law_555 (lv_at hl 1 rfl) ?_
  refine lv_icmp_eq (tgt := 562) hx hb dL_law_557 (by decide) (fun h1 => ?_) (fun h1 => ?_)
  · skip
    refine lv_iload hx hb dL_law_562 (lv_at hl 1 rfl) ?_
    refine lv_if_ne (tgt := 578) hx hb dL_law_564 (by decide) (fun h2 => ?_) (fun h2 => ?_)
    · skip
      refine lv_goto (tgt := 839) hx hb dL_law_578 (by decide) ?_
      refine W.widen (k := 13 + 1 * (t + 1)) (n := 462 + 6 * (t + 1)) (by omega) (by omega) ?_
      exact nx n K V kd SK SV (cdP (xs (7 * t + 1)) n) (oS (cdP (xs (7 * t + 1)) n) (K (ix (xs (7 * t + 1)))) o) H locs ls hI hP hD hS (lv_sub hl [2, 3, 4, 5, 6] rfl)
    · skip
      have h3 := hp0 (cdP_0 h2)
      subst h3
      refine lv_aload_n hx hb dL_law_567 rfl (lv_at hl 6 rfl) ?_
      refine lv_iconst (v := 0) hx hb dL_law_568 (by decide) ?_
      refine xi (y := nI 0) rfl ?_
      refine x_lald (j := 0) hx hb hK hP 12 10 rfl rfl (by decide) (by decide) dL_law_569 ?_
      refine xl (y := K (ix (xs (7 * t + 1)))) (oS_at h2) ?_
      refine lv_lload hx hb dL_law_570 (lv_at hl 0 rfl) ?_
      refine W.lcmp hx hb dL_law_572 ?_
      refine lv_if_eq (tgt := 578) hx hb dL_law_573 (by decide) (fun h4 => ?_) (fun h4 => ?_)
      · skip
        refine lv_goto (tgt := 839) hx hb dL_law_578 (by decide) ?_
        refine W.widen (k := 13 + 1 * (t + 1)) (n := 462 + 6 * (t + 1)) (by omega) (by omega) ?_
        exact nx n K V kd SK SV (cdP (xs (7 * t + 1)) n) (oS (cdP (xs (7 * t + 1)) n) (K (ix (xs (7 * t + 1)))) o) H locs ls hI hP hD hS (lv_sub hl [2, 3, 4, 5, 6] rfl)
      · skip
        exact absurd ((lg_cmp_eq _ _).mpr rfl) h4
  · skip
    exact absurd rfl h1
set_option maxHeartbeats 1000000 in
set_option maxRecDepth 100000 in
theorem law_9 {p : Program} {e : Env} {s : State} {m : MethodId} {below : List Frame} {meth : Method} {c : Code} {l : Launch} {b L : Nat} {xs : Nat → Int32} {D : va_G} {A : Nat → Prop} {a : Nat → Nat} {k : Nat → ClassId} {bb : Nat → Nat} {g : Nat → ClassId} {q : Nat} {z : ClassId} (hl9 : l.stackTraces = false) (hx : p.tables.exec = Jvm.exec) (hb : c.code = cL_law) (hr : meth.sig.returnType = some .boolean) (hml : c.maxLocals = 8) (hlocks : meth.locks = false) (hown : s.vm.findClass RL = some m.cls) (hts : ∀ w ∈ ALL, w.before #[Value.ref b] s = true) (hX : va_X b L xs s s.heap) (hbl : b < s.heap.size) (hbA : ¬ A b) (hK : va_K D vwCl (tX k ++ tM g ++ tO z) s) (hZ : zx A s s.heap) (hA : ∀ q : Nat, s.heap.size ≤ q → A q) (hL : L ≤ 3584) (t : Nat) (ht : 7 * t + 7 ≤ L) (n : Nat) (K V : Nat → Int64) (kd : Nat → Int32) (SK SV : Nat → Int64) (cd : Int32) (o : Nat → Int64) (H : Heap) (locs : List Loc) (ls : Array Slot) (hI : inv n K kd) (hP : va_P D vwCl (wX a k n K V kd SK SV ++ wM bb g cd n K V (fun i9 => kd i9 + 1) SK SV ++ wO q z o) H) (hD : va_D A (wX a k n K V kd SK SV ++ wM bb g cd n K V (fun i9 => kd i9 + 1) SK SV ++ wO q z o)) (hS : va_S A s.heap H locs) (hl : lv_has ls 8 [(4, .int (nI (7 * t))), (0, .ref b), (1, .ref (a 0)), (2, .ref (bb 0)), (3, .ref q)])
    (nx : ∀ (n : Nat) (K V : Nat → Int64) (kd : Nat → Int32) (SK SV : Nat → Int64) (cd : Int32) (o : Nat → Int64) (H : Heap) (locs : List Loc) (ls : Array Slot), inv n K kd → va_P D vwCl (wX a k n K V kd SK SV ++ wM bb g cd n K V (fun i9 => kd i9 + 1) SK SV ++ wO q z o) H → va_D A (wX a k n K V kd SK SV ++ wM bb g cd n K V (fun i9 => kd i9 + 1) SK SV ++ wO q z o) → va_S A s.heap H locs → lv_has ls 8 [(4, .int (nI (7 * t))), (0, .ref b), (1, .ref (a 0)), (2, .ref (bb 0)), (3, .ref q)] → W p l e room_1 s m #[Value.ref b] below meth c H locs (13 + 1 * (t + 1)) (462 + 6 * (t + 1)) (lw_Z below #[Value.ref b] s) (F0 m 839 ls [])) :
    W p l e room_1 s m #[Value.ref b] below meth c H locs (13 + 1 * t) (462 + 6 * t) (lw_Z below #[Value.ref b] s) (F0 m 581 ls []) := by
  have hn := hI.1
  have hk := hI.2.2
  refine lv_aload_n hx hb dL_law_581 rfl (lv_at hl 2 rfl) ?_
  refine lv_aload_n hx hb dL_law_582 rfl (lv_at hl 1 rfl) ?_
  refine lv_iload hx hb dL_law_583 (lv_at hl 0 rfl) ?_
  refine lv_iconst (v := 1) hx hb dL_law_585 (by decide) ?_
  refine lv_iadd hx hb dL_law_586 ?_
  refine xi (y := nI (7 * t + 1)) (nI_add (7 * t) 1) ?_
  refine x_sld (j := (7 * t + 1)) hx hb hX hbl hbA hS (by omega) (by omega) dL_law_587 ?_
  refine lv_aload_n hx hb dL_law_588 rfl (lv_at hl 4 rfl) ?_
  refine kn_i (wc := (wX a k n K V kd SK SV ++ wO q z o)) (wr := (wM bb g cd n K V (fun i9 => kd i9 + 1) SK SV)) (w1 := (wX a k n K V kd SK SV ++ wO q z (oS (cdP (xs (7 * t + 1)) n) (V (ix (xs (7 * t + 1)))) o))) (vx_runSW (As := [.ref (a 0), .int (xs (7 * t + 1)), .ref q]) (rest := []) ⟨hx, hb, hml, hown, hts⟩ (h_value l hl9 D a k n K V kd SK SV (xs (7 * t + 1)) q z o H.size hn) (vx_cwSW (hh := [(0, 8, 11, 42)]) 3 hts (gd_S mb_199 mb_200 mb_115 mb_201) rfl rfl rfl (by decide +kernel) ⟨by decide, by decide⟩) ⟨cP_blind, cPre hP hD hK hS hA hZ [0, 1, 2, 3, 4, 5, 12] rfl (by decide) [0, 1, 2, 3, 4, 10] rfl⟩ rfl rfl hl.1 rfl (lv_room (Nat.le_of_ble_eq_true rfl)) dL_law_589 ⟨by rw [rm_c]; omega, by rw [rm_s]; omega⟩) hP hD hS hA [0, 1, 2, 3, 4, 5, 12] [6, 7, 8, 9, 10, 11] rfl rfl (by decide) (by decide) (fun r9 H locs hp hP hD hS => ?_)
  have hP := hP.sub (ws' := wX a k n K V kd SK SV ++ wM bb g cd n K V (fun i9 => kd i9 + 1) SK SV ++ wO q z (oS (cdP (xs (7 * t + 1)) n) (V (ix (xs (7 * t + 1)))) o)) [6, 7, 8, 9, 10, 11, 0, 1, 2, 3, 4, 5, 12] rfl
  have hD := hD.sub (ws' := wX a k n K V kd SK SV ++ wM bb g cd n K V (fun i9 => kd i9 + 1) SK SV ++ wO q z (oS (cdP (xs (7 * t + 1)) n) (V (ix (xs (7 * t + 1)))) o)) [6, 7, 8, 9, 10, 11, 0, 1, 2, 3, 4, 5, 12] (by decide) rfl
  have hP : va_P D vwCl (wX a k n K V kd SK SV ++ wM bb g cd n K V (fun i9 => kd i9 + 1) SK SV ++ wO q z (oS (cdP (xs (7 * t + 1)) n) (V (ix (xs (7 * t + 1)))) o)) H := hP
  have hD : va_D A (wX a k n K V kd SK SV ++ wM bb g cd n K V (fun i9 => kd i9 + 1) SK SV ++ wO q z (oS (cdP (xs (7 * t + 1)) n) (V (ix (xs (7 * t + 1)))) o)) := hD
  have hp : r9 = cdP (xs (7 * t + 1)) n := hp
  subst hp
  refine lv_istore (lv' := [(5, .int (cdP (xs (7 * t + 1)) n)), (4, .int (nI (7 * t))), (0, .ref b), (1, .ref (a 0)), (2, .ref (bb 0)), (3, .ref q)]) hx hb dL_law_592 hl (by decide) rfl (fun ls hl => ?_)
  refine lv_aload_n hx hb dL_law_594 rfl (lv_at hl 4 rfl) ?_
  refine lv_aload_n hx hb dL_law_595 rfl (lv_at hl 2 rfl) ?_
  refine lv_iload hx hb dL_law_596 (lv_at hl 1 rfl) ?_
  refine lv_iconst (v := 1) hx hb dL_law_598 (by decide) ?_
  refine lv_iadd hx hb dL_law_599 ?_
  refine xi (y := nI (7 * t + 1)) (nI_add (7 * t) 1) ?_
  refine x_sld (j := (7 * t + 1)) hx hb hX hbl hbA hS (by omega) (by omega) dL_law_600 ?_
  refine kn_l (wc := (wM bb g cd n K V (fun i9 => kd i9 + 1) SK SV)) (wr := (wX a k n K V kd SK SV ++ wO q z (oS (cdP (xs (7 * t + 1)) n) (V (ix (xs (7 * t + 1)))) o))) (w1 := (wM bb g (cdP (xs (7 * t + 1)) n) n K V (fun i9 => kd i9 + 1) SK SV)) (va_runV (As := [.int (xs (7 * t + 1))]) (rest := []) ⟨hx, hb, hml, hown, hts⟩ (m_value l hl9 D bb g cd n K V kd SK SV (xs (7 * t + 1)) H.size hn) (cwV 1 hts (gd_V mb_202 mb_203 mb_204 mb_50 mb_205) rfl rfl rfl (by decide +kernel) ⟨by decide, by decide⟩) ⟨cP_blind, va_recv (q0 := 6) (ci := 1) (q := (RX1, TX1, 7)) hK hP rfl rfl, cPre hP hD hK hS hA hZ [6, 7, 8, 9, 10, 11] rfl (by decide) [5, 6, 7, 8, 9] rfl⟩ rfl rfl hl.1 rfl (lv_room (Nat.le_of_ble_eq_true rfl)) dL_law_601 ⟨by rw [rm_c]; omega, by rw [rm_s]; omega⟩) hP hD hS hA [6, 7, 8, 9, 10, 11] [0, 1, 2, 3, 4, 5, 12] rfl rfl (by decide) (by decide) (fun r9 H locs hp hP hD hS => ?_)
  have hP := hP.sub (ws' := wX a k n K V kd SK SV ++ wM bb g (cdP (xs (7 * t + 1)) n) n K V (fun i9 => kd i9 + 1) SK SV ++ wO q z (oS (cdP (xs (7 * t + 1)) n) (V (ix (xs (7 * t + 1)))) o)) [0, 1, 2, 3, 4, 5, 7, 8, 9, 10, 11, 12, 6] rfl
  have hD := hD.sub (ws' := wX a k n K V kd SK SV ++ wM bb g (cdP (xs (7 * t + 1)) n) n K V (fun i9 => kd i9 + 1) SK SV ++ wO q z (oS (cdP (xs (7 * t + 1)) n) (V (ix (xs (7 * t + 1)))) o)) [0, 1, 2, 3, 4, 5, 7, 8, 9, 10, 11, 12, 6] (by decide) rfl
  have hP : va_P D vwCl (wX a k n K V kd SK SV ++ wM bb g (cdP (xs (7 * t + 1)) n) n K V (fun i9 => kd i9 + 1) SK SV ++ wO q z (oS (cdP (xs (7 * t + 1)) n) (V (ix (xs (7 * t + 1)))) o)) H := hP
  have hD : va_D A (wX a k n K V kd SK SV ++ wM bb g (cdP (xs (7 * t + 1)) n) n K V (fun i9 => kd i9 + 1) SK SV ++ wO q z (oS (cdP (xs (7 * t + 1)) n) (V (ix (xs (7 * t + 1)))) o)) := hD
  have hp0 := hp
  generalize r9 = v9 at hp0 ⊢
  refine lv_lstore (lv' := [(6, .long v9), (5, .int (cdP (xs (7 * t + 1)) n)), (4, .int (nI (7 * t))), (0, .ref b), (1, .ref (a 0)), (2, .ref (bb 0)), (3, .ref q)]) hx hb dL_law_604 hl (by decide) rfl (fun ls hl => ?_)
  refine lv_aload_n hx hb dL_law_606 rfl (lv_at hl 5 rfl) ?_
  refine kn_i (wc := (wM bb g (cdP (xs (7 * t + 1)) n) n K V (fun i9 => kd i9 + 1) SK SV)) (wr := (wX a k n K V kd SK SV ++ wO q z (oS (cdP (xs (7 * t + 1)) n) (V (ix (xs (7 * t + 1)))) o))) (w1 := (wM bb g (cdP (xs (7 * t + 1)) n) n K V (fun i9 => kd i9 + 1) SK SV)) (va_runV (As := []) (rest := []) ⟨hx, hb, hml, hown, hts⟩ (m_thrown l hl9 D bb g (cdP (xs (7 * t + 1)) n) n K V kd SK SV H.size) (cwV 0 hts (gd_V mb_121 mb_122 mb_123 mb_50 mb_124) rfl rfl rfl (by decide +kernel) ⟨by decide, by decide⟩) ⟨cP_blind, va_recv (q0 := 6) (ci := 1) (q := (RX1, TX1, 7)) hK hP rfl rfl, cPre hP hD hK hS hA hZ [6, 7, 8, 9, 10, 11] rfl (by decide) [5, 6, 7, 8, 9] rfl⟩ rfl rfl hl.1 rfl (lv_room (Nat.le_of_ble_eq_true rfl)) dL_law_607 ⟨by rw [rm_c]; omega, by rw [rm_s]; omega⟩) hP hD hS hA [6, 7, 8, 9, 10, 11] [0, 1, 2, 3, 4, 5, 12] rfl rfl (by decide) (by decide) (fun r9 H locs hp hP hD hS => ?_)
  have hP := hP.sub (ws' := wX a k n K V kd SK SV ++ wM bb g (cdP (xs (7 * t + 1)) n) n K V (fun i9 => kd i9 + 1) SK SV ++ wO q z (oS (cdP (xs (7 * t + 1)) n) (V (ix (xs (7 * t + 1)))) o)) [0, 1, 2, 3, 4, 5, 7, 8, 9, 10, 11, 12, 6] rfl
  have hD := hD.sub (ws' := wX a k n K V kd SK SV ++ wM bb g (cdP (xs (7 * t + 1)) n) n K V (fun i9 => kd i9 + 1) SK SV ++ wO q z (oS (cdP (xs (7 * t + 1)) n) (V (ix (xs (7 * t + 1)))) o)) [0, 1, 2, 3, 4, 5, 7, 8, 9, 10, 11, 12, 6] (by decide) rfl
  have hP : va_P D vwCl (wX a k n K V kd SK SV ++ wM bb g (cdP (xs (7 * t + 1)) n) n K V (fun i9 => kd i9 + 1) SK SV ++ wO q z (oS (cdP (xs (7 * t + 1)) n) (V (ix (xs (7 * t + 1)))) o)) H := hP
  have hD : va_D A (wX a k n K V kd SK SV ++ wM bb g (cdP (xs (7 * t + 1)) n) n K V (fun i9 => kd i9 + 1) SK SV ++ wO q z (oS (cdP (xs (7 * t + 1)) n) (V (ix (xs (7 * t + 1)))) o)) := hD
  have hp : r9 = cdP (xs (7 * t + 1)) n := hp
  subst hp
  refine lv_iload hx hb dL_law_610 (lv_at hl 1 rfl) ?_
  refine lv_icmp_eq (tgt := 617) hx hb dL_law_612 (by decide) (fun h1 => ?_) (fun h1 => ?_)
  · skip
    refine lv_iload hx hb dL_law_617 (lv_at hl 1 rfl) ?_
    refine lv_if_ne (tgt := 633) hx hb dL_law_619 (by decide) (fun h2 => ?_) (fun h2 => ?_)
    · skip
      refine lv_goto (tgt := 839) hx hb dL_law_633 (by decide) ?_
      refine W.widen (k := 13 + 1 * (t + 1)) (n := 462 + 6 * (t + 1)) (by omega) (by omega) ?_
      exact nx n K V kd SK SV (cdP (xs (7 * t + 1)) n) (oS (cdP (xs (7 * t + 1)) n) (V (ix (xs (7 * t + 1)))) o) H locs ls hI hP hD hS (lv_sub hl [2, 3, 4, 5, 6] rfl)
    · skip
      have h3 := hp0 (cdP_0 h2)
      subst h3
      refine lv_aload_n hx hb dL_law_622 rfl (lv_at hl 6 rfl) ?_
      refine lv_iconst (v := 0) hx hb dL_law_623 (by decide) ?_
      refine xi (y := nI 0) rfl ?_
      refine x_lald (j := 0) hx hb hK hP 12 10 rfl rfl (by decide) (by decide) dL_law_624 ?_
      refine xl (y := V (ix (xs (7 * t + 1)))) (oS_at h2) ?_
      refine lv_lload hx hb dL_law_625 (lv_at hl 0 rfl) ?_
      refine W.lcmp hx hb dL_law_627 ?_
      refine lv_if_eq (tgt := 633) hx hb dL_law_628 (by decide) (fun h4 => ?_) (fun h4 => ?_)
      · skip
        refine lv_goto (tgt := 839) hx hb dL_law_633 (by decide) ?_
        refine W.widen (k := 13 + 1 * (t + 1)) (n := 462 + 6 * (t + 1)) (by omega) (by omega) ?_
        exact nx n K V kd SK SV (cdP (xs (7 * t + 1)) n) (oS (cdP (xs (7 * t + 1)) n) (V (ix (xs (7 * t + 1)))) o) H locs ls hI hP hD hS (lv_sub hl [2, 3, 4, 5, 6] rfl)
      · skip
        exact absurd ((lg_cmp_eq _ _).mpr rfl) h4
  · skip
    exact absurd rfl h1
set_option maxHeartbeats 1000000 in
set_option maxRecDepth 100000 in
theorem law_10 {p : Program} {e : Env} {s : State} {m : MethodId} {below : List Frame} {meth : Method} {c : Code} {l : Launch} {b L : Nat} {xs : Nat → Int32} {D : va_G} {A : Nat → Prop} {a : Nat → Nat} {k : Nat → ClassId} {bb : Nat → Nat} {g : Nat → ClassId} {q : Nat} {z : ClassId} (hl9 : l.stackTraces = false) (hx : p.tables.exec = Jvm.exec) (hb : c.code = cL_law) (hr : meth.sig.returnType = some .boolean) (hml : c.maxLocals = 8) (hlocks : meth.locks = false) (hown : s.vm.findClass RL = some m.cls) (hts : ∀ w ∈ ALL, w.before #[Value.ref b] s = true) (hX : va_X b L xs s s.heap) (hbl : b < s.heap.size) (hbA : ¬ A b) (hK : va_K D vwCl (tX k ++ tM g ++ tO z) s) (hZ : zx A s s.heap) (hA : ∀ q : Nat, s.heap.size ≤ q → A q) (hL : L ≤ 3584) (t : Nat) (ht : 7 * t + 7 ≤ L) (n : Nat) (K V : Nat → Int64) (kd : Nat → Int32) (SK SV : Nat → Int64) (cd : Int32) (o : Nat → Int64) (H : Heap) (locs : List Loc) (ls : Array Slot) (hI : inv n K kd) (hP : va_P D vwCl (wX a k n K V kd SK SV ++ wM bb g cd n K V (fun i9 => kd i9 + 1) SK SV ++ wO q z o) H) (hD : va_D A (wX a k n K V kd SK SV ++ wM bb g cd n K V (fun i9 => kd i9 + 1) SK SV ++ wO q z o)) (hS : va_S A s.heap H locs) (hl : lv_has ls 8 [(4, .int (nI (7 * t))), (0, .ref b), (1, .ref (a 0)), (2, .ref (bb 0)), (3, .ref q)])
    (nx : ∀ (n : Nat) (K V : Nat → Int64) (kd : Nat → Int32) (SK SV : Nat → Int64) (cd : Int32) (o : Nat → Int64) (H : Heap) (locs : List Loc) (ls : Array Slot), inv n K kd → va_P D vwCl (wX a k n K V kd SK SV ++ wM bb g cd n K V (fun i9 => kd i9 + 1) SK SV ++ wO q z o) H → va_D A (wX a k n K V kd SK SV ++ wM bb g cd n K V (fun i9 => kd i9 + 1) SK SV ++ wO q z o) → va_S A s.heap H locs → lv_has ls 8 [(4, .int (nI (7 * t))), (0, .ref b), (1, .ref (a 0)), (2, .ref (bb 0)), (3, .ref q)] → W p l e room_1 s m #[Value.ref b] below meth c H locs (13 + 1 * (t + 1)) (462 + 6 * (t + 1)) (lw_Z below #[Value.ref b] s) (F0 m 839 ls [])) :
    W p l e room_1 s m #[Value.ref b] below meth c H locs (13 + 1 * t) (462 + 6 * t) (lw_Z below #[Value.ref b] s) (F0 m 636 ls []) := by
  have hn := hI.1
  have hk := hI.2.2
  refine lv_aload_n hx hb dL_law_636 rfl (lv_at hl 2 rfl) ?_
  refine lv_aload_n hx hb dL_law_637 rfl (lv_at hl 1 rfl) ?_
  refine lv_iload hx hb dL_law_638 (lv_at hl 0 rfl) ?_
  refine lv_iconst (v := 1) hx hb dL_law_640 (by decide) ?_
  refine lv_iadd hx hb dL_law_641 ?_
  refine xi (y := nI (7 * t + 1)) (nI_add (7 * t) 1) ?_
  refine x_sld (j := (7 * t + 1)) hx hb hX hbl hbA hS (by omega) (by omega) dL_law_642 ?_
  refine lv_i2l (v := (xs (7 * t + 1)).toInt64) hx hb dL_law_643 rfl ?_
  refine lv_bipush (v := 32) hx hb dL_law_644 (by decide) ?_
  refine lv_lshl (v := ((xs (7 * t + 1)).toInt64) <<< ((32 : Int32).toInt64 &&& 63)) hx hb dL_law_646 rfl ?_
  refine lv_aload_n hx hb dL_law_647 rfl (lv_at hl 1 rfl) ?_
  refine lv_iload hx hb dL_law_648 (lv_at hl 0 rfl) ?_
  refine lv_iconst (v := 2) hx hb dL_law_650 (by decide) ?_
  refine lv_iadd hx hb dL_law_651 ?_
  refine xi (y := nI (7 * t + 2)) (nI_add (7 * t) 2) ?_
  refine x_sld (j := (7 * t + 2)) hx hb hX hbl hbA hS (by omega) (by omega) dL_law_652 ?_
  refine lv_i2l (v := (xs (7 * t + 2)).toInt64) hx hb dL_law_653 rfl ?_
  refine lv_ldc2 (v := 4294967295) hx hb hown (hts (.constantLong RL 51 (4294967295)) mb_112) dL_law_654 ?_
  refine lv_land hx hb dL_law_657 ?_
  refine lv_lor hx hb dL_law_658 ?_
  refine lv_aload_n hx hb dL_law_659 rfl (lv_at hl 1 rfl) ?_
  refine lv_iload hx hb dL_law_660 (lv_at hl 0 rfl) ?_
  refine lv_iconst (v := 3) hx hb dL_law_662 (by decide) ?_
  refine lv_iadd hx hb dL_law_663 ?_
  refine xi (y := nI (7 * t + 3)) (nI_add (7 * t) 3) ?_
  refine x_sld (j := (7 * t + 3)) hx hb hX hbl hbA hS (by omega) (by omega) dL_law_664 ?_
  refine lv_i2l (v := (xs (7 * t + 3)).toInt64) hx hb dL_law_665 rfl ?_
  refine lv_bipush (v := 32) hx hb dL_law_666 (by decide) ?_
  refine lv_lshl (v := ((xs (7 * t + 3)).toInt64) <<< ((32 : Int32).toInt64 &&& 63)) hx hb dL_law_668 rfl ?_
  refine lv_aload_n hx hb dL_law_669 rfl (lv_at hl 1 rfl) ?_
  refine lv_iload hx hb dL_law_670 (lv_at hl 0 rfl) ?_
  refine lv_iconst (v := 4) hx hb dL_law_672 (by decide) ?_
  refine lv_iadd hx hb dL_law_673 ?_
  refine xi (y := nI (7 * t + 4)) (nI_add (7 * t) 4) ?_
  refine x_sld (j := (7 * t + 4)) hx hb hX hbl hbA hS (by omega) (by omega) dL_law_674 ?_
  refine lv_i2l (v := (xs (7 * t + 4)).toInt64) hx hb dL_law_675 rfl ?_
  refine lv_ldc2 (v := 4294967295) hx hb hown (hts (.constantLong RL 51 (4294967295)) mb_112) dL_law_676 ?_
  refine lv_land hx hb dL_law_679 ?_
  refine lv_lor hx hb dL_law_680 ?_
  refine kn_i (wc := (wX a k n K V kd SK SV)) (wr := (wM bb g cd n K V (fun i9 => kd i9 + 1) SK SV ++ wO q z o)) (w1 := (wX a k n K V kd SK SV)) (va_runV (As := [.long ((((xs (7 * t + 1)).toInt64) <<< ((32 : Int32).toInt64 &&& 63)) ||| (((xs (7 * t + 2)).toInt64) &&& 4294967295)), .long ((((xs (7 * t + 3)).toInt64) <<< ((32 : Int32).toInt64 &&& 63)) ||| (((xs (7 * t + 4)).toInt64) &&& 4294967295))]) (rest := []) ⟨hx, hb, hml, hown, hts⟩ (c_count l hl9 D a k n K V kd SK SV (lwL (xs (7 * t + 1)) (xs (7 * t + 2))) (lwL (xs (7 * t + 3)) (xs (7 * t + 4))) H.size hn) (cwV 2 hts (gd_V mb_176 mb_177 mb_178 mb_12 mb_179) rfl rfl rfl (by decide +kernel) ⟨by decide, by decide⟩) ⟨cP_blind, va_recv (q0 := 0) (ci := 0) (q := (RX0, TX0, 6)) hK hP rfl rfl, cPre hP hD hK hS hA hZ [0, 1, 2, 3, 4, 5] rfl (by decide) [0, 1, 2, 3, 4] rfl⟩ rfl rfl hl.1 rfl (lv_room (Nat.le_of_ble_eq_true rfl)) dL_law_681 ⟨by rw [rm_c]; omega, by rw [rm_s]; omega⟩) hP hD hS hA [0, 1, 2, 3, 4, 5] [6, 7, 8, 9, 10, 11, 12] rfl rfl (by decide) (by decide) (fun r9 H locs hp hP hD hS => ?_)
  have hP := hP.sub (ws' := wX a k n K V kd SK SV ++ wM bb g cd n K V (fun i9 => kd i9 + 1) SK SV ++ wO q z o) [7, 8, 9, 10, 11, 12, 0, 1, 2, 3, 4, 5, 6] rfl
  have hD := hD.sub (ws' := wX a k n K V kd SK SV ++ wM bb g cd n K V (fun i9 => kd i9 + 1) SK SV ++ wO q z o) [7, 8, 9, 10, 11, 12, 0, 1, 2, 3, 4, 5, 6] (by decide) rfl
  have hP : va_P D vwCl (wX a k n K V kd SK SV ++ wM bb g cd n K V (fun i9 => kd i9 + 1) SK SV ++ wO q z o) H := hP
  have hD : va_D A (wX a k n K V kd SK SV ++ wM bb g cd n K V (fun i9 => kd i9 + 1) SK SV ++ wO q z o) := hD
  have hp : r9 = cntS K n (lwL (xs (7 * t + 1)) (xs (7 * t + 2))) (lwL (xs (7 * t + 3)) (xs (7 * t + 4))) := hp
  subst hp
  refine lv_aload_n hx hb dL_law_684 rfl (lv_at hl 3 rfl) ?_
  refine lv_aload_n hx hb dL_law_685 rfl (lv_at hl 1 rfl) ?_
  refine lv_iload hx hb dL_law_686 (lv_at hl 0 rfl) ?_
  refine lv_iconst (v := 1) hx hb dL_law_688 (by decide) ?_
  refine lv_iadd hx hb dL_law_689 ?_
  refine xi (y := nI (7 * t + 1)) (nI_add (7 * t) 1) ?_
  refine x_sld (j := (7 * t + 1)) hx hb hX hbl hbA hS (by omega) (by omega) dL_law_690 ?_
  refine lv_i2l (v := (xs (7 * t + 1)).toInt64) hx hb dL_law_691 rfl ?_
  refine lv_bipush (v := 32) hx hb dL_law_692 (by decide) ?_
  refine lv_lshl (v := ((xs (7 * t + 1)).toInt64) <<< ((32 : Int32).toInt64 &&& 63)) hx hb dL_law_694 rfl ?_
  refine lv_aload_n hx hb dL_law_695 rfl (lv_at hl 1 rfl) ?_
  refine lv_iload hx hb dL_law_696 (lv_at hl 0 rfl) ?_
  refine lv_iconst (v := 2) hx hb dL_law_698 (by decide) ?_
  refine lv_iadd hx hb dL_law_699 ?_
  refine xi (y := nI (7 * t + 2)) (nI_add (7 * t) 2) ?_
  refine x_sld (j := (7 * t + 2)) hx hb hX hbl hbA hS (by omega) (by omega) dL_law_700 ?_
  refine lv_i2l (v := (xs (7 * t + 2)).toInt64) hx hb dL_law_701 rfl ?_
  refine lv_ldc2 (v := 4294967295) hx hb hown (hts (.constantLong RL 51 (4294967295)) mb_112) dL_law_702 ?_
  refine lv_land hx hb dL_law_705 ?_
  refine lv_lor hx hb dL_law_706 ?_
  refine lv_aload_n hx hb dL_law_707 rfl (lv_at hl 1 rfl) ?_
  refine lv_iload hx hb dL_law_708 (lv_at hl 0 rfl) ?_
  refine lv_iconst (v := 3) hx hb dL_law_710 (by decide) ?_
  refine lv_iadd hx hb dL_law_711 ?_
  refine xi (y := nI (7 * t + 3)) (nI_add (7 * t) 3) ?_
  refine x_sld (j := (7 * t + 3)) hx hb hX hbl hbA hS (by omega) (by omega) dL_law_712 ?_
  refine lv_i2l (v := (xs (7 * t + 3)).toInt64) hx hb dL_law_713 rfl ?_
  refine lv_bipush (v := 32) hx hb dL_law_714 (by decide) ?_
  refine lv_lshl (v := ((xs (7 * t + 3)).toInt64) <<< ((32 : Int32).toInt64 &&& 63)) hx hb dL_law_716 rfl ?_
  refine lv_aload_n hx hb dL_law_717 rfl (lv_at hl 1 rfl) ?_
  refine lv_iload hx hb dL_law_718 (lv_at hl 0 rfl) ?_
  refine lv_iconst (v := 4) hx hb dL_law_720 (by decide) ?_
  refine lv_iadd hx hb dL_law_721 ?_
  refine xi (y := nI (7 * t + 4)) (nI_add (7 * t) 4) ?_
  refine x_sld (j := (7 * t + 4)) hx hb hX hbl hbA hS (by omega) (by omega) dL_law_722 ?_
  refine lv_i2l (v := (xs (7 * t + 4)).toInt64) hx hb dL_law_723 rfl ?_
  refine lv_ldc2 (v := 4294967295) hx hb hown (hts (.constantLong RL 51 (4294967295)) mb_112) dL_law_724 ?_
  refine lv_land hx hb dL_law_727 ?_
  refine lv_lor hx hb dL_law_728 ?_
  refine kn_i (wc := (wM bb g cd n K V (fun i9 => kd i9 + 1) SK SV)) (wr := (wX a k n K V kd SK SV ++ wO q z o)) (w1 := (wM bb g 0 n K V (fun i9 => kd i9 + 1) SK SV)) (va_runV (As := [.long ((((xs (7 * t + 1)).toInt64) <<< ((32 : Int32).toInt64 &&& 63)) ||| (((xs (7 * t + 2)).toInt64) &&& 4294967295)), .long ((((xs (7 * t + 3)).toInt64) <<< ((32 : Int32).toInt64 &&& 63)) ||| (((xs (7 * t + 4)).toInt64) &&& 4294967295))]) (rest := [.int (cntS K n (lwL (xs (7 * t + 1)) (xs (7 * t + 2))) (lwL (xs (7 * t + 3)) (xs (7 * t + 4))))]) ⟨hx, hb, hml, hown, hts⟩ (m_count l hl9 D bb g cd n K V kd SK SV (lwL (xs (7 * t + 1)) (xs (7 * t + 2))) (lwL (xs (7 * t + 3)) (xs (7 * t + 4))) H.size hn hI.2.1) (cwV 2 hts (gd_V mb_180 mb_181 mb_182 mb_50 mb_183) rfl rfl rfl (by decide +kernel) ⟨by decide, by decide⟩) ⟨cP_blind, va_recv (q0 := 6) (ci := 1) (q := (RX1, TX1, 7)) hK hP rfl rfl, cPre hP hD hK hS hA hZ [6, 7, 8, 9, 10, 11] rfl (by decide) [5, 6, 7, 8, 9] rfl⟩ rfl rfl hl.1 rfl (lv_room (Nat.le_of_ble_eq_true rfl)) dL_law_729 ⟨by rw [rm_c]; omega, by rw [rm_s]; omega⟩) hP hD hS hA [6, 7, 8, 9, 10, 11] [0, 1, 2, 3, 4, 5, 12] rfl rfl (by decide) (by decide) (fun r9 H locs hp hP hD hS => ?_)
  have hP := hP.sub (ws' := wX a k n K V kd SK SV ++ wM bb g 0 n K V (fun i9 => kd i9 + 1) SK SV ++ wO q z o) [0, 1, 2, 3, 4, 5, 7, 8, 9, 10, 11, 12, 6] rfl
  have hD := hD.sub (ws' := wX a k n K V kd SK SV ++ wM bb g 0 n K V (fun i9 => kd i9 + 1) SK SV ++ wO q z o) [0, 1, 2, 3, 4, 5, 7, 8, 9, 10, 11, 12, 6] (by decide) rfl
  have hP : va_P D vwCl (wX a k n K V kd SK SV ++ wM bb g 0 n K V (fun i9 => kd i9 + 1) SK SV ++ wO q z o) H := hP
  have hD : va_D A (wX a k n K V kd SK SV ++ wM bb g 0 n K V (fun i9 => kd i9 + 1) SK SV ++ wO q z o) := hD
  have hp : r9 = cntS K n (lwL (xs (7 * t + 1)) (xs (7 * t + 2))) (lwL (xs (7 * t + 3)) (xs (7 * t + 4))) := hp
  subst hp
  refine lv_icmp_eq (tgt := 839) hx hb dL_law_732 (by decide) (fun h1 => ?_) (fun h1 => ?_)
  · skip
    refine W.widen (k := 13 + 1 * (t + 1)) (n := 462 + 6 * (t + 1)) (by omega) (by omega) ?_
    exact nx n K V kd SK SV 0 o H locs ls hI hP hD hS (lv_sub hl [0, 1, 2, 3, 4] rfl)
  · skip
    exact absurd rfl h1
set_option maxHeartbeats 1000000 in
set_option maxRecDepth 100000 in
theorem law_11 {p : Program} {e : Env} {s : State} {m : MethodId} {below : List Frame} {meth : Method} {c : Code} {l : Launch} {b L : Nat} {xs : Nat → Int32} {D : va_G} {A : Nat → Prop} {a : Nat → Nat} {k : Nat → ClassId} {bb : Nat → Nat} {g : Nat → ClassId} {q : Nat} {z : ClassId} (hl9 : l.stackTraces = false) (hx : p.tables.exec = Jvm.exec) (hb : c.code = cL_law) (hr : meth.sig.returnType = some .boolean) (hml : c.maxLocals = 8) (hlocks : meth.locks = false) (hown : s.vm.findClass RL = some m.cls) (hts : ∀ w ∈ ALL, w.before #[Value.ref b] s = true) (hX : va_X b L xs s s.heap) (hbl : b < s.heap.size) (hbA : ¬ A b) (hK : va_K D vwCl (tX k ++ tM g ++ tO z) s) (hZ : zx A s s.heap) (hA : ∀ q : Nat, s.heap.size ≤ q → A q) (hL : L ≤ 3584) (t : Nat) (ht : 7 * t + 7 ≤ L) (n : Nat) (K V : Nat → Int64) (kd : Nat → Int32) (SK SV : Nat → Int64) (cd : Int32) (o : Nat → Int64) (H : Heap) (locs : List Loc) (ls : Array Slot) (hI : inv n K kd) (hP : va_P D vwCl (wX a k n K V kd SK SV ++ wM bb g cd n K V (fun i9 => kd i9 + 1) SK SV ++ wO q z o) H) (hD : va_D A (wX a k n K V kd SK SV ++ wM bb g cd n K V (fun i9 => kd i9 + 1) SK SV ++ wO q z o)) (hS : va_S A s.heap H locs) (hl : lv_has ls 8 [(4, .int (nI (7 * t))), (0, .ref b), (1, .ref (a 0)), (2, .ref (bb 0)), (3, .ref q)])
    (nx : ∀ (n : Nat) (K V : Nat → Int64) (kd : Nat → Int32) (SK SV : Nat → Int64) (cd : Int32) (o : Nat → Int64) (H : Heap) (locs : List Loc) (ls : Array Slot), inv n K kd → va_P D vwCl (wX a k n K V kd SK SV ++ wM bb g cd n K V (fun i9 => kd i9 + 1) SK SV ++ wO q z o) H → va_D A (wX a k n K V kd SK SV ++ wM bb g cd n K V (fun i9 => kd i9 + 1) SK SV ++ wO q z o) → va_S A s.heap H locs → lv_has ls 8 [(4, .int (nI (7 * t))), (0, .ref b), (1, .ref (a 0)), (2, .ref (bb 0)), (3, .ref q)] → W p l e room_1 s m #[Value.ref b] below meth c H locs (13 + 1 * (t + 1)) (462 + 6 * (t + 1)) (lw_Z below #[Value.ref b] s) (F0 m 839 ls [])) :
    W p l e room_1 s m #[Value.ref b] below meth c H locs (13 + 1 * t) (462 + 6 * t) (lw_Z below #[Value.ref b] s) (F0 m 737 ls []) := by
  have hn := hI.1
  have hk := hI.2.2
  refine lv_aload_n hx hb dL_law_737 rfl (lv_at hl 2 rfl) ?_
  refine lv_aload_n hx hb dL_law_738 rfl (lv_at hl 1 rfl) ?_
  refine lv_iload hx hb dL_law_739 (lv_at hl 0 rfl) ?_
  refine lv_iconst (v := 1) hx hb dL_law_741 (by decide) ?_
  refine lv_iadd hx hb dL_law_742 ?_
  refine xi (y := nI (7 * t + 1)) (nI_add (7 * t) 1) ?_
  refine x_sld (j := (7 * t + 1)) hx hb hX hbl hbA hS (by omega) (by omega) dL_law_743 ?_
  refine lv_i2l (v := (xs (7 * t + 1)).toInt64) hx hb dL_law_744 rfl ?_
  refine lv_bipush (v := 32) hx hb dL_law_745 (by decide) ?_
  refine lv_lshl (v := ((xs (7 * t + 1)).toInt64) <<< ((32 : Int32).toInt64 &&& 63)) hx hb dL_law_747 rfl ?_
  refine lv_aload_n hx hb dL_law_748 rfl (lv_at hl 1 rfl) ?_
  refine lv_iload hx hb dL_law_749 (lv_at hl 0 rfl) ?_
  refine lv_iconst (v := 2) hx hb dL_law_751 (by decide) ?_
  refine lv_iadd hx hb dL_law_752 ?_
  refine xi (y := nI (7 * t + 2)) (nI_add (7 * t) 2) ?_
  refine x_sld (j := (7 * t + 2)) hx hb hX hbl hbA hS (by omega) (by omega) dL_law_753 ?_
  refine lv_i2l (v := (xs (7 * t + 2)).toInt64) hx hb dL_law_754 rfl ?_
  refine lv_ldc2 (v := 4294967295) hx hb hown (hts (.constantLong RL 51 (4294967295)) mb_112) dL_law_755 ?_
  refine lv_land hx hb dL_law_758 ?_
  refine lv_lor hx hb dL_law_759 ?_
  refine lv_aload_n hx hb dL_law_760 rfl (lv_at hl 1 rfl) ?_
  refine lv_iload hx hb dL_law_761 (lv_at hl 0 rfl) ?_
  refine lv_iconst (v := 3) hx hb dL_law_763 (by decide) ?_
  refine lv_iadd hx hb dL_law_764 ?_
  refine xi (y := nI (7 * t + 3)) (nI_add (7 * t) 3) ?_
  refine x_sld (j := (7 * t + 3)) hx hb hX hbl hbA hS (by omega) (by omega) dL_law_765 ?_
  refine lv_i2l (v := (xs (7 * t + 3)).toInt64) hx hb dL_law_766 rfl ?_
  refine lv_bipush (v := 32) hx hb dL_law_767 (by decide) ?_
  refine lv_lshl (v := ((xs (7 * t + 3)).toInt64) <<< ((32 : Int32).toInt64 &&& 63)) hx hb dL_law_769 rfl ?_
  refine lv_aload_n hx hb dL_law_770 rfl (lv_at hl 1 rfl) ?_
  refine lv_iload hx hb dL_law_771 (lv_at hl 0 rfl) ?_
  refine lv_iconst (v := 4) hx hb dL_law_773 (by decide) ?_
  refine lv_iadd hx hb dL_law_774 ?_
  refine xi (y := nI (7 * t + 4)) (nI_add (7 * t) 4) ?_
  refine x_sld (j := (7 * t + 4)) hx hb hX hbl hbA hS (by omega) (by omega) dL_law_775 ?_
  refine lv_i2l (v := (xs (7 * t + 4)).toInt64) hx hb dL_law_776 rfl ?_
  refine lv_ldc2 (v := 4294967295) hx hb hown (hts (.constantLong RL 51 (4294967295)) mb_112) dL_law_777 ?_
  refine lv_land hx hb dL_law_780 ?_
  refine lv_lor hx hb dL_law_781 ?_
  refine kn_l (wc := (wX a k n K V kd SK SV)) (wr := (wM bb g cd n K V (fun i9 => kd i9 + 1) SK SV ++ wO q z o)) (w1 := (wX a k n K V kd SK SV)) (va_runV (As := [.long ((((xs (7 * t + 1)).toInt64) <<< ((32 : Int32).toInt64 &&& 63)) ||| (((xs (7 * t + 2)).toInt64) &&& 4294967295)), .long ((((xs (7 * t + 3)).toInt64) <<< ((32 : Int32).toInt64 &&& 63)) ||| (((xs (7 * t + 4)).toInt64) &&& 4294967295))]) (rest := []) ⟨hx, hb, hml, hown, hts⟩ (c_sum l hl9 D a k n K V kd SK SV (lwL (xs (7 * t + 1)) (xs (7 * t + 2))) (lwL (xs (7 * t + 3)) (xs (7 * t + 4))) H.size hn) (cwV 2 hts (gd_V mb_184 mb_185 mb_186 mb_12 mb_187) rfl rfl rfl (by decide +kernel) ⟨by decide, by decide⟩) ⟨cP_blind, va_recv (q0 := 0) (ci := 0) (q := (RX0, TX0, 6)) hK hP rfl rfl, cPre hP hD hK hS hA hZ [0, 1, 2, 3, 4, 5] rfl (by decide) [0, 1, 2, 3, 4] rfl⟩ rfl rfl hl.1 rfl (lv_room (Nat.le_of_ble_eq_true rfl)) dL_law_782 ⟨by rw [rm_c]; omega, by rw [rm_s]; omega⟩) hP hD hS hA [0, 1, 2, 3, 4, 5] [6, 7, 8, 9, 10, 11, 12] rfl rfl (by decide) (by decide) (fun r9 H locs hp hP hD hS => ?_)
  have hP := hP.sub (ws' := wX a k n K V kd SK SV ++ wM bb g cd n K V (fun i9 => kd i9 + 1) SK SV ++ wO q z o) [7, 8, 9, 10, 11, 12, 0, 1, 2, 3, 4, 5, 6] rfl
  have hD := hD.sub (ws' := wX a k n K V kd SK SV ++ wM bb g cd n K V (fun i9 => kd i9 + 1) SK SV ++ wO q z o) [7, 8, 9, 10, 11, 12, 0, 1, 2, 3, 4, 5, 6] (by decide) rfl
  have hP : va_P D vwCl (wX a k n K V kd SK SV ++ wM bb g cd n K V (fun i9 => kd i9 + 1) SK SV ++ wO q z o) H := hP
  have hD : va_D A (wX a k n K V kd SK SV ++ wM bb g cd n K V (fun i9 => kd i9 + 1) SK SV ++ wO q z o) := hD
  have hp : r9 = sumS K V n (lwL (xs (7 * t + 1)) (xs (7 * t + 2))) (lwL (xs (7 * t + 3)) (xs (7 * t + 4))) := hp
  subst hp
  refine lv_aload_n hx hb dL_law_785 rfl (lv_at hl 3 rfl) ?_
  refine lv_aload_n hx hb dL_law_786 rfl (lv_at hl 1 rfl) ?_
  refine lv_iload hx hb dL_law_787 (lv_at hl 0 rfl) ?_
  refine lv_iconst (v := 1) hx hb dL_law_789 (by decide) ?_
  refine lv_iadd hx hb dL_law_790 ?_
  refine xi (y := nI (7 * t + 1)) (nI_add (7 * t) 1) ?_
  refine x_sld (j := (7 * t + 1)) hx hb hX hbl hbA hS (by omega) (by omega) dL_law_791 ?_
  refine lv_i2l (v := (xs (7 * t + 1)).toInt64) hx hb dL_law_792 rfl ?_
  refine lv_bipush (v := 32) hx hb dL_law_793 (by decide) ?_
  refine lv_lshl (v := ((xs (7 * t + 1)).toInt64) <<< ((32 : Int32).toInt64 &&& 63)) hx hb dL_law_795 rfl ?_
  refine lv_aload_n hx hb dL_law_796 rfl (lv_at hl 1 rfl) ?_
  refine lv_iload hx hb dL_law_797 (lv_at hl 0 rfl) ?_
  refine lv_iconst (v := 2) hx hb dL_law_799 (by decide) ?_
  refine lv_iadd hx hb dL_law_800 ?_
  refine xi (y := nI (7 * t + 2)) (nI_add (7 * t) 2) ?_
  refine x_sld (j := (7 * t + 2)) hx hb hX hbl hbA hS (by omega) (by omega) dL_law_801 ?_
  refine lv_i2l (v := (xs (7 * t + 2)).toInt64) hx hb dL_law_802 rfl ?_
  refine lv_ldc2 (v := 4294967295) hx hb hown (hts (.constantLong RL 51 (4294967295)) mb_112) dL_law_803 ?_
  refine lv_land hx hb dL_law_806 ?_
  refine lv_lor hx hb dL_law_807 ?_
  refine lv_aload_n hx hb dL_law_808 rfl (lv_at hl 1 rfl) ?_
  refine lv_iload hx hb dL_law_809 (lv_at hl 0 rfl) ?_
  refine lv_iconst (v := 3) hx hb dL_law_811 (by decide) ?_
  refine lv_iadd hx hb dL_law_812 ?_
  refine xi (y := nI (7 * t + 3)) (nI_add (7 * t) 3) ?_
  refine x_sld (j := (7 * t + 3)) hx hb hX hbl hbA hS (by omega) (by omega) dL_law_813 ?_
  refine lv_i2l (v := (xs (7 * t + 3)).toInt64) hx hb dL_law_814 rfl ?_
  refine lv_bipush (v := 32) hx hb dL_law_815 (by decide) ?_
  refine lv_lshl (v := ((xs (7 * t + 3)).toInt64) <<< ((32 : Int32).toInt64 &&& 63)) hx hb dL_law_817 rfl ?_
  refine lv_aload_n hx hb dL_law_818 rfl (lv_at hl 1 rfl) ?_
  refine lv_iload hx hb dL_law_819 (lv_at hl 0 rfl) ?_
  refine lv_iconst (v := 4) hx hb dL_law_821 (by decide) ?_
  refine lv_iadd hx hb dL_law_822 ?_
  refine xi (y := nI (7 * t + 4)) (nI_add (7 * t) 4) ?_
  refine x_sld (j := (7 * t + 4)) hx hb hX hbl hbA hS (by omega) (by omega) dL_law_823 ?_
  refine lv_i2l (v := (xs (7 * t + 4)).toInt64) hx hb dL_law_824 rfl ?_
  refine lv_ldc2 (v := 4294967295) hx hb hown (hts (.constantLong RL 51 (4294967295)) mb_112) dL_law_825 ?_
  refine lv_land hx hb dL_law_828 ?_
  refine lv_lor hx hb dL_law_829 ?_
  refine kn_l (wc := (wM bb g cd n K V (fun i9 => kd i9 + 1) SK SV)) (wr := (wX a k n K V kd SK SV ++ wO q z o)) (w1 := (wM bb g 0 n K V (fun i9 => kd i9 + 1) SK SV)) (va_runV (As := [.long ((((xs (7 * t + 1)).toInt64) <<< ((32 : Int32).toInt64 &&& 63)) ||| (((xs (7 * t + 2)).toInt64) &&& 4294967295)), .long ((((xs (7 * t + 3)).toInt64) <<< ((32 : Int32).toInt64 &&& 63)) ||| (((xs (7 * t + 4)).toInt64) &&& 4294967295))]) (rest := [.long (sumS K V n (lwL (xs (7 * t + 1)) (xs (7 * t + 2))) (lwL (xs (7 * t + 3)) (xs (7 * t + 4))))]) ⟨hx, hb, hml, hown, hts⟩ (m_sum l hl9 D bb g cd n K V kd SK SV (lwL (xs (7 * t + 1)) (xs (7 * t + 2))) (lwL (xs (7 * t + 3)) (xs (7 * t + 4))) H.size hn hI.2.1) (cwV 2 hts (gd_V mb_188 mb_189 mb_190 mb_50 mb_191) rfl rfl rfl (by decide +kernel) ⟨by decide, by decide⟩) ⟨cP_blind, va_recv (q0 := 6) (ci := 1) (q := (RX1, TX1, 7)) hK hP rfl rfl, cPre hP hD hK hS hA hZ [6, 7, 8, 9, 10, 11] rfl (by decide) [5, 6, 7, 8, 9] rfl⟩ rfl rfl hl.1 rfl (lv_room (Nat.le_of_ble_eq_true rfl)) dL_law_830 ⟨by rw [rm_c]; omega, by rw [rm_s]; omega⟩) hP hD hS hA [6, 7, 8, 9, 10, 11] [0, 1, 2, 3, 4, 5, 12] rfl rfl (by decide) (by decide) (fun r9 H locs hp hP hD hS => ?_)
  have hP := hP.sub (ws' := wX a k n K V kd SK SV ++ wM bb g 0 n K V (fun i9 => kd i9 + 1) SK SV ++ wO q z o) [0, 1, 2, 3, 4, 5, 7, 8, 9, 10, 11, 12, 6] rfl
  have hD := hD.sub (ws' := wX a k n K V kd SK SV ++ wM bb g 0 n K V (fun i9 => kd i9 + 1) SK SV ++ wO q z o) [0, 1, 2, 3, 4, 5, 7, 8, 9, 10, 11, 12, 6] (by decide) rfl
  have hP : va_P D vwCl (wX a k n K V kd SK SV ++ wM bb g 0 n K V (fun i9 => kd i9 + 1) SK SV ++ wO q z o) H := hP
  have hD : va_D A (wX a k n K V kd SK SV ++ wM bb g 0 n K V (fun i9 => kd i9 + 1) SK SV ++ wO q z o) := hD
  have hp : r9 = sumS K V n (lwL (xs (7 * t + 1)) (xs (7 * t + 2))) (lwL (xs (7 * t + 3)) (xs (7 * t + 4))) := hp
  subst hp
  refine W.lcmp hx hb dL_law_833 ?_
  refine lv_if_eq (tgt := 839) hx hb dL_law_834 (by decide) (fun h1 => ?_) (fun h1 => ?_)
  · skip
    refine W.widen (k := 13 + 1 * (t + 1)) (n := 462 + 6 * (t + 1)) (by omega) (by omega) ?_
    exact nx n K V kd SK SV 0 o H locs ls hI hP hD hS (lv_sub hl [0, 1, 2, 3, 4] rfl)
  · skip
    exact absurd ((lg_cmp_eq _ _).mpr rfl) h1
