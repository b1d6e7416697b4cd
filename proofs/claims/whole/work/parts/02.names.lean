def RX0 : String := "LinkedIndex"
def RX1 : String := "LinkedIndexModel"
def RL : String := "LinkedIndexLaw"
def TX0 : u_T := fun k => match k with
  | 0 => ("LinkedIndex", "keys", "[J", true)
  | 1 => ("LinkedIndex", "values", "[J", true)
  | 2 => ("LinkedIndex", "keyCount", "I", false)
  | 3 => ("LinkedIndex", "slotKinds", "[I", true)
  | 4 => ("LinkedIndex", "slotKeys", "[J", true)
  | _ => ("LinkedIndex", "slotValues", "[J", true)
def tyX0 : Nat → FieldType := fun k => match k with
  | 0 => .array .long
  | 1 => .array .long
  | 2 => .int
  | 3 => .array .int
  | 4 => .array .long
  | _ => .array .long
theorem nmX0 : ∀ a, a < 6 → ∀ b, b < 6 → a ≠ b → (TX0 a).2.1 ≠ (TX0 b).2.1 := by decide +kernel
theorem tyX0_ok : ∀ k, k < 6 → parseFieldDescriptor (TX0 k).2.2.1 = some (tyX0 k) := by decide +kernel
def TX1 : u_T := fun k => match k with
  | 0 => ("LinkedIndexModel", "code", "I", false)
  | 1 => ("LinkedIndexModel", "size", "I", false)
  | 2 => ("LinkedIndexModel", "keys", "[J", true)
  | 3 => ("LinkedIndexModel", "values", "[J", true)
  | 4 => ("LinkedIndexModel", "kinds", "[I", true)
  | 5 => ("LinkedIndexModel", "asked", "[J", true)
  | _ => ("LinkedIndexModel", "given", "[J", true)
def tyX1 : Nat → FieldType := fun k => match k with
  | 0 => .int
  | 1 => .int
  | 2 => .array .long
  | 3 => .array .long
  | 4 => .array .int
  | 5 => .array .long
  | _ => .array .long
theorem nmX1 : ∀ a, a < 7 → ∀ b, b < 7 → a ≠ b → (TX1 a).2.1 ≠ (TX1 b).2.1 := by decide +kernel
theorem tyX1_ok : ∀ k, k < 7 → parseFieldDescriptor (TX1 k).2.2.1 = some (tyX1 k) := by decide +kernel
abbrev vwCl : List vw_C := [(RX0, TX0, 6), (RX1, TX1, 7)]
/-- the tables' words that a warming keeps -/
def ALL : List Cond := lw_tbl.filter goodWord
theorem al_in {w : Cond} {i : Nat} (h : lw_tbl[i]? = some w) (hg : goodWord w = true) : w ∈ ALL := List.mem_filter.mpr ⟨List.mem_of_getElem? h, hg⟩
theorem al_tbl {w : Cond} (h : w ∈ ALL) : w ∈ lw_tbl := (List.mem_filter.mp h).1
theorem wm {w x : Cond} (h : w ∈ ALL) : w ∈ x :: ALL := List.mem_cons_of_mem _ h
theorem al_good {w : Cond} (h : w ∈ ALL) : (w.onTables && w.keeps) = true ∨ ∃ ty, w = .arrayClass ty := good_of_word (List.mem_filter.mp h).2
theorem gd_up {ws : List Cond} {x : Cond} (h : GoodIn ALL ws) : GoodIn (x :: ALL) ws := fun w hw => ⟨wm (h w hw).1, (h w hw).2⟩
theorem gd_I {x : Cond} (h : x ∈ ALL) : GoodIn ALL (x :: ALL) := by
  intro w hw
  rcases List.mem_cons.mp hw with rfl | hw
  · exact ⟨h, al_good h⟩
  · exact ⟨hw, al_good hw⟩
theorem gd_V {own C : String} {idx : Nat} {y : MethodName} {x : Cond} (h1 : Cond.methodLink own idx y ∈ ALL) (h2 : Cond.instanceMethod y ∈ ALL) (h3 : Cond.selects C y y ∈ ALL) (h4 : Cond.initialized C ∈ ALL) (h5 : x ∈ ALL) : GoodIn ALL (wsV own idx C y (x :: ALL)) := by
  intro w hw
  unfold wsV at hw
  rcases List.mem_append.mp hw with hw | hw
  · rcases List.mem_cons.mp hw with rfl | hw
    · exact ⟨h1, al_good h1⟩
    · rcases List.mem_cons.mp hw with rfl | hw
      · exact ⟨h2, al_good h2⟩
      · rcases List.mem_cons.mp hw with rfl | hw
        · exact ⟨h3, al_good h3⟩
        · rcases List.mem_cons.mp hw with rfl | hw
          · exact ⟨h4, al_good h4⟩
          · cases hw
  · exact gd_I h5 w hw
theorem gd_S {own : String} {idx : Nat} {y : MethodName} {x : Cond} (h1 : Cond.methodLink own idx y ∈ ALL) (h2 : Cond.static y ∈ ALL) (h3 : Cond.initialized y.cls ∈ ALL) (h5 : x ∈ ALL) : GoodIn ALL (va_wsS own idx y (x :: ALL)) := by
  intro w hw
  unfold va_wsS at hw
  rcases List.mem_append.mp hw with hw | hw
  · rcases List.mem_cons.mp hw with rfl | hw
    · exact ⟨h1, al_good h1⟩
    · rcases List.mem_cons.mp hw with rfl | hw
      · exact ⟨h2, al_good h2⟩
      · rcases List.mem_cons.mp hw with rfl | hw
        · exact ⟨h3, al_good h3⟩
        · cases hw
  · exact gd_I h5 w hw
theorem ui_X0 : ∀ w ∈ u_ws RX0 TX0 6, w ∈ ALL := fun w h => List.mem_filter.mpr ((by decide +kernel : ∀ w ∈ u_ws RX0 TX0 6, w ∈ lw_tbl ∧ goodWord w = true) w h)
theorem ui_X1 : ∀ w ∈ u_ws RX1 TX1 7, w ∈ ALL := fun w h => List.mem_filter.mpr ((by decide +kernel : ∀ w ∈ u_ws RX1 TX1 7, w ∈ lw_tbl ∧ goodWord w = true) w h)
abbrev cX0_init : ByteArray := prog_1_method_1_code
def yX0_init : MethodName := ⟨RX0, "<init>", "()V"⟩
def wsX0_init : List Cond := .code yX0_init cX0_init 2 none :: ALL
abbrev cX0_crash : ByteArray := prog_1_method_7_code
def yX0_crash : MethodName := ⟨RX0, "crash", "()I"⟩
def wsX0_crash : List Cond := .code yX0_crash cX0_crash 3 (some .int) :: ALL
abbrev cX0_size : ByteArray := prog_1_method_9_code
def yX0_size : MethodName := ⟨RX0, "size", "()I"⟩
def wsX0_size : List Cond := .code yX0_size cX0_size 1 (some .int) :: ALL
abbrev cX0_count : ByteArray := prog_1_method_12_code
def yX0_count : MethodName := ⟨RX0, "count", "(JJ)I"⟩
def wsX0_count : List Cond := .code yX0_count cX0_count 7 (some .int) :: ALL
abbrev cX0_placeOf : ByteArray := prog_1_method_18_code
def yX0_placeOf : MethodName := ⟨RX0, "placeOf", "(J)I"⟩
def wsX0_placeOf : List Cond := .code yX0_placeOf cX0_placeOf 4 (some .int) :: ALL
abbrev cX0_sum : ByteArray := prog_1_method_13_code
def yX0_sum : MethodName := ⟨RX0, "sum", "(JJ)J"⟩
def wsX0_sum : List Cond := .code yX0_sum cX0_sum 8 (some .long) :: ALL
abbrev cL_begin : ByteArray := method_3_code
def yL_begin : MethodName := ⟨RL, "begin", "(LLinkedIndex;IIJJ)I"⟩
def wsL_begin : List Cond := .codeWith yL_begin cL_begin 8 (some .int) [(0, 9, 12, 13), (0, 9, 16, 15)] :: ALL
abbrev cX0_begin : ByteArray := prog_1_method_2_code
def yX0_begin : MethodName := ⟨RX0, "begin", "(IIJJ)V"⟩
def wsX0_begin : List Cond := .code yX0_begin cX0_begin 7 none :: ALL
abbrev cX0_requireSlot : ByteArray := prog_1_method_14_code
def yX0_requireSlot : MethodName := ⟨RX0, "requireSlot", "(I)V"⟩
def wsX0_requireSlot : List Cond := .code yX0_requireSlot cX0_requireSlot 1 none :: ALL
abbrev cL_step : ByteArray := method_4_code
def yL_step : MethodName := ⟨RL, "step", "(LLinkedIndex;II)I"⟩
def wsL_step : List Cond := .codeWith yL_step cL_step 4 (some .int) [(0, 6, 9, 13), (0, 6, 12, 15)] :: ALL
abbrev cX0_step : ByteArray := prog_1_method_3_code
def yX0_step : MethodName := ⟨RX0, "step", "(II)V"⟩
def wsX0_step : List Cond := .code yX0_step cX0_step 3 none :: ALL
abbrev cX0_requireSteps : ByteArray := prog_1_method_15_code
def yX0_requireSteps : MethodName := ⟨RX0, "requireSteps", "(I)V"⟩
def wsX0_requireSteps : List Cond := .code yX0_requireSteps cX0_requireSteps 1 none :: ALL
abbrev cX0_requireOperation : ByteArray := prog_1_method_16_code
def yX0_requireOperation : MethodName := ⟨RX0, "requireOperation", "(I)V"⟩
def wsX0_requireOperation : List Cond := .code yX0_requireOperation cX0_requireOperation 2 none :: ALL
abbrev cL_finish : ByteArray := method_5_code
def yL_finish : MethodName := ⟨RL, "finish", "(LLinkedIndex;I[J)I"⟩
def wsL_finish : List Cond := .codeWith yL_finish cL_finish 4 (some .int) [(0, 8, 11, 13), (0, 8, 14, 15), (0, 8, 17, 25)] :: ALL
abbrev cX0_finish : ByteArray := prog_1_method_4_code
def yX0_finish : MethodName := ⟨RX0, "finish", "(I)J"⟩
def wsX0_finish : List Cond := .code yX0_finish cX0_finish 7 (some .long) :: ALL
abbrev cX0_finishPut : ByteArray := prog_1_method_20_code
def yX0_finishPut : MethodName := ⟨RX0, "finishPut", "(II)J"⟩
def wsX0_finishPut : List Cond := .code yX0_finishPut cX0_finishPut 4 (some .long) :: ALL
abbrev cX0_isAt : ByteArray := prog_1_method_19_code
def yX0_isAt : MethodName := ⟨RX0, "isAt", "(IJ)Z"⟩
def wsX0_isAt : List Cond := .code yX0_isAt cX0_isAt 4 (some .boolean) :: ALL
abbrev cX0_openGap : ByteArray := prog_1_method_21_code
def yX0_openGap : MethodName := ⟨RX0, "openGap", "(I)V"⟩
def wsX0_openGap : List Cond := .code yX0_openGap cX0_openGap 3 none :: ALL
abbrev cX0_closeGap : ByteArray := prog_1_method_22_code
def yX0_closeGap : MethodName := ⟨RX0, "closeGap", "(I)V"⟩
def wsX0_closeGap : List Cond := .code yX0_closeGap cX0_closeGap 3 none :: ALL
abbrev cL_drop : ByteArray := method_6_code
def yL_drop : MethodName := ⟨RL, "drop", "(LLinkedIndex;I[J)I"⟩
def wsL_drop : List Cond := .codeWith yL_drop cL_drop 4 (some .int) [(0, 16, 19, 13)] :: ALL
abbrev cX0_drop : ByteArray := prog_1_method_5_code
def yX0_drop : MethodName := ⟨RX0, "drop", "(I)Z"⟩
def wsX0_drop : List Cond := .code yX0_drop cX0_drop 3 (some .boolean) :: ALL
abbrev cL_tidy : ByteArray := method_7_code
def yL_tidy : MethodName := ⟨RL, "tidy", "(LLinkedIndex;I)I"⟩
def wsL_tidy : List Cond := .codeWith yL_tidy cL_tidy 3 (some .int) [(0, 5, 8, 13)] :: ALL
abbrev cX0_tidy : ByteArray := prog_1_method_6_code
def yX0_tidy : MethodName := ⟨RX0, "tidy", "(I)V"⟩
def wsX0_tidy : List Cond := .code yX0_tidy cX0_tidy 2 none :: ALL
abbrev cL_kind : ByteArray := method_8_code
def yL_kind : MethodName := ⟨RL, "kind", "(LLinkedIndex;I[J)I"⟩
def wsL_kind : List Cond := .codeWith yL_kind cL_kind 4 (some .int) [(0, 9, 12, 13)] :: ALL
abbrev cX0_kind : ByteArray := prog_1_method_8_code
def yX0_kind : MethodName := ⟨RX0, "kind", "(I)I"⟩
def wsX0_kind : List Cond := .code yX0_kind cX0_kind 2 (some .int) :: ALL
abbrev cL_key : ByteArray := method_9_code
def yL_key : MethodName := ⟨RL, "key", "(LLinkedIndex;I[J)I"⟩
def wsL_key : List Cond := .codeWith yL_key cL_key 4 (some .int) [(0, 8, 11, 42)] :: ALL
abbrev cX0_key : ByteArray := prog_1_method_10_code
def yX0_key : MethodName := ⟨RX0, "key", "(I)J"⟩
def wsX0_key : List Cond := .code yX0_key cX0_key 2 (some .long) :: ALL
abbrev cX0_requirePlace : ByteArray := prog_1_method_17_code
def yX0_requirePlace : MethodName := ⟨RX0, "requirePlace", "(I)V"⟩
def wsX0_requirePlace : List Cond := .code yX0_requirePlace cX0_requirePlace 2 none :: ALL
abbrev cL_value : ByteArray := method_10_code
def yL_value : MethodName := ⟨RL, "value", "(LLinkedIndex;I[J)I"⟩
def wsL_value : List Cond := .codeWith yL_value cL_value 4 (some .int) [(0, 8, 11, 42)] :: ALL
abbrev cX0_value : ByteArray := prog_1_method_11_code
def yX0_value : MethodName := ⟨RX0, "value", "(I)J"⟩
def wsX0_value : List Cond := .code yX0_value cX0_value 2 (some .long) :: ALL
abbrev cX1_init : ByteArray := prog_3_method_1_code
def yX1_init : MethodName := ⟨RX1, "<init>", "()V"⟩
def wsX1_init : List Cond := .code yX1_init cX1_init 1 none :: ALL
abbrev cX1_thrown : ByteArray := prog_3_method_2_code
def yX1_thrown : MethodName := ⟨RX1, "thrown", "()I"⟩
def wsX1_thrown : List Cond := .code yX1_thrown cX1_thrown 1 (some .int) :: ALL
abbrev cX1_begin : ByteArray := prog_3_method_4_code
def yX1_begin : MethodName := ⟨RX1, "begin", "(IIJJ)V"⟩
def wsX1_begin : List Cond := .code yX1_begin cX1_begin 7 none :: ALL
abbrev cX1_isSlot : ByteArray := prog_3_method_3_code
def yX1_isSlot : MethodName := ⟨RX1, "isSlot", "(I)Z"⟩
def wsX1_isSlot : List Cond := .code yX1_isSlot cX1_isSlot 1 (some .boolean) :: ALL
abbrev cX1_step : ByteArray := prog_3_method_5_code
def yX1_step : MethodName := ⟨RX1, "step", "(II)V"⟩
def wsX1_step : List Cond := .code yX1_step cX1_step 3 none :: ALL
abbrev cX1_finish : ByteArray := prog_3_method_9_code
def yX1_finish : MethodName := ⟨RX1, "finish", "(I)J"⟩
def wsX1_finish : List Cond := .code yX1_finish cX1_finish 8 (some .long) :: ALL
abbrev cX1_rank : ByteArray := prog_3_method_6_code
def yX1_rank : MethodName := ⟨RX1, "rank", "(J)I"⟩
def wsX1_rank : List Cond := .code yX1_rank cX1_rank 4 (some .int) :: ALL
abbrev cX1_put : ByteArray := prog_3_method_7_code
def yX1_put : MethodName := ⟨RX1, "put", "(IZJJ)J"⟩
def wsX1_put : List Cond := .code yX1_put cX1_put 8 (some .long) :: ALL
abbrev cX1_take : ByteArray := prog_3_method_8_code
def yX1_take : MethodName := ⟨RX1, "take", "(I)J"⟩
def wsX1_take : List Cond := .code yX1_take cX1_take 5 (some .long) :: ALL
abbrev cX1_drop : ByteArray := prog_3_method_10_code
def yX1_drop : MethodName := ⟨RX1, "drop", "(I)Z"⟩
def wsX1_drop : List Cond := .code yX1_drop cX1_drop 3 (some .boolean) :: ALL
abbrev cX1_tidy : ByteArray := prog_3_method_11_code
def yX1_tidy : MethodName := ⟨RX1, "tidy", "(I)V"⟩
def wsX1_tidy : List Cond := .code yX1_tidy cX1_tidy 2 none :: ALL
abbrev cX1_crash : ByteArray := prog_3_method_12_code
def yX1_crash : MethodName := ⟨RX1, "crash", "()I"⟩
def wsX1_crash : List Cond := .code yX1_crash cX1_crash 3 (some .int) :: ALL
abbrev cX1_kind : ByteArray := prog_3_method_13_code
def yX1_kind : MethodName := ⟨RX1, "kind", "(I)I"⟩
def wsX1_kind : List Cond := .code yX1_kind cX1_kind 2 (some .int) :: ALL
abbrev cX1_size : ByteArray := prog_3_method_14_code
def yX1_size : MethodName := ⟨RX1, "size", "()I"⟩
def wsX1_size : List Cond := .code yX1_size cX1_size 1 (some .int) :: ALL
abbrev cX1_key : ByteArray := prog_3_method_15_code
def yX1_key : MethodName := ⟨RX1, "key", "(I)J"⟩
def wsX1_key : List Cond := .code yX1_key cX1_key 2 (some .long) :: ALL
abbrev cX1_value : ByteArray := prog_3_method_16_code
def yX1_value : MethodName := ⟨RX1, "value", "(I)J"⟩
def wsX1_value : List Cond := .code yX1_value cX1_value 2 (some .long) :: ALL
abbrev cX1_count : ByteArray := prog_3_method_17_code
def yX1_count : MethodName := ⟨RX1, "count", "(JJ)I"⟩
def wsX1_count : List Cond := .code yX1_count cX1_count 7 (some .int) :: ALL
abbrev cX1_sum : ByteArray := prog_3_method_18_code
def yX1_sum : MethodName := ⟨RX1, "sum", "(JJ)J"⟩
def wsX1_sum : List Cond := .code yX1_sum cX1_sum 8 (some .long) :: ALL
abbrev cL_law : ByteArray := code
def yL_law : MethodName := ⟨RL, "law", "([I)Z"⟩
