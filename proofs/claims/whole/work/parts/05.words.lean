set_option maxRecDepth 20000 in
theorem mb_0 : (.classLink RX0 34 "java/lang/IllegalArgumentException" : Cond) ∈ ALL := al_in (i := 82) (by decide +kernel) (by decide +kernel)
set_option maxRecDepth 20000 in
theorem mb_1 : (.initialized "java/lang/IllegalArgumentException" : Cond) ∈ ALL := al_in (i := 17) (by decide +kernel) (by decide +kernel)
set_option maxRecDepth 20000 in
theorem mb_2 : (.fieldLink RX0 16 "LinkedIndex" "keyCount" "I" : Cond) ∈ ALL := al_in (i := 31) (by decide +kernel) (by decide +kernel)
set_option maxRecDepth 20000 in
theorem mb_3 : (.classLink RX0 81 "java/lang/IndexOutOfBoundsException" : Cond) ∈ ALL := al_in (i := 258) (by decide +kernel) (by decide +kernel)
set_option maxRecDepth 20000 in
theorem mb_4 : (.initialized "java/lang/IndexOutOfBoundsException" : Cond) ∈ ALL := al_in (i := 20) (by decide +kernel) (by decide +kernel)
set_option maxRecDepth 20000 in
theorem mb_5 : (.fieldLink RX0 20 "LinkedIndex" "slotKinds" "[I" : Cond) ∈ ALL := al_in (i := 32) (by decide +kernel) (by decide +kernel)
set_option maxRecDepth 20000 in
theorem mb_6 : (.classLink RX0 41 "java/lang/IllegalStateException" : Cond) ∈ ALL := al_in (i := 152) (by decide +kernel) (by decide +kernel)
set_option maxRecDepth 20000 in
theorem mb_7 : (.initialized "java/lang/IllegalStateException" : Cond) ∈ ALL := al_in (i := 18) (by decide +kernel) (by decide +kernel)
set_option maxRecDepth 20000 in
theorem mb_8 : (.fieldLink RX0 9 "LinkedIndex" "keys" "[J" : Cond) ∈ ALL := al_in (i := 29) (by decide +kernel) (by decide +kernel)
set_option maxRecDepth 20000 in
theorem mb_9 : (.fieldLink RX0 13 "LinkedIndex" "values" "[J" : Cond) ∈ ALL := al_in (i := 30) (by decide +kernel) (by decide +kernel)
set_option maxRecDepth 20000 in
theorem mb_10 : (.methodLink RX0 30 yX0_requireSlot : Cond) ∈ ALL := al_in (i := 79) (by decide +kernel) (by decide +kernel)
set_option maxRecDepth 20000 in
theorem mb_11 : (.static yX0_requireSlot : Cond) ∈ ALL := al_in (i := 80) (by decide +kernel) (by decide +kernel)
set_option maxRecDepth 20000 in
theorem mb_12 : (.initialized RX0 : Cond) ∈ ALL := al_in (i := 12) (by decide +kernel) (by decide +kernel)
set_option maxRecDepth 20000 in
theorem mb_13 : (.code yX0_requireSlot cX0_requireSlot 1 none : Cond) ∈ ALL := al_in (i := 81) (by decide +kernel) (by decide +kernel)
set_option maxRecDepth 20000 in
theorem mb_14 : (.fieldLink RX0 24 "LinkedIndex" "slotKeys" "[J" : Cond) ∈ ALL := al_in (i := 33) (by decide +kernel) (by decide +kernel)
set_option maxRecDepth 20000 in
theorem mb_15 : (.fieldLink RX0 27 "LinkedIndex" "slotValues" "[J" : Cond) ∈ ALL := al_in (i := 34) (by decide +kernel) (by decide +kernel)
set_option maxRecDepth 20000 in
theorem mb_16 : (.methodLink RX0 46 yX0_requireSteps : Cond) ∈ ALL := al_in (i := 175) (by decide +kernel) (by decide +kernel)
set_option maxRecDepth 20000 in
theorem mb_17 : (.static yX0_requireSteps : Cond) ∈ ALL := al_in (i := 176) (by decide +kernel) (by decide +kernel)
set_option maxRecDepth 20000 in
theorem mb_18 : (.code yX0_requireSteps cX0_requireSteps 1 none : Cond) ∈ ALL := al_in (i := 177) (by decide +kernel) (by decide +kernel)
set_option maxRecDepth 20000 in
theorem mb_19 : (.methodLink RX0 49 yX0_requireOperation : Cond) ∈ ALL := al_in (i := 179) (by decide +kernel) (by decide +kernel)
set_option maxRecDepth 20000 in
theorem mb_20 : (.instanceMethod yX0_requireOperation : Cond) ∈ ALL := al_in (i := 181) (by decide +kernel) (by decide +kernel)
set_option maxRecDepth 20000 in
theorem mb_21 : (.selects RX0 yX0_requireOperation yX0_requireOperation : Cond) ∈ ALL := al_in (i := 2) (by decide +kernel) (by decide +kernel)
set_option maxRecDepth 20000 in
theorem mb_22 : (.code yX0_requireOperation cX0_requireOperation 2 none : Cond) ∈ ALL := al_in (i := 182) (by decide +kernel) (by decide +kernel)
set_option maxRecDepth 20000 in
theorem mb_23 : (.methodLink RX0 72 yX0_requirePlace : Cond) ∈ ALL := al_in (i := 254) (by decide +kernel) (by decide +kernel)
set_option maxRecDepth 20000 in
theorem mb_24 : (.instanceMethod yX0_requirePlace : Cond) ∈ ALL := al_in (i := 256) (by decide +kernel) (by decide +kernel)
set_option maxRecDepth 20000 in
theorem mb_25 : (.selects RX0 yX0_requirePlace yX0_requirePlace : Cond) ∈ ALL := al_in (i := 7) (by decide +kernel) (by decide +kernel)
set_option maxRecDepth 20000 in
theorem mb_26 : (.code yX0_requirePlace cX0_requirePlace 2 none : Cond) ∈ ALL := al_in (i := 257) (by decide +kernel) (by decide +kernel)
set_option maxRecDepth 20000 in
theorem mb_27 : (.methodLink RX0 52 yX0_placeOf : Cond) ∈ ALL := al_in (i := 62) (by decide +kernel) (by decide +kernel)
set_option maxRecDepth 20000 in
theorem mb_28 : (.instanceMethod yX0_placeOf : Cond) ∈ ALL := al_in (i := 64) (by decide +kernel) (by decide +kernel)
set_option maxRecDepth 20000 in
theorem mb_29 : (.selects RX0 yX0_placeOf yX0_placeOf : Cond) ∈ ALL := al_in (i := 0) (by decide +kernel) (by decide +kernel)
set_option maxRecDepth 20000 in
theorem mb_30 : (.code yX0_placeOf cX0_placeOf 4 (some .int) : Cond) ∈ ALL := al_in (i := 65) (by decide +kernel) (by decide +kernel)
set_option maxRecDepth 20000 in
theorem mb_31 : (.methodLink RX0 60 yX0_isAt : Cond) ∈ ALL := al_in (i := 196) (by decide +kernel) (by decide +kernel)
set_option maxRecDepth 20000 in
theorem mb_32 : (.instanceMethod yX0_isAt : Cond) ∈ ALL := al_in (i := 198) (by decide +kernel) (by decide +kernel)
set_option maxRecDepth 20000 in
theorem mb_33 : (.selects RX0 yX0_isAt yX0_isAt : Cond) ∈ ALL := al_in (i := 4) (by decide +kernel) (by decide +kernel)
set_option maxRecDepth 20000 in
theorem mb_34 : (.code yX0_isAt cX0_isAt 4 (some .boolean) : Cond) ∈ ALL := al_in (i := 199) (by decide +kernel) (by decide +kernel)
set_option maxRecDepth 20000 in
theorem mb_35 : (.methodLink RX0 86 yX0_openGap : Cond) ∈ ALL := al_in (i := 201) (by decide +kernel) (by decide +kernel)
set_option maxRecDepth 20000 in
theorem mb_36 : (.instanceMethod yX0_openGap : Cond) ∈ ALL := al_in (i := 203) (by decide +kernel) (by decide +kernel)
set_option maxRecDepth 20000 in
theorem mb_37 : (.selects RX0 yX0_openGap yX0_openGap : Cond) ∈ ALL := al_in (i := 5) (by decide +kernel) (by decide +kernel)
set_option maxRecDepth 20000 in
theorem mb_38 : (.code yX0_openGap cX0_openGap 3 none : Cond) ∈ ALL := al_in (i := 204) (by decide +kernel) (by decide +kernel)
set_option maxRecDepth 20000 in
theorem mb_39 : (.methodLink RX0 69 yX0_closeGap : Cond) ∈ ALL := al_in (i := 221) (by decide +kernel) (by decide +kernel)
set_option maxRecDepth 20000 in
theorem mb_40 : (.instanceMethod yX0_closeGap : Cond) ∈ ALL := al_in (i := 223) (by decide +kernel) (by decide +kernel)
set_option maxRecDepth 20000 in
theorem mb_41 : (.selects RX0 yX0_closeGap yX0_closeGap : Cond) ∈ ALL := al_in (i := 6) (by decide +kernel) (by decide +kernel)
set_option maxRecDepth 20000 in
theorem mb_42 : (.code yX0_closeGap cX0_closeGap 3 none : Cond) ∈ ALL := al_in (i := 224) (by decide +kernel) (by decide +kernel)
set_option maxRecDepth 20000 in
theorem mb_43 : (.methodLink RX0 56 yX0_finishPut : Cond) ∈ ALL := al_in (i := 192) (by decide +kernel) (by decide +kernel)
set_option maxRecDepth 20000 in
theorem mb_44 : (.instanceMethod yX0_finishPut : Cond) ∈ ALL := al_in (i := 194) (by decide +kernel) (by decide +kernel)
set_option maxRecDepth 20000 in
theorem mb_45 : (.selects RX0 yX0_finishPut yX0_finishPut : Cond) ∈ ALL := al_in (i := 3) (by decide +kernel) (by decide +kernel)
set_option maxRecDepth 20000 in
theorem mb_46 : (.code yX0_finishPut cX0_finishPut 4 (some .long) : Cond) ∈ ALL := al_in (i := 195) (by decide +kernel) (by decide +kernel)
set_option maxRecDepth 20000 in
theorem mb_47 : (.fieldLink RX1 26 "LinkedIndexModel" "code" "I" : Cond) ∈ ALL := al_in (i := 286) (by decide +kernel) (by decide +kernel)
set_option maxRecDepth 20000 in
theorem mb_48 : (.methodLink RX1 30 yX1_isSlot : Cond) ∈ ALL := al_in (i := 316) (by decide +kernel) (by decide +kernel)
set_option maxRecDepth 20000 in
theorem mb_49 : (.static yX1_isSlot : Cond) ∈ ALL := al_in (i := 317) (by decide +kernel) (by decide +kernel)
set_option maxRecDepth 20000 in
theorem mb_50 : (.initialized RX1 : Cond) ∈ ALL := al_in (i := 13) (by decide +kernel) (by decide +kernel)
set_option maxRecDepth 20000 in
theorem mb_51 : (.code yX1_isSlot cX1_isSlot 1 (some .boolean) : Cond) ∈ ALL := al_in (i := 318) (by decide +kernel) (by decide +kernel)
set_option maxRecDepth 20000 in
theorem mb_52 : (.fieldLink RX1 16 "LinkedIndexModel" "kinds" "[I" : Cond) ∈ ALL := al_in (i := 290) (by decide +kernel) (by decide +kernel)
set_option maxRecDepth 20000 in
theorem mb_53 : (.fieldLink RX1 20 "LinkedIndexModel" "asked" "[J" : Cond) ∈ ALL := al_in (i := 291) (by decide +kernel) (by decide +kernel)
set_option maxRecDepth 20000 in
theorem mb_54 : (.fieldLink RX1 23 "LinkedIndexModel" "given" "[J" : Cond) ∈ ALL := al_in (i := 292) (by decide +kernel) (by decide +kernel)
set_option maxRecDepth 20000 in
theorem mb_55 : (.fieldLink RX1 34 "LinkedIndexModel" "size" "I" : Cond) ∈ ALL := al_in (i := 287) (by decide +kernel) (by decide +kernel)
set_option maxRecDepth 20000 in
theorem mb_56 : (.fieldLink RX1 7 "LinkedIndexModel" "keys" "[J" : Cond) ∈ ALL := al_in (i := 288) (by decide +kernel) (by decide +kernel)
set_option maxRecDepth 20000 in
theorem mb_57 : (.fieldLink RX1 13 "LinkedIndexModel" "values" "[J" : Cond) ∈ ALL := al_in (i := 289) (by decide +kernel) (by decide +kernel)
set_option maxRecDepth 20000 in
theorem mb_58 : (.methodLink RX1 37 yX1_rank : Cond) ∈ ALL := al_in (i := 327) (by decide +kernel) (by decide +kernel)
set_option maxRecDepth 20000 in
theorem mb_59 : (.instanceMethod yX1_rank : Cond) ∈ ALL := al_in (i := 329) (by decide +kernel) (by decide +kernel)
set_option maxRecDepth 20000 in
theorem mb_60 : (.selects RX1 yX1_rank yX1_rank : Cond) ∈ ALL := al_in (i := 8) (by decide +kernel) (by decide +kernel)
set_option maxRecDepth 20000 in
theorem mb_61 : (.code yX1_rank cX1_rank 4 (some .int) : Cond) ∈ ALL := al_in (i := 330) (by decide +kernel) (by decide +kernel)
set_option maxRecDepth 20000 in
theorem mb_62 : (.methodLink RX1 41 yX1_put : Cond) ∈ ALL := al_in (i := 331) (by decide +kernel) (by decide +kernel)
set_option maxRecDepth 20000 in
theorem mb_63 : (.instanceMethod yX1_put : Cond) ∈ ALL := al_in (i := 333) (by decide +kernel) (by decide +kernel)
set_option maxRecDepth 20000 in
theorem mb_64 : (.selects RX1 yX1_put yX1_put : Cond) ∈ ALL := al_in (i := 9) (by decide +kernel) (by decide +kernel)
set_option maxRecDepth 20000 in
theorem mb_65 : (.code yX1_put cX1_put 8 (some .long) : Cond) ∈ ALL := al_in (i := 334) (by decide +kernel) (by decide +kernel)
set_option maxRecDepth 20000 in
theorem mb_66 : (.methodLink RX1 45 yX1_take : Cond) ∈ ALL := al_in (i := 335) (by decide +kernel) (by decide +kernel)
set_option maxRecDepth 20000 in
theorem mb_67 : (.instanceMethod yX1_take : Cond) ∈ ALL := al_in (i := 337) (by decide +kernel) (by decide +kernel)
set_option maxRecDepth 20000 in
theorem mb_68 : (.selects RX1 yX1_take yX1_take : Cond) ∈ ALL := al_in (i := 10) (by decide +kernel) (by decide +kernel)
set_option maxRecDepth 20000 in
theorem mb_69 : (.code yX1_take cX1_take 5 (some .long) : Cond) ∈ ALL := al_in (i := 338) (by decide +kernel) (by decide +kernel)
set_option maxRecDepth 20000 in
theorem mb_70 : (.methodLink RL 7 yX0_begin : Cond) ∈ ALL := al_in (i := 75) (by decide +kernel) (by decide +kernel)
set_option maxRecDepth 20000 in
theorem mb_71 : (.instanceMethod yX0_begin : Cond) ∈ ALL := al_in (i := 76) (by decide +kernel) (by decide +kernel)
set_option maxRecDepth 20000 in
theorem mb_72 : (.selects RX0 yX0_begin yX0_begin : Cond) ∈ ALL := al_in (i := 77) (by decide +kernel) (by decide +kernel)
set_option maxRecDepth 20000 in
theorem mb_73 : (.code yX0_begin cX0_begin 7 none : Cond) ∈ ALL := al_in (i := 78) (by decide +kernel) (by decide +kernel)
set_option maxRecDepth 20000 in
theorem mb_74 : (.classLink RL 13 "java/lang/IllegalArgumentException" : Cond) ∈ ALL := al_in (i := 73) (by decide +kernel) (by decide +kernel)
set_option maxRecDepth 20000 in
theorem mb_75 : (.classLink RL 15 "java/lang/IllegalStateException" : Cond) ∈ ALL := al_in (i := 74) (by decide +kernel) (by decide +kernel)
set_option maxRecDepth 20000 in
theorem mb_76 : (.methodLink RL 17 yX0_step : Cond) ∈ ALL := al_in (i := 171) (by decide +kernel) (by decide +kernel)
set_option maxRecDepth 20000 in
theorem mb_77 : (.instanceMethod yX0_step : Cond) ∈ ALL := al_in (i := 172) (by decide +kernel) (by decide +kernel)
set_option maxRecDepth 20000 in
theorem mb_78 : (.selects RX0 yX0_step yX0_step : Cond) ∈ ALL := al_in (i := 173) (by decide +kernel) (by decide +kernel)
set_option maxRecDepth 20000 in
theorem mb_79 : (.code yX0_step cX0_step 3 none : Cond) ∈ ALL := al_in (i := 174) (by decide +kernel) (by decide +kernel)
set_option maxRecDepth 20000 in
theorem mb_80 : (.methodLink RL 21 yX0_finish : Cond) ∈ ALL := al_in (i := 188) (by decide +kernel) (by decide +kernel)
set_option maxRecDepth 20000 in
theorem mb_81 : (.instanceMethod yX0_finish : Cond) ∈ ALL := al_in (i := 189) (by decide +kernel) (by decide +kernel)
set_option maxRecDepth 20000 in
theorem mb_82 : (.selects RX0 yX0_finish yX0_finish : Cond) ∈ ALL := al_in (i := 190) (by decide +kernel) (by decide +kernel)
set_option maxRecDepth 20000 in
theorem mb_83 : (.code yX0_finish cX0_finish 7 (some .long) : Cond) ∈ ALL := al_in (i := 191) (by decide +kernel) (by decide +kernel)
set_option maxRecDepth 20000 in
theorem mb_84 : (.classLink RL 25 "java/util/NoSuchElementException" : Cond) ∈ ALL := al_in (i := 187) (by decide +kernel) (by decide +kernel)
set_option maxRecDepth 20000 in
theorem mb_85 : (.methodLink RL 27 yX0_drop : Cond) ∈ ALL := al_in (i := 228) (by decide +kernel) (by decide +kernel)
set_option maxRecDepth 20000 in
theorem mb_86 : (.instanceMethod yX0_drop : Cond) ∈ ALL := al_in (i := 229) (by decide +kernel) (by decide +kernel)
set_option maxRecDepth 20000 in
theorem mb_87 : (.selects RX0 yX0_drop yX0_drop : Cond) ∈ ALL := al_in (i := 230) (by decide +kernel) (by decide +kernel)
set_option maxRecDepth 20000 in
theorem mb_88 : (.code yX0_drop cX0_drop 3 (some .boolean) : Cond) ∈ ALL := al_in (i := 231) (by decide +kernel) (by decide +kernel)
set_option maxRecDepth 20000 in
theorem mb_89 : (.methodLink RL 31 yX0_tidy : Cond) ∈ ALL := al_in (i := 235) (by decide +kernel) (by decide +kernel)
set_option maxRecDepth 20000 in
theorem mb_90 : (.instanceMethod yX0_tidy : Cond) ∈ ALL := al_in (i := 236) (by decide +kernel) (by decide +kernel)
set_option maxRecDepth 20000 in
theorem mb_91 : (.selects RX0 yX0_tidy yX0_tidy : Cond) ∈ ALL := al_in (i := 237) (by decide +kernel) (by decide +kernel)
set_option maxRecDepth 20000 in
theorem mb_92 : (.code yX0_tidy cX0_tidy 2 none : Cond) ∈ ALL := al_in (i := 238) (by decide +kernel) (by decide +kernel)
set_option maxRecDepth 20000 in
theorem mb_93 : (.methodLink RL 35 yX0_kind : Cond) ∈ ALL := al_in (i := 242) (by decide +kernel) (by decide +kernel)
set_option maxRecDepth 20000 in
theorem mb_94 : (.instanceMethod yX0_kind : Cond) ∈ ALL := al_in (i := 243) (by decide +kernel) (by decide +kernel)
set_option maxRecDepth 20000 in
theorem mb_95 : (.selects RX0 yX0_kind yX0_kind : Cond) ∈ ALL := al_in (i := 244) (by decide +kernel) (by decide +kernel)
set_option maxRecDepth 20000 in
theorem mb_96 : (.code yX0_kind cX0_kind 2 (some .int) : Cond) ∈ ALL := al_in (i := 245) (by decide +kernel) (by decide +kernel)
set_option maxRecDepth 20000 in
theorem mb_97 : (.methodLink RL 39 yX0_key : Cond) ∈ ALL := al_in (i := 250) (by decide +kernel) (by decide +kernel)
set_option maxRecDepth 20000 in
theorem mb_98 : (.instanceMethod yX0_key : Cond) ∈ ALL := al_in (i := 251) (by decide +kernel) (by decide +kernel)
set_option maxRecDepth 20000 in
theorem mb_99 : (.selects RX0 yX0_key yX0_key : Cond) ∈ ALL := al_in (i := 252) (by decide +kernel) (by decide +kernel)
set_option maxRecDepth 20000 in
theorem mb_100 : (.code yX0_key cX0_key 2 (some .long) : Cond) ∈ ALL := al_in (i := 253) (by decide +kernel) (by decide +kernel)
set_option maxRecDepth 20000 in
theorem mb_101 : (.classLink RL 42 "java/lang/IndexOutOfBoundsException" : Cond) ∈ ALL := al_in (i := 249) (by decide +kernel) (by decide +kernel)
set_option maxRecDepth 20000 in
theorem mb_102 : (.methodLink RL 44 yX0_value : Cond) ∈ ALL := al_in (i := 276) (by decide +kernel) (by decide +kernel)
set_option maxRecDepth 20000 in
theorem mb_103 : (.instanceMethod yX0_value : Cond) ∈ ALL := al_in (i := 277) (by decide +kernel) (by decide +kernel)
set_option maxRecDepth 20000 in
theorem mb_104 : (.selects RX0 yX0_value yX0_value : Cond) ∈ ALL := al_in (i := 278) (by decide +kernel) (by decide +kernel)
set_option maxRecDepth 20000 in
theorem mb_105 : (.code yX0_value cX0_value 2 (some .long) : Cond) ∈ ALL := al_in (i := 279) (by decide +kernel) (by decide +kernel)
set_option maxRecDepth 20000 in
theorem mb_106 : (.methodLink RX0 1 objectInit : Cond) ∈ ALL := al_in (i := 26) (by decide +kernel) (by decide +kernel)
set_option maxRecDepth 20000 in
theorem mb_107 : (.instanceMethod objectInit : Cond) ∈ ALL := al_in (i := 27) (by decide +kernel) (by decide +kernel)
set_option maxRecDepth 20000 in
theorem mb_108 : (.code objectInit ⟨#[0xb1]⟩ 1 none : Cond) ∈ ALL := al_in (i := 28) (by decide +kernel) (by decide +kernel)
set_option maxRecDepth 20000 in
theorem mb_109 : (.arrayClass .long : Cond) ∈ ALL := al_in (i := 48) (by decide +kernel) (by decide +kernel)
set_option maxRecDepth 20000 in
theorem mb_110 : (.arrayClass .int : Cond) ∈ ALL := al_in (i := 49) (by decide +kernel) (by decide +kernel)
set_option maxRecDepth 20000 in
theorem mb_111 : (.methodLink RX1 1 objectInit : Cond) ∈ ALL := al_in (i := 285) (by decide +kernel) (by decide +kernel)
set_option maxRecDepth 20000 in
theorem mb_112 : (.constantLong RL 51 (4294967295) : Cond) ∈ ALL := al_in (i := 375) (by decide +kernel) (by decide +kernel)
set_option maxRecDepth 20000 in
theorem mb_113 : (.methodLink RL 53 yL_begin : Cond) ∈ ALL := al_in (i := 70) (by decide +kernel) (by decide +kernel)
set_option maxRecDepth 20000 in
theorem mb_114 : (.static yL_begin : Cond) ∈ ALL := al_in (i := 71) (by decide +kernel) (by decide +kernel)
set_option maxRecDepth 20000 in
theorem mb_115 : (.initialized RL : Cond) ∈ ALL := al_in (i := 11) (by decide +kernel) (by decide +kernel)
set_option maxRecDepth 20000 in
theorem mb_116 : (.codeWith yL_begin cL_begin 8 (some .int) [(0, 9, 12, 13), (0, 9, 16, 15)] : Cond) ∈ ALL := al_in (i := 72) (by decide +kernel) (by decide +kernel)
set_option maxRecDepth 20000 in
theorem mb_117 : (.methodLink RL 58 yX1_begin : Cond) ∈ ALL := al_in (i := 312) (by decide +kernel) (by decide +kernel)
set_option maxRecDepth 20000 in
theorem mb_118 : (.instanceMethod yX1_begin : Cond) ∈ ALL := al_in (i := 313) (by decide +kernel) (by decide +kernel)
set_option maxRecDepth 20000 in
theorem mb_119 : (.selects RX1 yX1_begin yX1_begin : Cond) ∈ ALL := al_in (i := 314) (by decide +kernel) (by decide +kernel)
set_option maxRecDepth 20000 in
theorem mb_120 : (.code yX1_begin cX1_begin 7 none : Cond) ∈ ALL := al_in (i := 315) (by decide +kernel) (by decide +kernel)
set_option maxRecDepth 20000 in
theorem mb_121 : (.methodLink RL 59 yX1_thrown : Cond) ∈ ALL := al_in (i := 308) (by decide +kernel) (by decide +kernel)
set_option maxRecDepth 20000 in
theorem mb_122 : (.instanceMethod yX1_thrown : Cond) ∈ ALL := al_in (i := 309) (by decide +kernel) (by decide +kernel)
set_option maxRecDepth 20000 in
theorem mb_123 : (.selects RX1 yX1_thrown yX1_thrown : Cond) ∈ ALL := al_in (i := 310) (by decide +kernel) (by decide +kernel)
set_option maxRecDepth 20000 in
theorem mb_124 : (.code yX1_thrown cX1_thrown 1 (some .int) : Cond) ∈ ALL := al_in (i := 311) (by decide +kernel) (by decide +kernel)
set_option maxRecDepth 20000 in
theorem mb_125 : (.methodLink RL 63 yL_step : Cond) ∈ ALL := al_in (i := 168) (by decide +kernel) (by decide +kernel)
set_option maxRecDepth 20000 in
theorem mb_126 : (.static yL_step : Cond) ∈ ALL := al_in (i := 169) (by decide +kernel) (by decide +kernel)
set_option maxRecDepth 20000 in
theorem mb_127 : (.codeWith yL_step cL_step 4 (some .int) [(0, 6, 9, 13), (0, 6, 12, 15)] : Cond) ∈ ALL := al_in (i := 170) (by decide +kernel) (by decide +kernel)
set_option maxRecDepth 20000 in
theorem mb_128 : (.methodLink RL 66 yX1_step : Cond) ∈ ALL := al_in (i := 319) (by decide +kernel) (by decide +kernel)
set_option maxRecDepth 20000 in
theorem mb_129 : (.instanceMethod yX1_step : Cond) ∈ ALL := al_in (i := 320) (by decide +kernel) (by decide +kernel)
set_option maxRecDepth 20000 in
theorem mb_130 : (.selects RX1 yX1_step yX1_step : Cond) ∈ ALL := al_in (i := 321) (by decide +kernel) (by decide +kernel)
set_option maxRecDepth 20000 in
theorem mb_131 : (.code yX1_step cX1_step 3 none : Cond) ∈ ALL := al_in (i := 322) (by decide +kernel) (by decide +kernel)
set_option maxRecDepth 20000 in
theorem mb_132 : (.methodLink RL 67 yL_finish : Cond) ∈ ALL := al_in (i := 184) (by decide +kernel) (by decide +kernel)
set_option maxRecDepth 20000 in
theorem mb_133 : (.static yL_finish : Cond) ∈ ALL := al_in (i := 185) (by decide +kernel) (by decide +kernel)
set_option maxRecDepth 20000 in
theorem mb_134 : (.codeWith yL_finish cL_finish 4 (some .int) [(0, 8, 11, 13), (0, 8, 14, 15), (0, 8, 17, 25)] : Cond) ∈ ALL := al_in (i := 186) (by decide +kernel) (by decide +kernel)
set_option maxRecDepth 20000 in
theorem mb_135 : (.methodLink RL 70 yX1_finish : Cond) ∈ ALL := al_in (i := 323) (by decide +kernel) (by decide +kernel)
set_option maxRecDepth 20000 in
theorem mb_136 : (.instanceMethod yX1_finish : Cond) ∈ ALL := al_in (i := 324) (by decide +kernel) (by decide +kernel)
set_option maxRecDepth 20000 in
theorem mb_137 : (.selects RX1 yX1_finish yX1_finish : Cond) ∈ ALL := al_in (i := 325) (by decide +kernel) (by decide +kernel)
set_option maxRecDepth 20000 in
theorem mb_138 : (.code yX1_finish cX1_finish 8 (some .long) : Cond) ∈ ALL := al_in (i := 326) (by decide +kernel) (by decide +kernel)
set_option maxRecDepth 20000 in
theorem mb_139 : (.methodLink RL 71 yL_drop : Cond) ∈ ALL := al_in (i := 225) (by decide +kernel) (by decide +kernel)
set_option maxRecDepth 20000 in
theorem mb_140 : (.static yL_drop : Cond) ∈ ALL := al_in (i := 226) (by decide +kernel) (by decide +kernel)
set_option maxRecDepth 20000 in
theorem mb_141 : (.codeWith yL_drop cL_drop 4 (some .int) [(0, 16, 19, 13)] : Cond) ∈ ALL := al_in (i := 227) (by decide +kernel) (by decide +kernel)
set_option maxRecDepth 20000 in
theorem mb_142 : (.methodLink RL 73 yX1_drop : Cond) ∈ ALL := al_in (i := 339) (by decide +kernel) (by decide +kernel)
set_option maxRecDepth 20000 in
theorem mb_143 : (.instanceMethod yX1_drop : Cond) ∈ ALL := al_in (i := 340) (by decide +kernel) (by decide +kernel)
set_option maxRecDepth 20000 in
theorem mb_144 : (.selects RX1 yX1_drop yX1_drop : Cond) ∈ ALL := al_in (i := 341) (by decide +kernel) (by decide +kernel)
set_option maxRecDepth 20000 in
theorem mb_145 : (.code yX1_drop cX1_drop 3 (some .boolean) : Cond) ∈ ALL := al_in (i := 342) (by decide +kernel) (by decide +kernel)
set_option maxRecDepth 20000 in
theorem mb_146 : (.methodLink RL 74 yL_tidy : Cond) ∈ ALL := al_in (i := 232) (by decide +kernel) (by decide +kernel)
set_option maxRecDepth 20000 in
theorem mb_147 : (.static yL_tidy : Cond) ∈ ALL := al_in (i := 233) (by decide +kernel) (by decide +kernel)
set_option maxRecDepth 20000 in
theorem mb_148 : (.codeWith yL_tidy cL_tidy 3 (some .int) [(0, 5, 8, 13)] : Cond) ∈ ALL := al_in (i := 234) (by decide +kernel) (by decide +kernel)
set_option maxRecDepth 20000 in
theorem mb_149 : (.methodLink RL 77 yX1_tidy : Cond) ∈ ALL := al_in (i := 343) (by decide +kernel) (by decide +kernel)
set_option maxRecDepth 20000 in
theorem mb_150 : (.instanceMethod yX1_tidy : Cond) ∈ ALL := al_in (i := 344) (by decide +kernel) (by decide +kernel)
set_option maxRecDepth 20000 in
theorem mb_151 : (.selects RX1 yX1_tidy yX1_tidy : Cond) ∈ ALL := al_in (i := 345) (by decide +kernel) (by decide +kernel)
set_option maxRecDepth 20000 in
theorem mb_152 : (.code yX1_tidy cX1_tidy 2 none : Cond) ∈ ALL := al_in (i := 346) (by decide +kernel) (by decide +kernel)
set_option maxRecDepth 20000 in
theorem mb_153 : (.methodLink RL 78 yX0_crash : Cond) ∈ ALL := al_in (i := 50) (by decide +kernel) (by decide +kernel)
set_option maxRecDepth 20000 in
theorem mb_154 : (.instanceMethod yX0_crash : Cond) ∈ ALL := al_in (i := 51) (by decide +kernel) (by decide +kernel)
set_option maxRecDepth 20000 in
theorem mb_155 : (.selects RX0 yX0_crash yX0_crash : Cond) ∈ ALL := al_in (i := 52) (by decide +kernel) (by decide +kernel)
set_option maxRecDepth 20000 in
theorem mb_156 : (.code yX0_crash cX0_crash 3 (some .int) : Cond) ∈ ALL := al_in (i := 53) (by decide +kernel) (by decide +kernel)
set_option maxRecDepth 20000 in
theorem mb_157 : (.methodLink RL 81 yX1_crash : Cond) ∈ ALL := al_in (i := 347) (by decide +kernel) (by decide +kernel)
set_option maxRecDepth 20000 in
theorem mb_158 : (.instanceMethod yX1_crash : Cond) ∈ ALL := al_in (i := 348) (by decide +kernel) (by decide +kernel)
set_option maxRecDepth 20000 in
theorem mb_159 : (.selects RX1 yX1_crash yX1_crash : Cond) ∈ ALL := al_in (i := 349) (by decide +kernel) (by decide +kernel)
set_option maxRecDepth 20000 in
theorem mb_160 : (.code yX1_crash cX1_crash 3 (some .int) : Cond) ∈ ALL := al_in (i := 350) (by decide +kernel) (by decide +kernel)
set_option maxRecDepth 20000 in
theorem mb_161 : (.methodLink RL 82 yL_kind : Cond) ∈ ALL := al_in (i := 239) (by decide +kernel) (by decide +kernel)
set_option maxRecDepth 20000 in
theorem mb_162 : (.static yL_kind : Cond) ∈ ALL := al_in (i := 240) (by decide +kernel) (by decide +kernel)
set_option maxRecDepth 20000 in
theorem mb_163 : (.codeWith yL_kind cL_kind 4 (some .int) [(0, 9, 12, 13)] : Cond) ∈ ALL := al_in (i := 241) (by decide +kernel) (by decide +kernel)
set_option maxRecDepth 20000 in
theorem mb_164 : (.methodLink RL 84 yX1_kind : Cond) ∈ ALL := al_in (i := 351) (by decide +kernel) (by decide +kernel)
set_option maxRecDepth 20000 in
theorem mb_165 : (.instanceMethod yX1_kind : Cond) ∈ ALL := al_in (i := 352) (by decide +kernel) (by decide +kernel)
set_option maxRecDepth 20000 in
theorem mb_166 : (.selects RX1 yX1_kind yX1_kind : Cond) ∈ ALL := al_in (i := 353) (by decide +kernel) (by decide +kernel)
set_option maxRecDepth 20000 in
theorem mb_167 : (.code yX1_kind cX1_kind 2 (some .int) : Cond) ∈ ALL := al_in (i := 354) (by decide +kernel) (by decide +kernel)
set_option maxRecDepth 20000 in
theorem mb_168 : (.methodLink RL 85 yX0_size : Cond) ∈ ALL := al_in (i := 54) (by decide +kernel) (by decide +kernel)
set_option maxRecDepth 20000 in
theorem mb_169 : (.instanceMethod yX0_size : Cond) ∈ ALL := al_in (i := 55) (by decide +kernel) (by decide +kernel)
set_option maxRecDepth 20000 in
theorem mb_170 : (.selects RX0 yX0_size yX0_size : Cond) ∈ ALL := al_in (i := 56) (by decide +kernel) (by decide +kernel)
set_option maxRecDepth 20000 in
theorem mb_171 : (.code yX0_size cX0_size 1 (some .int) : Cond) ∈ ALL := al_in (i := 57) (by decide +kernel) (by decide +kernel)
set_option maxRecDepth 20000 in
theorem mb_172 : (.methodLink RL 88 yX1_size : Cond) ∈ ALL := al_in (i := 355) (by decide +kernel) (by decide +kernel)
set_option maxRecDepth 20000 in
theorem mb_173 : (.instanceMethod yX1_size : Cond) ∈ ALL := al_in (i := 356) (by decide +kernel) (by decide +kernel)
set_option maxRecDepth 20000 in
theorem mb_174 : (.selects RX1 yX1_size yX1_size : Cond) ∈ ALL := al_in (i := 357) (by decide +kernel) (by decide +kernel)
set_option maxRecDepth 20000 in
theorem mb_175 : (.code yX1_size cX1_size 1 (some .int) : Cond) ∈ ALL := al_in (i := 358) (by decide +kernel) (by decide +kernel)
set_option maxRecDepth 20000 in
theorem mb_176 : (.methodLink RL 95 yX0_count : Cond) ∈ ALL := al_in (i := 58) (by decide +kernel) (by decide +kernel)
set_option maxRecDepth 20000 in
theorem mb_177 : (.instanceMethod yX0_count : Cond) ∈ ALL := al_in (i := 59) (by decide +kernel) (by decide +kernel)
set_option maxRecDepth 20000 in
theorem mb_178 : (.selects RX0 yX0_count yX0_count : Cond) ∈ ALL := al_in (i := 60) (by decide +kernel) (by decide +kernel)
set_option maxRecDepth 20000 in
theorem mb_179 : (.code yX0_count cX0_count 7 (some .int) : Cond) ∈ ALL := al_in (i := 61) (by decide +kernel) (by decide +kernel)
set_option maxRecDepth 20000 in
theorem mb_180 : (.methodLink RL 99 yX1_count : Cond) ∈ ALL := al_in (i := 367) (by decide +kernel) (by decide +kernel)
set_option maxRecDepth 20000 in
theorem mb_181 : (.instanceMethod yX1_count : Cond) ∈ ALL := al_in (i := 368) (by decide +kernel) (by decide +kernel)
set_option maxRecDepth 20000 in
theorem mb_182 : (.selects RX1 yX1_count yX1_count : Cond) ∈ ALL := al_in (i := 369) (by decide +kernel) (by decide +kernel)
set_option maxRecDepth 20000 in
theorem mb_183 : (.code yX1_count cX1_count 7 (some .int) : Cond) ∈ ALL := al_in (i := 370) (by decide +kernel) (by decide +kernel)
set_option maxRecDepth 20000 in
theorem mb_184 : (.methodLink RL 100 yX0_sum : Cond) ∈ ALL := al_in (i := 66) (by decide +kernel) (by decide +kernel)
set_option maxRecDepth 20000 in
theorem mb_185 : (.instanceMethod yX0_sum : Cond) ∈ ALL := al_in (i := 67) (by decide +kernel) (by decide +kernel)
set_option maxRecDepth 20000 in
theorem mb_186 : (.selects RX0 yX0_sum yX0_sum : Cond) ∈ ALL := al_in (i := 68) (by decide +kernel) (by decide +kernel)
set_option maxRecDepth 20000 in
theorem mb_187 : (.code yX0_sum cX0_sum 8 (some .long) : Cond) ∈ ALL := al_in (i := 69) (by decide +kernel) (by decide +kernel)
set_option maxRecDepth 20000 in
theorem mb_188 : (.methodLink RL 104 yX1_sum : Cond) ∈ ALL := al_in (i := 371) (by decide +kernel) (by decide +kernel)
set_option maxRecDepth 20000 in
theorem mb_189 : (.instanceMethod yX1_sum : Cond) ∈ ALL := al_in (i := 372) (by decide +kernel) (by decide +kernel)
set_option maxRecDepth 20000 in
theorem mb_190 : (.selects RX1 yX1_sum yX1_sum : Cond) ∈ ALL := al_in (i := 373) (by decide +kernel) (by decide +kernel)
set_option maxRecDepth 20000 in
theorem mb_191 : (.code yX1_sum cX1_sum 8 (some .long) : Cond) ∈ ALL := al_in (i := 374) (by decide +kernel) (by decide +kernel)
set_option maxRecDepth 20000 in
theorem mb_192 : (.methodLink RL 89 yL_key : Cond) ∈ ALL := al_in (i := 246) (by decide +kernel) (by decide +kernel)
set_option maxRecDepth 20000 in
theorem mb_193 : (.static yL_key : Cond) ∈ ALL := al_in (i := 247) (by decide +kernel) (by decide +kernel)
set_option maxRecDepth 20000 in
theorem mb_194 : (.codeWith yL_key cL_key 4 (some .int) [(0, 8, 11, 42)] : Cond) ∈ ALL := al_in (i := 248) (by decide +kernel) (by decide +kernel)
set_option maxRecDepth 20000 in
theorem mb_195 : (.methodLink RL 91 yX1_key : Cond) ∈ ALL := al_in (i := 359) (by decide +kernel) (by decide +kernel)
set_option maxRecDepth 20000 in
theorem mb_196 : (.instanceMethod yX1_key : Cond) ∈ ALL := al_in (i := 360) (by decide +kernel) (by decide +kernel)
set_option maxRecDepth 20000 in
theorem mb_197 : (.selects RX1 yX1_key yX1_key : Cond) ∈ ALL := al_in (i := 361) (by decide +kernel) (by decide +kernel)
set_option maxRecDepth 20000 in
theorem mb_198 : (.code yX1_key cX1_key 2 (some .long) : Cond) ∈ ALL := al_in (i := 362) (by decide +kernel) (by decide +kernel)
set_option maxRecDepth 20000 in
theorem mb_199 : (.methodLink RL 92 yL_value : Cond) ∈ ALL := al_in (i := 273) (by decide +kernel) (by decide +kernel)
set_option maxRecDepth 20000 in
theorem mb_200 : (.static yL_value : Cond) ∈ ALL := al_in (i := 274) (by decide +kernel) (by decide +kernel)
set_option maxRecDepth 20000 in
theorem mb_201 : (.codeWith yL_value cL_value 4 (some .int) [(0, 8, 11, 42)] : Cond) ∈ ALL := al_in (i := 275) (by decide +kernel) (by decide +kernel)
set_option maxRecDepth 20000 in
theorem mb_202 : (.methodLink RL 94 yX1_value : Cond) ∈ ALL := al_in (i := 363) (by decide +kernel) (by decide +kernel)
set_option maxRecDepth 20000 in
theorem mb_203 : (.instanceMethod yX1_value : Cond) ∈ ALL := al_in (i := 364) (by decide +kernel) (by decide +kernel)
set_option maxRecDepth 20000 in
theorem mb_204 : (.selects RX1 yX1_value yX1_value : Cond) ∈ ALL := al_in (i := 365) (by decide +kernel) (by decide +kernel)
set_option maxRecDepth 20000 in
theorem mb_205 : (.code yX1_value cX1_value 2 (some .long) : Cond) ∈ ALL := al_in (i := 366) (by decide +kernel) (by decide +kernel)
set_option maxRecDepth 20000 in
theorem mb_206 : (.instantiable RX0 6 : Cond) ∈ ALL := al_in (i := 22) (by decide +kernel) (by decide +kernel)
set_option maxRecDepth 20000 in
theorem mb_207 : (.instantiable RX1 7 : Cond) ∈ ALL := al_in (i := 281) (by decide +kernel) (by decide +kernel)
set_option maxRecDepth 20000 in
theorem mb_208 : (.classLink RL 8 RX0 : Cond) ∈ ALL := al_in (i := 21) (by decide +kernel) (by decide +kernel)
set_option maxRecDepth 20000 in
theorem mb_209 : (.code yX0_init cX0_init 2 none : Cond) ∈ ALL := al_in (i := 25) (by decide +kernel) (by decide +kernel)
set_option maxRecDepth 20000 in
theorem mb_210 : (.methodLink RL 47 yX0_init : Cond) ∈ ALL := al_in (i := 23) (by decide +kernel) (by decide +kernel)
set_option maxRecDepth 20000 in
theorem mb_211 : (.instanceMethod yX0_init : Cond) ∈ ALL := al_in (i := 24) (by decide +kernel) (by decide +kernel)
set_option maxRecDepth 20000 in
theorem mb_212 : (.classLink RL 48 RX1 : Cond) ∈ ALL := al_in (i := 280) (by decide +kernel) (by decide +kernel)
set_option maxRecDepth 20000 in
theorem mb_213 : (.code yX1_init cX1_init 1 none : Cond) ∈ ALL := al_in (i := 284) (by decide +kernel) (by decide +kernel)
set_option maxRecDepth 20000 in
theorem mb_214 : (.methodLink RL 50 yX1_init : Cond) ∈ ALL := al_in (i := 282) (by decide +kernel) (by decide +kernel)
set_option maxRecDepth 20000 in
theorem mb_215 : (.instanceMethod yX1_init : Cond) ∈ ALL := al_in (i := 283) (by decide +kernel) (by decide +kernel)
