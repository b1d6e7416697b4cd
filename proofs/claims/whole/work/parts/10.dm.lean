theorem dX1_init_0 : decode cX1_init 0 = .ok (.aload_n 0, 1) := by decide +kernel
theorem dX1_init_1 : decode cX1_init 1 = .ok (.invokespecial 1, 3) := by decide +kernel
theorem dX1_init_4 : decode cX1_init 4 = .ok (.aload_n 0, 1) := by decide +kernel
theorem dX1_init_5 : decode cX1_init 5 = .ok (.bipush 100, 2) := by decide +kernel
theorem dX1_init_7 : decode cX1_init 7 = .ok (.newarray .long, 2) := by decide +kernel
theorem dX1_init_9 : decode cX1_init 9 = .ok (.putfield 7, 3) := by decide +kernel
theorem dX1_init_12 : decode cX1_init 12 = .ok (.aload_n 0, 1) := by decide +kernel
theorem dX1_init_13 : decode cX1_init 13 = .ok (.bipush 100, 2) := by decide +kernel
theorem dX1_init_15 : decode cX1_init 15 = .ok (.newarray .long, 2) := by decide +kernel
theorem dX1_init_17 : decode cX1_init 17 = .ok (.putfield 13, 3) := by decide +kernel
theorem dX1_init_20 : decode cX1_init 20 = .ok (.aload_n 0, 1) := by decide +kernel
theorem dX1_init_21 : decode cX1_init 21 = .ok (.bipush 8, 2) := by decide +kernel
theorem dX1_init_23 : decode cX1_init 23 = .ok (.newarray .int, 2) := by decide +kernel
theorem dX1_init_25 : decode cX1_init 25 = .ok (.putfield 16, 3) := by decide +kernel
theorem dX1_init_28 : decode cX1_init 28 = .ok (.aload_n 0, 1) := by decide +kernel
theorem dX1_init_29 : decode cX1_init 29 = .ok (.bipush 8, 2) := by decide +kernel
theorem dX1_init_31 : decode cX1_init 31 = .ok (.newarray .long, 2) := by decide +kernel
theorem dX1_init_33 : decode cX1_init 33 = .ok (.putfield 20, 3) := by decide +kernel
theorem dX1_init_36 : decode cX1_init 36 = .ok (.aload_n 0, 1) := by decide +kernel
theorem dX1_init_37 : decode cX1_init 37 = .ok (.bipush 8, 2) := by decide +kernel
theorem dX1_init_39 : decode cX1_init 39 = .ok (.newarray .long, 2) := by decide +kernel
theorem dX1_init_41 : decode cX1_init 41 = .ok (.putfield 23, 3) := by decide +kernel
theorem dX1_init_44 : decode cX1_init 44 = .ok (.return_, 1) := by decide +kernel
theorem dX1_thrown_0 : decode cX1_thrown 0 = .ok (.aload_n 0, 1) := by decide +kernel
theorem dX1_thrown_1 : decode cX1_thrown 1 = .ok (.getfield 26, 3) := by decide +kernel
theorem dX1_thrown_4 : decode cX1_thrown 4 = .ok (.ireturn, 1) := by decide +kernel
theorem dX1_begin_0 : decode cX1_begin 0 = .ok (.aload_n 0, 1) := by decide +kernel
theorem dX1_begin_1 : decode cX1_begin 1 = .ok (.iload_n 1, 1) := by decide +kernel
theorem dX1_begin_2 : decode cX1_begin 2 = .ok (.invokestatic 30, 3) := by decide +kernel
theorem dX1_begin_5 : decode cX1_begin 5 = .ok (.ifCond .eq 12, 3) := by decide +kernel
theorem dX1_begin_8 : decode cX1_begin 8 = .ok (.iload_n 2, 1) := by decide +kernel
theorem dX1_begin_9 : decode cX1_begin 9 = .ok (.ifCond .lt 8, 3) := by decide +kernel
theorem dX1_begin_12 : decode cX1_begin 12 = .ok (.iload_n 2, 1) := by decide +kernel
theorem dX1_begin_13 : decode cX1_begin 13 = .ok (.iconst 3, 1) := by decide +kernel
theorem dX1_begin_14 : decode cX1_begin 14 = .ok (.if_icmp .le 7, 3) := by decide +kernel
theorem dX1_begin_17 : decode cX1_begin 17 = .ok (.iconst 1, 1) := by decide +kernel
theorem dX1_begin_18 : decode cX1_begin 18 = .ok (.goto 17, 3) := by decide +kernel
theorem dX1_begin_21 : decode cX1_begin 21 = .ok (.aload_n 0, 1) := by decide +kernel
theorem dX1_begin_22 : decode cX1_begin 22 = .ok (.getfield 16, 3) := by decide +kernel
theorem dX1_begin_25 : decode cX1_begin 25 = .ok (.iload_n 1, 1) := by decide +kernel
theorem dX1_begin_26 : decode cX1_begin 26 = .ok (.iaload, 1) := by decide +kernel
theorem dX1_begin_27 : decode cX1_begin 27 = .ok (.ifCond .le 7, 3) := by decide +kernel
theorem dX1_begin_30 : decode cX1_begin 30 = .ok (.iconst 2, 1) := by decide +kernel
theorem dX1_begin_31 : decode cX1_begin 31 = .ok (.goto 4, 3) := by decide +kernel
theorem dX1_begin_34 : decode cX1_begin 34 = .ok (.iconst 0, 1) := by decide +kernel
theorem dX1_begin_35 : decode cX1_begin 35 = .ok (.putfield 26, 3) := by decide +kernel
theorem dX1_begin_38 : decode cX1_begin 38 = .ok (.aload_n 0, 1) := by decide +kernel
theorem dX1_begin_39 : decode cX1_begin 39 = .ok (.getfield 26, 3) := by decide +kernel
theorem dX1_begin_42 : decode cX1_begin 42 = .ok (.ifCond .ne 27, 3) := by decide +kernel
theorem dX1_begin_45 : decode cX1_begin 45 = .ok (.aload_n 0, 1) := by decide +kernel
theorem dX1_begin_46 : decode cX1_begin 46 = .ok (.getfield 16, 3) := by decide +kernel
theorem dX1_begin_49 : decode cX1_begin 49 = .ok (.iload_n 1, 1) := by decide +kernel
theorem dX1_begin_50 : decode cX1_begin 50 = .ok (.iload_n 2, 1) := by decide +kernel
theorem dX1_begin_51 : decode cX1_begin 51 = .ok (.iconst 1, 1) := by decide +kernel
theorem dX1_begin_52 : decode cX1_begin 52 = .ok (.iadd, 1) := by decide +kernel
theorem dX1_begin_53 : decode cX1_begin 53 = .ok (.iastore, 1) := by decide +kernel
theorem dX1_begin_54 : decode cX1_begin 54 = .ok (.aload_n 0, 1) := by decide +kernel
theorem dX1_begin_55 : decode cX1_begin 55 = .ok (.getfield 20, 3) := by decide +kernel
theorem dX1_begin_58 : decode cX1_begin 58 = .ok (.iload_n 1, 1) := by decide +kernel
theorem dX1_begin_59 : decode cX1_begin 59 = .ok (.lload_n 3, 1) := by decide +kernel
theorem dX1_begin_60 : decode cX1_begin 60 = .ok (.lastore, 1) := by decide +kernel
theorem dX1_begin_61 : decode cX1_begin 61 = .ok (.aload_n 0, 1) := by decide +kernel
theorem dX1_begin_62 : decode cX1_begin 62 = .ok (.getfield 23, 3) := by decide +kernel
theorem dX1_begin_65 : decode cX1_begin 65 = .ok (.iload_n 1, 1) := by decide +kernel
theorem dX1_begin_66 : decode cX1_begin 66 = .ok (.lload 5, 2) := by decide +kernel
theorem dX1_begin_68 : decode cX1_begin 68 = .ok (.lastore, 1) := by decide +kernel
theorem dX1_begin_69 : decode cX1_begin 69 = .ok (.return_, 1) := by decide +kernel
theorem dX1_isSlot_0 : decode cX1_isSlot 0 = .ok (.iload_n 0, 1) := by decide +kernel
theorem dX1_isSlot_1 : decode cX1_isSlot 1 = .ok (.ifCond .lt 13, 3) := by decide +kernel
theorem dX1_isSlot_4 : decode cX1_isSlot 4 = .ok (.iload_n 0, 1) := by decide +kernel
theorem dX1_isSlot_5 : decode cX1_isSlot 5 = .ok (.bipush 7, 2) := by decide +kernel
theorem dX1_isSlot_7 : decode cX1_isSlot 7 = .ok (.if_icmp .gt 7, 3) := by decide +kernel
theorem dX1_isSlot_10 : decode cX1_isSlot 10 = .ok (.iconst 1, 1) := by decide +kernel
theorem dX1_isSlot_11 : decode cX1_isSlot 11 = .ok (.goto 4, 3) := by decide +kernel
theorem dX1_isSlot_14 : decode cX1_isSlot 14 = .ok (.iconst 0, 1) := by decide +kernel
theorem dX1_isSlot_15 : decode cX1_isSlot 15 = .ok (.ireturn, 1) := by decide +kernel
theorem dX1_step_0 : decode cX1_step 0 = .ok (.aload_n 0, 1) := by decide +kernel
theorem dX1_step_1 : decode cX1_step 1 = .ok (.iload_n 1, 1) := by decide +kernel
theorem dX1_step_2 : decode cX1_step 2 = .ok (.invokestatic 30, 3) := by decide +kernel
theorem dX1_step_5 : decode cX1_step 5 = .ok (.ifCond .eq 13, 3) := by decide +kernel
theorem dX1_step_8 : decode cX1_step 8 = .ok (.iload_n 2, 1) := by decide +kernel
theorem dX1_step_9 : decode cX1_step 9 = .ok (.ifCond .lt 9, 3) := by decide +kernel
theorem dX1_step_12 : decode cX1_step 12 = .ok (.iload_n 2, 1) := by decide +kernel
theorem dX1_step_13 : decode cX1_step 13 = .ok (.bipush 20, 2) := by decide +kernel
theorem dX1_step_15 : decode cX1_step 15 = .ok (.if_icmp .le 7, 3) := by decide +kernel
theorem dX1_step_18 : decode cX1_step 18 = .ok (.iconst 1, 1) := by decide +kernel
theorem dX1_step_19 : decode cX1_step 19 = .ok (.goto 17, 3) := by decide +kernel
theorem dX1_step_22 : decode cX1_step 22 = .ok (.aload_n 0, 1) := by decide +kernel
theorem dX1_step_23 : decode cX1_step 23 = .ok (.getfield 16, 3) := by decide +kernel
theorem dX1_step_26 : decode cX1_step 26 = .ok (.iload_n 1, 1) := by decide +kernel
theorem dX1_step_27 : decode cX1_step 27 = .ok (.iaload, 1) := by decide +kernel
theorem dX1_step_28 : decode cX1_step 28 = .ok (.ifCond .ne 7, 3) := by decide +kernel
theorem dX1_step_31 : decode cX1_step 31 = .ok (.iconst 2, 1) := by decide +kernel
theorem dX1_step_32 : decode cX1_step 32 = .ok (.goto 4, 3) := by decide +kernel
theorem dX1_step_35 : decode cX1_step 35 = .ok (.iconst 0, 1) := by decide +kernel
theorem dX1_step_36 : decode cX1_step 36 = .ok (.putfield 26, 3) := by decide +kernel
theorem dX1_step_39 : decode cX1_step 39 = .ok (.return_, 1) := by decide +kernel
theorem dX1_finish_0 : decode cX1_finish 0 = .ok (.aload_n 0, 1) := by decide +kernel
theorem dX1_finish_1 : decode cX1_finish 1 = .ok (.iload_n 1, 1) := by decide +kernel
theorem dX1_finish_2 : decode cX1_finish 2 = .ok (.invokestatic 30, 3) := by decide +kernel
theorem dX1_finish_5 : decode cX1_finish 5 = .ok (.ifCond .ne 7, 3) := by decide +kernel
theorem dX1_finish_8 : decode cX1_finish 8 = .ok (.iconst 1, 1) := by decide +kernel
theorem dX1_finish_9 : decode cX1_finish 9 = .ok (.goto 17, 3) := by decide +kernel
theorem dX1_finish_12 : decode cX1_finish 12 = .ok (.aload_n 0, 1) := by decide +kernel
theorem dX1_finish_13 : decode cX1_finish 13 = .ok (.getfield 16, 3) := by decide +kernel
theorem dX1_finish_16 : decode cX1_finish 16 = .ok (.iload_n 1, 1) := by decide +kernel
theorem dX1_finish_17 : decode cX1_finish 17 = .ok (.iaload, 1) := by decide +kernel
theorem dX1_finish_18 : decode cX1_finish 18 = .ok (.ifCond .ne 7, 3) := by decide +kernel
theorem dX1_finish_21 : decode cX1_finish 21 = .ok (.iconst 2, 1) := by decide +kernel
theorem dX1_finish_22 : decode cX1_finish 22 = .ok (.goto 4, 3) := by decide +kernel
theorem dX1_finish_25 : decode cX1_finish 25 = .ok (.iconst 0, 1) := by decide +kernel
theorem dX1_finish_26 : decode cX1_finish 26 = .ok (.putfield 26, 3) := by decide +kernel
theorem dX1_finish_29 : decode cX1_finish 29 = .ok (.aload_n 0, 1) := by decide +kernel
theorem dX1_finish_30 : decode cX1_finish 30 = .ok (.getfield 26, 3) := by decide +kernel
theorem dX1_finish_33 : decode cX1_finish 33 = .ok (.ifCond .le 5, 3) := by decide +kernel
theorem dX1_finish_36 : decode cX1_finish 36 = .ok (.lconst 0, 1) := by decide +kernel
theorem dX1_finish_37 : decode cX1_finish 37 = .ok (.lreturn, 1) := by decide +kernel
theorem dX1_finish_38 : decode cX1_finish 38 = .ok (.aload_n 0, 1) := by decide +kernel
theorem dX1_finish_39 : decode cX1_finish 39 = .ok (.getfield 16, 3) := by decide +kernel
theorem dX1_finish_42 : decode cX1_finish 42 = .ok (.iload_n 1, 1) := by decide +kernel
theorem dX1_finish_43 : decode cX1_finish 43 = .ok (.iaload, 1) := by decide +kernel
theorem dX1_finish_44 : decode cX1_finish 44 = .ok (.iconst 1, 1) := by decide +kernel
theorem dX1_finish_45 : decode cX1_finish 45 = .ok (.isub, 1) := by decide +kernel
theorem dX1_finish_46 : decode cX1_finish 46 = .ok (.istore_n 2, 1) := by decide +kernel
theorem dX1_finish_47 : decode cX1_finish 47 = .ok (.aload_n 0, 1) := by decide +kernel
theorem dX1_finish_48 : decode cX1_finish 48 = .ok (.getfield 20, 3) := by decide +kernel
theorem dX1_finish_51 : decode cX1_finish 51 = .ok (.iload_n 1, 1) := by decide +kernel
theorem dX1_finish_52 : decode cX1_finish 52 = .ok (.laload, 1) := by decide +kernel
theorem dX1_finish_53 : decode cX1_finish 53 = .ok (.lstore_n 3, 1) := by decide +kernel
theorem dX1_finish_54 : decode cX1_finish 54 = .ok (.aload_n 0, 1) := by decide +kernel
theorem dX1_finish_55 : decode cX1_finish 55 = .ok (.lload_n 3, 1) := by decide +kernel
theorem dX1_finish_56 : decode cX1_finish 56 = .ok (.invokevirtual 37, 3) := by decide +kernel
theorem dX1_finish_59 : decode cX1_finish 59 = .ok (.istore 5, 2) := by decide +kernel
theorem dX1_finish_61 : decode cX1_finish 61 = .ok (.iload 5, 2) := by decide +kernel
theorem dX1_finish_63 : decode cX1_finish 63 = .ok (.aload_n 0, 1) := by decide +kernel
theorem dX1_finish_64 : decode cX1_finish 64 = .ok (.getfield 34, 3) := by decide +kernel
theorem dX1_finish_67 : decode cX1_finish 67 = .ok (.if_icmp .ge 19, 3) := by decide +kernel
theorem dX1_finish_70 : decode cX1_finish 70 = .ok (.aload_n 0, 1) := by decide +kernel
theorem dX1_finish_71 : decode cX1_finish 71 = .ok (.getfield 7, 3) := by decide +kernel
theorem dX1_finish_74 : decode cX1_finish 74 = .ok (.iload 5, 2) := by decide +kernel
theorem dX1_finish_76 : decode cX1_finish 76 = .ok (.laload, 1) := by decide +kernel
theorem dX1_finish_77 : decode cX1_finish 77 = .ok (.lload_n 3, 1) := by decide +kernel
theorem dX1_finish_78 : decode cX1_finish 78 = .ok (.lcmp, 1) := by decide +kernel
theorem dX1_finish_79 : decode cX1_finish 79 = .ok (.ifCond .ne 7, 3) := by decide +kernel
theorem dX1_finish_82 : decode cX1_finish 82 = .ok (.iconst 1, 1) := by decide +kernel
theorem dX1_finish_83 : decode cX1_finish 83 = .ok (.goto 4, 3) := by decide +kernel
theorem dX1_finish_86 : decode cX1_finish 86 = .ok (.iconst 0, 1) := by decide +kernel
theorem dX1_finish_87 : decode cX1_finish 87 = .ok (.istore 6, 2) := by decide +kernel
theorem dX1_finish_89 : decode cX1_finish 89 = .ok (.iload_n 2, 1) := by decide +kernel
theorem dX1_finish_90 : decode cX1_finish 90 = .ok (.iconst 1, 1) := by decide +kernel
theorem dX1_finish_91 : decode cX1_finish 91 = .ok (.if_icmp .ne 24, 3) := by decide +kernel
theorem dX1_finish_94 : decode cX1_finish 94 = .ok (.iload 6, 2) := by decide +kernel
theorem dX1_finish_96 : decode cX1_finish 96 = .ok (.ifCond .ne 19, 3) := by decide +kernel
theorem dX1_finish_99 : decode cX1_finish 99 = .ok (.aload_n 0, 1) := by decide +kernel
theorem dX1_finish_100 : decode cX1_finish 100 = .ok (.getfield 34, 3) := by decide +kernel
theorem dX1_finish_103 : decode cX1_finish 103 = .ok (.bipush 100, 2) := by decide +kernel
theorem dX1_finish_105 : decode cX1_finish 105 = .ok (.if_icmp .ne 10, 3) := by decide +kernel
theorem dX1_finish_108 : decode cX1_finish 108 = .ok (.aload_n 0, 1) := by decide +kernel
theorem dX1_finish_109 : decode cX1_finish 109 = .ok (.iconst 2, 1) := by decide +kernel
theorem dX1_finish_110 : decode cX1_finish 110 = .ok (.putfield 26, 3) := by decide +kernel
theorem dX1_finish_113 : decode cX1_finish 113 = .ok (.lconst 0, 1) := by decide +kernel
theorem dX1_finish_114 : decode cX1_finish 114 = .ok (.lreturn, 1) := by decide +kernel
theorem dX1_finish_115 : decode cX1_finish 115 = .ok (.aload_n 0, 1) := by decide +kernel
theorem dX1_finish_116 : decode cX1_finish 116 = .ok (.getfield 16, 3) := by decide +kernel
theorem dX1_finish_119 : decode cX1_finish 119 = .ok (.iload_n 1, 1) := by decide +kernel
theorem dX1_finish_120 : decode cX1_finish 120 = .ok (.iconst 0, 1) := by decide +kernel
theorem dX1_finish_121 : decode cX1_finish 121 = .ok (.iastore, 1) := by decide +kernel
theorem dX1_finish_122 : decode cX1_finish 122 = .ok (.iload_n 2, 1) := by decide +kernel
theorem dX1_finish_123 : decode cX1_finish 123 = .ok (.iconst 3, 1) := by decide +kernel
theorem dX1_finish_124 : decode cX1_finish 124 = .ok (.if_icmp .ne 20, 3) := by decide +kernel
theorem dX1_finish_127 : decode cX1_finish 127 = .ok (.iload 5, 2) := by decide +kernel
theorem dX1_finish_129 : decode cX1_finish 129 = .ok (.aload_n 0, 1) := by decide +kernel
theorem dX1_finish_130 : decode cX1_finish 130 = .ok (.getfield 34, 3) := by decide +kernel
theorem dX1_finish_133 : decode cX1_finish 133 = .ok (.if_icmp .ne 7, 3) := by decide +kernel
theorem dX1_finish_136 : decode cX1_finish 136 = .ok (.iconst 1, 1) := by decide +kernel
theorem dX1_finish_137 : decode cX1_finish 137 = .ok (.goto 22, 3) := by decide +kernel
theorem dX1_finish_140 : decode cX1_finish 140 = .ok (.iconst 0, 1) := by decide +kernel
theorem dX1_finish_141 : decode cX1_finish 141 = .ok (.goto 18, 3) := by decide +kernel
theorem dX1_finish_144 : decode cX1_finish 144 = .ok (.iload_n 2, 1) := by decide +kernel
theorem dX1_finish_145 : decode cX1_finish 145 = .ok (.iconst 1, 1) := by decide +kernel
theorem dX1_finish_146 : decode cX1_finish 146 = .ok (.if_icmp .eq 12, 3) := by decide +kernel
theorem dX1_finish_149 : decode cX1_finish 149 = .ok (.iload 6, 2) := by decide +kernel
theorem dX1_finish_151 : decode cX1_finish 151 = .ok (.ifCond .ne 7, 3) := by decide +kernel
theorem dX1_finish_154 : decode cX1_finish 154 = .ok (.iconst 1, 1) := by decide +kernel
theorem dX1_finish_155 : decode cX1_finish 155 = .ok (.goto 4, 3) := by decide +kernel
theorem dX1_finish_158 : decode cX1_finish 158 = .ok (.iconst 0, 1) := by decide +kernel
theorem dX1_finish_159 : decode cX1_finish 159 = .ok (.istore 7, 2) := by decide +kernel
theorem dX1_finish_161 : decode cX1_finish 161 = .ok (.iload 7, 2) := by decide +kernel
theorem dX1_finish_163 : decode cX1_finish 163 = .ok (.ifCond .eq 10, 3) := by decide +kernel
theorem dX1_finish_166 : decode cX1_finish 166 = .ok (.aload_n 0, 1) := by decide +kernel
theorem dX1_finish_167 : decode cX1_finish 167 = .ok (.iconst 3, 1) := by decide +kernel
theorem dX1_finish_168 : decode cX1_finish 168 = .ok (.putfield 26, 3) := by decide +kernel
theorem dX1_finish_171 : decode cX1_finish 171 = .ok (.lconst 0, 1) := by decide +kernel
theorem dX1_finish_172 : decode cX1_finish 172 = .ok (.lreturn, 1) := by decide +kernel
theorem dX1_finish_173 : decode cX1_finish 173 = .ok (.iload_n 2, 1) := by decide +kernel
theorem dX1_finish_174 : decode cX1_finish 174 = .ok (.ifCond .ne 13, 3) := by decide +kernel
theorem dX1_finish_177 : decode cX1_finish 177 = .ok (.aload_n 0, 1) := by decide +kernel
theorem dX1_finish_178 : decode cX1_finish 178 = .ok (.getfield 13, 3) := by decide +kernel
theorem dX1_finish_181 : decode cX1_finish 181 = .ok (.iload 5, 2) := by decide +kernel
theorem dX1_finish_183 : decode cX1_finish 183 = .ok (.laload, 1) := by decide +kernel
theorem dX1_finish_184 : decode cX1_finish 184 = .ok (.goto 47, 3) := by decide +kernel
theorem dX1_finish_187 : decode cX1_finish 187 = .ok (.iload_n 2, 1) := by decide +kernel
theorem dX1_finish_188 : decode cX1_finish 188 = .ok (.iconst 1, 1) := by decide +kernel
theorem dX1_finish_189 : decode cX1_finish 189 = .ok (.if_icmp .ne 21, 3) := by decide +kernel
theorem dX1_finish_192 : decode cX1_finish 192 = .ok (.aload_n 0, 1) := by decide +kernel
theorem dX1_finish_193 : decode cX1_finish 193 = .ok (.iload 5, 2) := by decide +kernel
theorem dX1_finish_195 : decode cX1_finish 195 = .ok (.iload 6, 2) := by decide +kernel
theorem dX1_finish_197 : decode cX1_finish 197 = .ok (.lload_n 3, 1) := by decide +kernel
theorem dX1_finish_198 : decode cX1_finish 198 = .ok (.aload_n 0, 1) := by decide +kernel
theorem dX1_finish_199 : decode cX1_finish 199 = .ok (.getfield 23, 3) := by decide +kernel
theorem dX1_finish_202 : decode cX1_finish 202 = .ok (.iload_n 1, 1) := by decide +kernel
theorem dX1_finish_203 : decode cX1_finish 203 = .ok (.laload, 1) := by decide +kernel
theorem dX1_finish_204 : decode cX1_finish 204 = .ok (.invokevirtual 41, 3) := by decide +kernel
theorem dX1_finish_207 : decode cX1_finish 207 = .ok (.goto 24, 3) := by decide +kernel
theorem dX1_finish_210 : decode cX1_finish 210 = .ok (.iload_n 2, 1) := by decide +kernel
theorem dX1_finish_211 : decode cX1_finish 211 = .ok (.iconst 2, 1) := by decide +kernel
theorem dX1_finish_212 : decode cX1_finish 212 = .ok (.if_icmp .ne 12, 3) := by decide +kernel
theorem dX1_finish_215 : decode cX1_finish 215 = .ok (.aload_n 0, 1) := by decide +kernel
theorem dX1_finish_216 : decode cX1_finish 216 = .ok (.iload 5, 2) := by decide +kernel
theorem dX1_finish_218 : decode cX1_finish 218 = .ok (.invokevirtual 45, 3) := by decide +kernel
theorem dX1_finish_221 : decode cX1_finish 221 = .ok (.goto 10, 3) := by decide +kernel
theorem dX1_finish_224 : decode cX1_finish 224 = .ok (.aload_n 0, 1) := by decide +kernel
theorem dX1_finish_225 : decode cX1_finish 225 = .ok (.getfield 7, 3) := by decide +kernel
theorem dX1_finish_228 : decode cX1_finish 228 = .ok (.iload 5, 2) := by decide +kernel
theorem dX1_finish_230 : decode cX1_finish 230 = .ok (.laload, 1) := by decide +kernel
theorem dX1_finish_231 : decode cX1_finish 231 = .ok (.lreturn, 1) := by decide +kernel
theorem dX1_rank_0 : decode cX1_rank 0 = .ok (.iconst 0, 1) := by decide +kernel
theorem dX1_rank_1 : decode cX1_rank 1 = .ok (.istore_n 3, 1) := by decide +kernel
theorem dX1_rank_2 : decode cX1_rank 2 = .ok (.iload_n 3, 1) := by decide +kernel
theorem dX1_rank_3 : decode cX1_rank 3 = .ok (.aload_n 0, 1) := by decide +kernel
theorem dX1_rank_4 : decode cX1_rank 4 = .ok (.getfield 34, 3) := by decide +kernel
theorem dX1_rank_7 : decode cX1_rank 7 = .ok (.if_icmp .ge 20, 3) := by decide +kernel
theorem dX1_rank_10 : decode cX1_rank 10 = .ok (.aload_n 0, 1) := by decide +kernel
theorem dX1_rank_11 : decode cX1_rank 11 = .ok (.getfield 7, 3) := by decide +kernel
theorem dX1_rank_14 : decode cX1_rank 14 = .ok (.iload_n 3, 1) := by decide +kernel
theorem dX1_rank_15 : decode cX1_rank 15 = .ok (.laload, 1) := by decide +kernel
theorem dX1_rank_16 : decode cX1_rank 16 = .ok (.lload_n 1, 1) := by decide +kernel
theorem dX1_rank_17 : decode cX1_rank 17 = .ok (.lcmp, 1) := by decide +kernel
theorem dX1_rank_18 : decode cX1_rank 18 = .ok (.ifCond .ge 9, 3) := by decide +kernel
theorem dX1_rank_21 : decode cX1_rank 21 = .ok (.iinc 3 1, 3) := by decide +kernel
theorem dX1_rank_24 : decode cX1_rank 24 = .ok (.goto (-22), 3) := by decide +kernel
theorem dX1_rank_27 : decode cX1_rank 27 = .ok (.iload_n 3, 1) := by decide +kernel
theorem dX1_rank_28 : decode cX1_rank 28 = .ok (.ireturn, 1) := by decide +kernel
theorem dX1_put_0 : decode cX1_put 0 = .ok (.iload_n 2, 1) := by decide +kernel
theorem dX1_put_1 : decode cX1_put 1 = .ok (.ifCond .eq 13, 3) := by decide +kernel
theorem dX1_put_4 : decode cX1_put 4 = .ok (.aload_n 0, 1) := by decide +kernel
theorem dX1_put_5 : decode cX1_put 5 = .ok (.getfield 13, 3) := by decide +kernel
theorem dX1_put_8 : decode cX1_put 8 = .ok (.iload_n 1, 1) := by decide +kernel
theorem dX1_put_9 : decode cX1_put 9 = .ok (.lload 5, 2) := by decide +kernel
theorem dX1_put_11 : decode cX1_put 11 = .ok (.lastore, 1) := by decide +kernel
theorem dX1_put_12 : decode cX1_put 12 = .ok (.lconst 1, 1) := by decide +kernel
theorem dX1_put_13 : decode cX1_put 13 = .ok (.lreturn, 1) := by decide +kernel
theorem dX1_put_14 : decode cX1_put 14 = .ok (.aload_n 0, 1) := by decide +kernel
theorem dX1_put_15 : decode cX1_put 15 = .ok (.getfield 34, 3) := by decide +kernel
theorem dX1_put_18 : decode cX1_put 18 = .ok (.istore 7, 2) := by decide +kernel
theorem dX1_put_20 : decode cX1_put 20 = .ok (.iload 7, 2) := by decide +kernel
theorem dX1_put_22 : decode cX1_put 22 = .ok (.iload_n 1, 1) := by decide +kernel
theorem dX1_put_23 : decode cX1_put 23 = .ok (.if_icmp .le 41, 3) := by decide +kernel
theorem dX1_put_26 : decode cX1_put 26 = .ok (.aload_n 0, 1) := by decide +kernel
theorem dX1_put_27 : decode cX1_put 27 = .ok (.getfield 7, 3) := by decide +kernel
theorem dX1_put_30 : decode cX1_put 30 = .ok (.iload 7, 2) := by decide +kernel
theorem dX1_put_32 : decode cX1_put 32 = .ok (.aload_n 0, 1) := by decide +kernel
theorem dX1_put_33 : decode cX1_put 33 = .ok (.getfield 7, 3) := by decide +kernel
theorem dX1_put_36 : decode cX1_put 36 = .ok (.iload 7, 2) := by decide +kernel
theorem dX1_put_38 : decode cX1_put 38 = .ok (.iconst 1, 1) := by decide +kernel
theorem dX1_put_39 : decode cX1_put 39 = .ok (.isub, 1) := by decide +kernel
theorem dX1_put_40 : decode cX1_put 40 = .ok (.laload, 1) := by decide +kernel
theorem dX1_put_41 : decode cX1_put 41 = .ok (.lastore, 1) := by decide +kernel
theorem dX1_put_42 : decode cX1_put 42 = .ok (.aload_n 0, 1) := by decide +kernel
theorem dX1_put_43 : decode cX1_put 43 = .ok (.getfield 13, 3) := by decide +kernel
theorem dX1_put_46 : decode cX1_put 46 = .ok (.iload 7, 2) := by decide +kernel
theorem dX1_put_48 : decode cX1_put 48 = .ok (.aload_n 0, 1) := by decide +kernel
theorem dX1_put_49 : decode cX1_put 49 = .ok (.getfield 13, 3) := by decide +kernel
theorem dX1_put_52 : decode cX1_put 52 = .ok (.iload 7, 2) := by decide +kernel
theorem dX1_put_54 : decode cX1_put 54 = .ok (.iconst 1, 1) := by decide +kernel
theorem dX1_put_55 : decode cX1_put 55 = .ok (.isub, 1) := by decide +kernel
theorem dX1_put_56 : decode cX1_put 56 = .ok (.laload, 1) := by decide +kernel
theorem dX1_put_57 : decode cX1_put 57 = .ok (.lastore, 1) := by decide +kernel
theorem dX1_put_58 : decode cX1_put 58 = .ok (.iinc 7 (-1), 3) := by decide +kernel
theorem dX1_put_61 : decode cX1_put 61 = .ok (.goto (-41), 3) := by decide +kernel
theorem dX1_put_64 : decode cX1_put 64 = .ok (.aload_n 0, 1) := by decide +kernel
theorem dX1_put_65 : decode cX1_put 65 = .ok (.getfield 7, 3) := by decide +kernel
theorem dX1_put_68 : decode cX1_put 68 = .ok (.iload_n 1, 1) := by decide +kernel
theorem dX1_put_69 : decode cX1_put 69 = .ok (.lload_n 3, 1) := by decide +kernel
theorem dX1_put_70 : decode cX1_put 70 = .ok (.lastore, 1) := by decide +kernel
theorem dX1_put_71 : decode cX1_put 71 = .ok (.aload_n 0, 1) := by decide +kernel
theorem dX1_put_72 : decode cX1_put 72 = .ok (.getfield 13, 3) := by decide +kernel
theorem dX1_put_75 : decode cX1_put 75 = .ok (.iload_n 1, 1) := by decide +kernel
theorem dX1_put_76 : decode cX1_put 76 = .ok (.lload 5, 2) := by decide +kernel
theorem dX1_put_78 : decode cX1_put 78 = .ok (.lastore, 1) := by decide +kernel
theorem dX1_put_79 : decode cX1_put 79 = .ok (.aload_n 0, 1) := by decide +kernel
theorem dX1_put_80 : decode cX1_put 80 = .ok (.dup, 1) := by decide +kernel
theorem dX1_put_81 : decode cX1_put 81 = .ok (.getfield 34, 3) := by decide +kernel
theorem dX1_put_84 : decode cX1_put 84 = .ok (.iconst 1, 1) := by decide +kernel
theorem dX1_put_85 : decode cX1_put 85 = .ok (.iadd, 1) := by decide +kernel
theorem dX1_put_86 : decode cX1_put 86 = .ok (.putfield 34, 3) := by decide +kernel
theorem dX1_put_89 : decode cX1_put 89 = .ok (.lconst 0, 1) := by decide +kernel
theorem dX1_put_90 : decode cX1_put 90 = .ok (.lreturn, 1) := by decide +kernel
theorem dX1_take_0 : decode cX1_take 0 = .ok (.aload_n 0, 1) := by decide +kernel
theorem dX1_take_1 : decode cX1_take 1 = .ok (.getfield 13, 3) := by decide +kernel
theorem dX1_take_4 : decode cX1_take 4 = .ok (.iload_n 1, 1) := by decide +kernel
theorem dX1_take_5 : decode cX1_take 5 = .ok (.laload, 1) := by decide +kernel
theorem dX1_take_6 : decode cX1_take 6 = .ok (.lstore_n 2, 1) := by decide +kernel
theorem dX1_take_7 : decode cX1_take 7 = .ok (.aload_n 0, 1) := by decide +kernel
theorem dX1_take_8 : decode cX1_take 8 = .ok (.dup, 1) := by decide +kernel
theorem dX1_take_9 : decode cX1_take 9 = .ok (.getfield 34, 3) := by decide +kernel
theorem dX1_take_12 : decode cX1_take 12 = .ok (.iconst 1, 1) := by decide +kernel
theorem dX1_take_13 : decode cX1_take 13 = .ok (.isub, 1) := by decide +kernel
theorem dX1_take_14 : decode cX1_take 14 = .ok (.putfield 34, 3) := by decide +kernel
theorem dX1_take_17 : decode cX1_take 17 = .ok (.iload_n 1, 1) := by decide +kernel
theorem dX1_take_18 : decode cX1_take 18 = .ok (.istore 4, 2) := by decide +kernel
theorem dX1_take_20 : decode cX1_take 20 = .ok (.iload 4, 2) := by decide +kernel
theorem dX1_take_22 : decode cX1_take 22 = .ok (.aload_n 0, 1) := by decide +kernel
theorem dX1_take_23 : decode cX1_take 23 = .ok (.getfield 34, 3) := by decide +kernel
theorem dX1_take_26 : decode cX1_take 26 = .ok (.if_icmp .ge 41, 3) := by decide +kernel
theorem dX1_take_29 : decode cX1_take 29 = .ok (.aload_n 0, 1) := by decide +kernel
theorem dX1_take_30 : decode cX1_take 30 = .ok (.getfield 7, 3) := by decide +kernel
theorem dX1_take_33 : decode cX1_take 33 = .ok (.iload 4, 2) := by decide +kernel
theorem dX1_take_35 : decode cX1_take 35 = .ok (.aload_n 0, 1) := by decide +kernel
theorem dX1_take_36 : decode cX1_take 36 = .ok (.getfield 7, 3) := by decide +kernel
theorem dX1_take_39 : decode cX1_take 39 = .ok (.iload 4, 2) := by decide +kernel
theorem dX1_take_41 : decode cX1_take 41 = .ok (.iconst 1, 1) := by decide +kernel
theorem dX1_take_42 : decode cX1_take 42 = .ok (.iadd, 1) := by decide +kernel
theorem dX1_take_43 : decode cX1_take 43 = .ok (.laload, 1) := by decide +kernel
theorem dX1_take_44 : decode cX1_take 44 = .ok (.lastore, 1) := by decide +kernel
theorem dX1_take_45 : decode cX1_take 45 = .ok (.aload_n 0, 1) := by decide +kernel
theorem dX1_take_46 : decode cX1_take 46 = .ok (.getfield 13, 3) := by decide +kernel
theorem dX1_take_49 : decode cX1_take 49 = .ok (.iload 4, 2) := by decide +kernel
theorem dX1_take_51 : decode cX1_take 51 = .ok (.aload_n 0, 1) := by decide +kernel
theorem dX1_take_52 : decode cX1_take 52 = .ok (.getfield 13, 3) := by decide +kernel
theorem dX1_take_55 : decode cX1_take 55 = .ok (.iload 4, 2) := by decide +kernel
theorem dX1_take_57 : decode cX1_take 57 = .ok (.iconst 1, 1) := by decide +kernel
theorem dX1_take_58 : decode cX1_take 58 = .ok (.iadd, 1) := by decide +kernel
theorem dX1_take_59 : decode cX1_take 59 = .ok (.laload, 1) := by decide +kernel
theorem dX1_take_60 : decode cX1_take 60 = .ok (.lastore, 1) := by decide +kernel
theorem dX1_take_61 : decode cX1_take 61 = .ok (.iinc 4 1, 3) := by decide +kernel
theorem dX1_take_64 : decode cX1_take 64 = .ok (.goto (-44), 3) := by decide +kernel
theorem dX1_take_67 : decode cX1_take 67 = .ok (.lload_n 2, 1) := by decide +kernel
theorem dX1_take_68 : decode cX1_take 68 = .ok (.lreturn, 1) := by decide +kernel
theorem dX1_drop_0 : decode cX1_drop 0 = .ok (.aload_n 0, 1) := by decide +kernel
theorem dX1_drop_1 : decode cX1_drop 1 = .ok (.iload_n 1, 1) := by decide +kernel
theorem dX1_drop_2 : decode cX1_drop 2 = .ok (.invokestatic 30, 3) := by decide +kernel
theorem dX1_drop_5 : decode cX1_drop 5 = .ok (.ifCond .eq 7, 3) := by decide +kernel
theorem dX1_drop_8 : decode cX1_drop 8 = .ok (.iconst 0, 1) := by decide +kernel
theorem dX1_drop_9 : decode cX1_drop 9 = .ok (.goto 4, 3) := by decide +kernel
theorem dX1_drop_12 : decode cX1_drop 12 = .ok (.iconst 1, 1) := by decide +kernel
theorem dX1_drop_13 : decode cX1_drop 13 = .ok (.putfield 26, 3) := by decide +kernel
theorem dX1_drop_16 : decode cX1_drop 16 = .ok (.aload_n 0, 1) := by decide +kernel
theorem dX1_drop_17 : decode cX1_drop 17 = .ok (.getfield 26, 3) := by decide +kernel
theorem dX1_drop_20 : decode cX1_drop 20 = .ok (.ifCond .le 5, 3) := by decide +kernel
theorem dX1_drop_23 : decode cX1_drop 23 = .ok (.iconst 0, 1) := by decide +kernel
theorem dX1_drop_24 : decode cX1_drop 24 = .ok (.ireturn, 1) := by decide +kernel
theorem dX1_drop_25 : decode cX1_drop 25 = .ok (.aload_n 0, 1) := by decide +kernel
theorem dX1_drop_26 : decode cX1_drop 26 = .ok (.getfield 16, 3) := by decide +kernel
theorem dX1_drop_29 : decode cX1_drop 29 = .ok (.iload_n 1, 1) := by decide +kernel
theorem dX1_drop_30 : decode cX1_drop 30 = .ok (.iaload, 1) := by decide +kernel
theorem dX1_drop_31 : decode cX1_drop 31 = .ok (.ifCond .le 7, 3) := by decide +kernel
theorem dX1_drop_34 : decode cX1_drop 34 = .ok (.iconst 1, 1) := by decide +kernel
theorem dX1_drop_35 : decode cX1_drop 35 = .ok (.goto 4, 3) := by decide +kernel
theorem dX1_drop_38 : decode cX1_drop 38 = .ok (.iconst 0, 1) := by decide +kernel
theorem dX1_drop_39 : decode cX1_drop 39 = .ok (.istore_n 2, 1) := by decide +kernel
theorem dX1_drop_40 : decode cX1_drop 40 = .ok (.aload_n 0, 1) := by decide +kernel
theorem dX1_drop_41 : decode cX1_drop 41 = .ok (.getfield 16, 3) := by decide +kernel
theorem dX1_drop_44 : decode cX1_drop 44 = .ok (.iload_n 1, 1) := by decide +kernel
theorem dX1_drop_45 : decode cX1_drop 45 = .ok (.iconst 0, 1) := by decide +kernel
theorem dX1_drop_46 : decode cX1_drop 46 = .ok (.iastore, 1) := by decide +kernel
theorem dX1_drop_47 : decode cX1_drop 47 = .ok (.iload_n 2, 1) := by decide +kernel
theorem dX1_drop_48 : decode cX1_drop 48 = .ok (.ireturn, 1) := by decide +kernel
theorem dX1_tidy_0 : decode cX1_tidy 0 = .ok (.aload_n 0, 1) := by decide +kernel
theorem dX1_tidy_1 : decode cX1_tidy 1 = .ok (.iload_n 1, 1) := by decide +kernel
theorem dX1_tidy_2 : decode cX1_tidy 2 = .ok (.ifCond .lt 9, 3) := by decide +kernel
theorem dX1_tidy_5 : decode cX1_tidy 5 = .ok (.iload_n 1, 1) := by decide +kernel
theorem dX1_tidy_6 : decode cX1_tidy 6 = .ok (.bipush 20, 2) := by decide +kernel
theorem dX1_tidy_8 : decode cX1_tidy 8 = .ok (.if_icmp .le 7, 3) := by decide +kernel
theorem dX1_tidy_11 : decode cX1_tidy 11 = .ok (.iconst 1, 1) := by decide +kernel
theorem dX1_tidy_12 : decode cX1_tidy 12 = .ok (.goto 4, 3) := by decide +kernel
theorem dX1_tidy_15 : decode cX1_tidy 15 = .ok (.iconst 0, 1) := by decide +kernel
theorem dX1_tidy_16 : decode cX1_tidy 16 = .ok (.putfield 26, 3) := by decide +kernel
theorem dX1_tidy_19 : decode cX1_tidy 19 = .ok (.return_, 1) := by decide +kernel
theorem dX1_crash_0 : decode cX1_crash 0 = .ok (.aload_n 0, 1) := by decide +kernel
theorem dX1_crash_1 : decode cX1_crash 1 = .ok (.iconst 0, 1) := by decide +kernel
theorem dX1_crash_2 : decode cX1_crash 2 = .ok (.putfield 26, 3) := by decide +kernel
theorem dX1_crash_5 : decode cX1_crash 5 = .ok (.iconst 0, 1) := by decide +kernel
theorem dX1_crash_6 : decode cX1_crash 6 = .ok (.istore_n 1, 1) := by decide +kernel
theorem dX1_crash_7 : decode cX1_crash 7 = .ok (.iconst 0, 1) := by decide +kernel
theorem dX1_crash_8 : decode cX1_crash 8 = .ok (.istore_n 2, 1) := by decide +kernel
theorem dX1_crash_9 : decode cX1_crash 9 = .ok (.iload_n 2, 1) := by decide +kernel
theorem dX1_crash_10 : decode cX1_crash 10 = .ok (.bipush 8, 2) := by decide +kernel
theorem dX1_crash_12 : decode cX1_crash 12 = .ok (.if_icmp .ge 33, 3) := by decide +kernel
theorem dX1_crash_15 : decode cX1_crash 15 = .ok (.iload_n 1, 1) := by decide +kernel
theorem dX1_crash_16 : decode cX1_crash 16 = .ok (.aload_n 0, 1) := by decide +kernel
theorem dX1_crash_17 : decode cX1_crash 17 = .ok (.getfield 16, 3) := by decide +kernel
theorem dX1_crash_20 : decode cX1_crash 20 = .ok (.iload_n 2, 1) := by decide +kernel
theorem dX1_crash_21 : decode cX1_crash 21 = .ok (.iaload, 1) := by decide +kernel
theorem dX1_crash_22 : decode cX1_crash 22 = .ok (.ifCond .le 7, 3) := by decide +kernel
theorem dX1_crash_25 : decode cX1_crash 25 = .ok (.iconst 1, 1) := by decide +kernel
theorem dX1_crash_26 : decode cX1_crash 26 = .ok (.goto 4, 3) := by decide +kernel
theorem dX1_crash_29 : decode cX1_crash 29 = .ok (.iconst 0, 1) := by decide +kernel
theorem dX1_crash_30 : decode cX1_crash 30 = .ok (.iadd, 1) := by decide +kernel
theorem dX1_crash_31 : decode cX1_crash 31 = .ok (.istore_n 1, 1) := by decide +kernel
theorem dX1_crash_32 : decode cX1_crash 32 = .ok (.aload_n 0, 1) := by decide +kernel
theorem dX1_crash_33 : decode cX1_crash 33 = .ok (.getfield 16, 3) := by decide +kernel
theorem dX1_crash_36 : decode cX1_crash 36 = .ok (.iload_n 2, 1) := by decide +kernel
theorem dX1_crash_37 : decode cX1_crash 37 = .ok (.iconst 0, 1) := by decide +kernel
theorem dX1_crash_38 : decode cX1_crash 38 = .ok (.iastore, 1) := by decide +kernel
theorem dX1_crash_39 : decode cX1_crash 39 = .ok (.iinc 2 1, 3) := by decide +kernel
theorem dX1_crash_42 : decode cX1_crash 42 = .ok (.goto (-33), 3) := by decide +kernel
theorem dX1_crash_45 : decode cX1_crash 45 = .ok (.iload_n 1, 1) := by decide +kernel
theorem dX1_crash_46 : decode cX1_crash 46 = .ok (.ireturn, 1) := by decide +kernel
theorem dX1_kind_0 : decode cX1_kind 0 = .ok (.aload_n 0, 1) := by decide +kernel
theorem dX1_kind_1 : decode cX1_kind 1 = .ok (.iload_n 1, 1) := by decide +kernel
theorem dX1_kind_2 : decode cX1_kind 2 = .ok (.invokestatic 30, 3) := by decide +kernel
theorem dX1_kind_5 : decode cX1_kind 5 = .ok (.ifCond .eq 7, 3) := by decide +kernel
theorem dX1_kind_8 : decode cX1_kind 8 = .ok (.iconst 0, 1) := by decide +kernel
theorem dX1_kind_9 : decode cX1_kind 9 = .ok (.goto 4, 3) := by decide +kernel
theorem dX1_kind_12 : decode cX1_kind 12 = .ok (.iconst 1, 1) := by decide +kernel
theorem dX1_kind_13 : decode cX1_kind 13 = .ok (.putfield 26, 3) := by decide +kernel
theorem dX1_kind_16 : decode cX1_kind 16 = .ok (.aload_n 0, 1) := by decide +kernel
theorem dX1_kind_17 : decode cX1_kind 17 = .ok (.getfield 26, 3) := by decide +kernel
theorem dX1_kind_20 : decode cX1_kind 20 = .ok (.ifCond .ne 14, 3) := by decide +kernel
theorem dX1_kind_23 : decode cX1_kind 23 = .ok (.aload_n 0, 1) := by decide +kernel
theorem dX1_kind_24 : decode cX1_kind 24 = .ok (.getfield 16, 3) := by decide +kernel
theorem dX1_kind_27 : decode cX1_kind 27 = .ok (.iload_n 1, 1) := by decide +kernel
theorem dX1_kind_28 : decode cX1_kind 28 = .ok (.iaload, 1) := by decide +kernel
theorem dX1_kind_29 : decode cX1_kind 29 = .ok (.iconst 1, 1) := by decide +kernel
theorem dX1_kind_30 : decode cX1_kind 30 = .ok (.isub, 1) := by decide +kernel
theorem dX1_kind_31 : decode cX1_kind 31 = .ok (.goto 4, 3) := by decide +kernel
theorem dX1_kind_34 : decode cX1_kind 34 = .ok (.iconst 0, 1) := by decide +kernel
theorem dX1_kind_35 : decode cX1_kind 35 = .ok (.ireturn, 1) := by decide +kernel
theorem dX1_size_0 : decode cX1_size 0 = .ok (.aload_n 0, 1) := by decide +kernel
theorem dX1_size_1 : decode cX1_size 1 = .ok (.iconst 0, 1) := by decide +kernel
theorem dX1_size_2 : decode cX1_size 2 = .ok (.putfield 26, 3) := by decide +kernel
theorem dX1_size_5 : decode cX1_size 5 = .ok (.aload_n 0, 1) := by decide +kernel
theorem dX1_size_6 : decode cX1_size 6 = .ok (.getfield 34, 3) := by decide +kernel
theorem dX1_size_9 : decode cX1_size 9 = .ok (.ireturn, 1) := by decide +kernel
theorem dX1_key_0 : decode cX1_key 0 = .ok (.aload_n 0, 1) := by decide +kernel
theorem dX1_key_1 : decode cX1_key 1 = .ok (.iload_n 1, 1) := by decide +kernel
theorem dX1_key_2 : decode cX1_key 2 = .ok (.ifCond .lt 11, 3) := by decide +kernel
theorem dX1_key_5 : decode cX1_key 5 = .ok (.iload_n 1, 1) := by decide +kernel
theorem dX1_key_6 : decode cX1_key 6 = .ok (.aload_n 0, 1) := by decide +kernel
theorem dX1_key_7 : decode cX1_key 7 = .ok (.getfield 34, 3) := by decide +kernel
theorem dX1_key_10 : decode cX1_key 10 = .ok (.if_icmp .lt 7, 3) := by decide +kernel
theorem dX1_key_13 : decode cX1_key 13 = .ok (.iconst 1, 1) := by decide +kernel
theorem dX1_key_14 : decode cX1_key 14 = .ok (.goto 4, 3) := by decide +kernel
theorem dX1_key_17 : decode cX1_key 17 = .ok (.iconst 0, 1) := by decide +kernel
theorem dX1_key_18 : decode cX1_key 18 = .ok (.putfield 26, 3) := by decide +kernel
theorem dX1_key_21 : decode cX1_key 21 = .ok (.aload_n 0, 1) := by decide +kernel
theorem dX1_key_22 : decode cX1_key 22 = .ok (.getfield 26, 3) := by decide +kernel
theorem dX1_key_25 : decode cX1_key 25 = .ok (.ifCond .ne 12, 3) := by decide +kernel
theorem dX1_key_28 : decode cX1_key 28 = .ok (.aload_n 0, 1) := by decide +kernel
theorem dX1_key_29 : decode cX1_key 29 = .ok (.getfield 7, 3) := by decide +kernel
theorem dX1_key_32 : decode cX1_key 32 = .ok (.iload_n 1, 1) := by decide +kernel
theorem dX1_key_33 : decode cX1_key 33 = .ok (.laload, 1) := by decide +kernel
theorem dX1_key_34 : decode cX1_key 34 = .ok (.goto 4, 3) := by decide +kernel
theorem dX1_key_37 : decode cX1_key 37 = .ok (.lconst 0, 1) := by decide +kernel
theorem dX1_key_38 : decode cX1_key 38 = .ok (.lreturn, 1) := by decide +kernel
theorem dX1_value_0 : decode cX1_value 0 = .ok (.aload_n 0, 1) := by decide +kernel
theorem dX1_value_1 : decode cX1_value 1 = .ok (.iload_n 1, 1) := by decide +kernel
theorem dX1_value_2 : decode cX1_value 2 = .ok (.ifCond .lt 11, 3) := by decide +kernel
theorem dX1_value_5 : decode cX1_value 5 = .ok (.iload_n 1, 1) := by decide +kernel
theorem dX1_value_6 : decode cX1_value 6 = .ok (.aload_n 0, 1) := by decide +kernel
theorem dX1_value_7 : decode cX1_value 7 = .ok (.getfield 34, 3) := by decide +kernel
theorem dX1_value_10 : decode cX1_value 10 = .ok (.if_icmp .lt 7, 3) := by decide +kernel
theorem dX1_value_13 : decode cX1_value 13 = .ok (.iconst 1, 1) := by decide +kernel
theorem dX1_value_14 : decode cX1_value 14 = .ok (.goto 4, 3) := by decide +kernel
theorem dX1_value_17 : decode cX1_value 17 = .ok (.iconst 0, 1) := by decide +kernel
theorem dX1_value_18 : decode cX1_value 18 = .ok (.putfield 26, 3) := by decide +kernel
theorem dX1_value_21 : decode cX1_value 21 = .ok (.aload_n 0, 1) := by decide +kernel
theorem dX1_value_22 : decode cX1_value 22 = .ok (.getfield 26, 3) := by decide +kernel
theorem dX1_value_25 : decode cX1_value 25 = .ok (.ifCond .ne 12, 3) := by decide +kernel
theorem dX1_value_28 : decode cX1_value 28 = .ok (.aload_n 0, 1) := by decide +kernel
theorem dX1_value_29 : decode cX1_value 29 = .ok (.getfield 13, 3) := by decide +kernel
theorem dX1_value_32 : decode cX1_value 32 = .ok (.iload_n 1, 1) := by decide +kernel
theorem dX1_value_33 : decode cX1_value 33 = .ok (.laload, 1) := by decide +kernel
theorem dX1_value_34 : decode cX1_value 34 = .ok (.goto 4, 3) := by decide +kernel
theorem dX1_value_37 : decode cX1_value 37 = .ok (.lconst 0, 1) := by decide +kernel
theorem dX1_value_38 : decode cX1_value 38 = .ok (.lreturn, 1) := by decide +kernel
theorem dX1_count_0 : decode cX1_count 0 = .ok (.aload_n 0, 1) := by decide +kernel
theorem dX1_count_1 : decode cX1_count 1 = .ok (.iconst 0, 1) := by decide +kernel
theorem dX1_count_2 : decode cX1_count 2 = .ok (.putfield 26, 3) := by decide +kernel
theorem dX1_count_5 : decode cX1_count 5 = .ok (.iconst 0, 1) := by decide +kernel
theorem dX1_count_6 : decode cX1_count 6 = .ok (.istore 5, 2) := by decide +kernel
theorem dX1_count_8 : decode cX1_count 8 = .ok (.iconst 0, 1) := by decide +kernel
theorem dX1_count_9 : decode cX1_count 9 = .ok (.istore 6, 2) := by decide +kernel
theorem dX1_count_11 : decode cX1_count 11 = .ok (.iload 6, 2) := by decide +kernel
theorem dX1_count_13 : decode cX1_count 13 = .ok (.aload_n 0, 1) := by decide +kernel
theorem dX1_count_14 : decode cX1_count 14 = .ok (.getfield 34, 3) := by decide +kernel
theorem dX1_count_17 : decode cX1_count 17 = .ok (.if_icmp .ge 43, 3) := by decide +kernel
theorem dX1_count_20 : decode cX1_count 20 = .ok (.iload 5, 2) := by decide +kernel
theorem dX1_count_22 : decode cX1_count 22 = .ok (.aload_n 0, 1) := by decide +kernel
theorem dX1_count_23 : decode cX1_count 23 = .ok (.getfield 7, 3) := by decide +kernel
theorem dX1_count_26 : decode cX1_count 26 = .ok (.iload 6, 2) := by decide +kernel
theorem dX1_count_28 : decode cX1_count 28 = .ok (.laload, 1) := by decide +kernel
theorem dX1_count_29 : decode cX1_count 29 = .ok (.lload_n 1, 1) := by decide +kernel
theorem dX1_count_30 : decode cX1_count 30 = .ok (.lcmp, 1) := by decide +kernel
theorem dX1_count_31 : decode cX1_count 31 = .ok (.ifCond .lt 19, 3) := by decide +kernel
theorem dX1_count_34 : decode cX1_count 34 = .ok (.aload_n 0, 1) := by decide +kernel
theorem dX1_count_35 : decode cX1_count 35 = .ok (.getfield 7, 3) := by decide +kernel
theorem dX1_count_38 : decode cX1_count 38 = .ok (.iload 6, 2) := by decide +kernel
theorem dX1_count_40 : decode cX1_count 40 = .ok (.laload, 1) := by decide +kernel
theorem dX1_count_41 : decode cX1_count 41 = .ok (.lload_n 3, 1) := by decide +kernel
theorem dX1_count_42 : decode cX1_count 42 = .ok (.lcmp, 1) := by decide +kernel
theorem dX1_count_43 : decode cX1_count 43 = .ok (.ifCond .gt 7, 3) := by decide +kernel
theorem dX1_count_46 : decode cX1_count 46 = .ok (.iconst 1, 1) := by decide +kernel
theorem dX1_count_47 : decode cX1_count 47 = .ok (.goto 4, 3) := by decide +kernel
theorem dX1_count_50 : decode cX1_count 50 = .ok (.iconst 0, 1) := by decide +kernel
theorem dX1_count_51 : decode cX1_count 51 = .ok (.iadd, 1) := by decide +kernel
theorem dX1_count_52 : decode cX1_count 52 = .ok (.istore 5, 2) := by decide +kernel
theorem dX1_count_54 : decode cX1_count 54 = .ok (.iinc 6 1, 3) := by decide +kernel
theorem dX1_count_57 : decode cX1_count 57 = .ok (.goto (-46), 3) := by decide +kernel
theorem dX1_count_60 : decode cX1_count 60 = .ok (.iload 5, 2) := by decide +kernel
theorem dX1_count_62 : decode cX1_count 62 = .ok (.ireturn, 1) := by decide +kernel
theorem dX1_sum_0 : decode cX1_sum 0 = .ok (.aload_n 0, 1) := by decide +kernel
theorem dX1_sum_1 : decode cX1_sum 1 = .ok (.iconst 0, 1) := by decide +kernel
theorem dX1_sum_2 : decode cX1_sum 2 = .ok (.putfield 26, 3) := by decide +kernel
theorem dX1_sum_5 : decode cX1_sum 5 = .ok (.lconst 0, 1) := by decide +kernel
theorem dX1_sum_6 : decode cX1_sum 6 = .ok (.lstore 5, 2) := by decide +kernel
theorem dX1_sum_8 : decode cX1_sum 8 = .ok (.iconst 0, 1) := by decide +kernel
theorem dX1_sum_9 : decode cX1_sum 9 = .ok (.istore 7, 2) := by decide +kernel
theorem dX1_sum_11 : decode cX1_sum 11 = .ok (.iload 7, 2) := by decide +kernel
theorem dX1_sum_13 : decode cX1_sum 13 = .ok (.aload_n 0, 1) := by decide +kernel
theorem dX1_sum_14 : decode cX1_sum 14 = .ok (.getfield 34, 3) := by decide +kernel
theorem dX1_sum_17 : decode cX1_sum 17 = .ok (.if_icmp .ge 49, 3) := by decide +kernel
theorem dX1_sum_20 : decode cX1_sum 20 = .ok (.lload 5, 2) := by decide +kernel
theorem dX1_sum_22 : decode cX1_sum 22 = .ok (.aload_n 0, 1) := by decide +kernel
theorem dX1_sum_23 : decode cX1_sum 23 = .ok (.getfield 7, 3) := by decide +kernel
theorem dX1_sum_26 : decode cX1_sum 26 = .ok (.iload 7, 2) := by decide +kernel
theorem dX1_sum_28 : decode cX1_sum 28 = .ok (.laload, 1) := by decide +kernel
theorem dX1_sum_29 : decode cX1_sum 29 = .ok (.lload_n 1, 1) := by decide +kernel
theorem dX1_sum_30 : decode cX1_sum 30 = .ok (.lcmp, 1) := by decide +kernel
theorem dX1_sum_31 : decode cX1_sum 31 = .ok (.ifCond .lt 25, 3) := by decide +kernel
theorem dX1_sum_34 : decode cX1_sum 34 = .ok (.aload_n 0, 1) := by decide +kernel
theorem dX1_sum_35 : decode cX1_sum 35 = .ok (.getfield 7, 3) := by decide +kernel
theorem dX1_sum_38 : decode cX1_sum 38 = .ok (.iload 7, 2) := by decide +kernel
theorem dX1_sum_40 : decode cX1_sum 40 = .ok (.laload, 1) := by decide +kernel
theorem dX1_sum_41 : decode cX1_sum 41 = .ok (.lload_n 3, 1) := by decide +kernel
theorem dX1_sum_42 : decode cX1_sum 42 = .ok (.lcmp, 1) := by decide +kernel
theorem dX1_sum_43 : decode cX1_sum 43 = .ok (.ifCond .gt 13, 3) := by decide +kernel
theorem dX1_sum_46 : decode cX1_sum 46 = .ok (.aload_n 0, 1) := by decide +kernel
theorem dX1_sum_47 : decode cX1_sum 47 = .ok (.getfield 13, 3) := by decide +kernel
theorem dX1_sum_50 : decode cX1_sum 50 = .ok (.iload 7, 2) := by decide +kernel
theorem dX1_sum_52 : decode cX1_sum 52 = .ok (.laload, 1) := by decide +kernel
theorem dX1_sum_53 : decode cX1_sum 53 = .ok (.goto 4, 3) := by decide +kernel
theorem dX1_sum_56 : decode cX1_sum 56 = .ok (.lconst 0, 1) := by decide +kernel
theorem dX1_sum_57 : decode cX1_sum 57 = .ok (.ladd, 1) := by decide +kernel
theorem dX1_sum_58 : decode cX1_sum 58 = .ok (.lstore 5, 2) := by decide +kernel
theorem dX1_sum_60 : decode cX1_sum 60 = .ok (.iinc 7 1, 3) := by decide +kernel
theorem dX1_sum_63 : decode cX1_sum 63 = .ok (.goto (-52), 3) := by decide +kernel
theorem dX1_sum_66 : decode cX1_sum 66 = .ok (.lload 5, 2) := by decide +kernel
theorem dX1_sum_68 : decode cX1_sum 68 = .ok (.lreturn, 1) := by decide +kernel
