theorem dX5_init_0 : decode cX5_init 0 = .ok (.aload_n 0, 1) := by decide +kernel
theorem dX5_init_1 : decode cX5_init 1 = .ok (.invokespecial 1, 3) := by decide +kernel
theorem dX5_init_4 : decode cX5_init 4 = .ok (.aload_n 0, 1) := by decide +kernel
theorem dX5_init_5 : decode cX5_init 5 = .ok (.bipush 40, 2) := by decide +kernel
theorem dX5_init_7 : decode cX5_init 7 = .ok (.newarray .int, 2) := by decide +kernel
theorem dX5_init_9 : decode cX5_init 9 = .ok (.putfield 7, 3) := by decide +kernel
theorem dX5_init_12 : decode cX5_init 12 = .ok (.aload_n 0, 1) := by decide +kernel
theorem dX5_init_13 : decode cX5_init 13 = .ok (.bipush 40, 2) := by decide +kernel
theorem dX5_init_15 : decode cX5_init 15 = .ok (.newarray .int, 2) := by decide +kernel
theorem dX5_init_17 : decode cX5_init 17 = .ok (.putfield 13, 3) := by decide +kernel
theorem dX5_init_20 : decode cX5_init 20 = .ok (.aload_n 0, 1) := by decide +kernel
theorem dX5_init_21 : decode cX5_init 21 = .ok (.bipush 40, 2) := by decide +kernel
theorem dX5_init_23 : decode cX5_init 23 = .ok (.newarray .int, 2) := by decide +kernel
theorem dX5_init_25 : decode cX5_init 25 = .ok (.putfield 16, 3) := by decide +kernel
theorem dX5_init_28 : decode cX5_init 28 = .ok (.aload_n 0, 1) := by decide +kernel
theorem dX5_init_29 : decode cX5_init 29 = .ok (.bipush 40, 2) := by decide +kernel
theorem dX5_init_31 : decode cX5_init 31 = .ok (.newarray .int, 2) := by decide +kernel
theorem dX5_init_33 : decode cX5_init 33 = .ok (.putfield 19, 3) := by decide +kernel
theorem dX5_init_36 : decode cX5_init 36 = .ok (.aload_n 0, 1) := by decide +kernel
theorem dX5_init_37 : decode cX5_init 37 = .ok (.bipush 40, 2) := by decide +kernel
theorem dX5_init_39 : decode cX5_init 39 = .ok (.newarray .int, 2) := by decide +kernel
theorem dX5_init_41 : decode cX5_init 41 = .ok (.putfield 22, 3) := by decide +kernel
theorem dX5_init_44 : decode cX5_init 44 = .ok (.aload_n 0, 1) := by decide +kernel
theorem dX5_init_45 : decode cX5_init 45 = .ok (.bipush 40, 2) := by decide +kernel
theorem dX5_init_47 : decode cX5_init 47 = .ok (.newarray .int, 2) := by decide +kernel
theorem dX5_init_49 : decode cX5_init 49 = .ok (.putfield 25, 3) := by decide +kernel
theorem dX5_init_52 : decode cX5_init 52 = .ok (.aload_n 0, 1) := by decide +kernel
theorem dX5_init_53 : decode cX5_init 53 = .ok (.bipush 40, 2) := by decide +kernel
theorem dX5_init_55 : decode cX5_init 55 = .ok (.newarray .boolean, 2) := by decide +kernel
theorem dX5_init_57 : decode cX5_init 57 = .ok (.putfield 28, 3) := by decide +kernel
theorem dX5_init_60 : decode cX5_init 60 = .ok (.aload_n 0, 1) := by decide +kernel
theorem dX5_init_61 : decode cX5_init 61 = .ok (.iconst 2, 1) := by decide +kernel
theorem dX5_init_62 : decode cX5_init 62 = .ok (.newarray .boolean, 2) := by decide +kernel
theorem dX5_init_64 : decode cX5_init 64 = .ok (.putfield 32, 3) := by decide +kernel
theorem dX5_init_67 : decode cX5_init 67 = .ok (.aload_n 0, 1) := by decide +kernel
theorem dX5_init_68 : decode cX5_init 68 = .ok (.bipush 12, 2) := by decide +kernel
theorem dX5_init_70 : decode cX5_init 70 = .ok (.newarray .long, 2) := by decide +kernel
theorem dX5_init_72 : decode cX5_init 72 = .ok (.putfield 35, 3) := by decide +kernel
theorem dX5_init_75 : decode cX5_init 75 = .ok (.aload_n 0, 1) := by decide +kernel
theorem dX5_init_76 : decode cX5_init 76 = .ok (.bipush 12, 2) := by decide +kernel
theorem dX5_init_78 : decode cX5_init 78 = .ok (.newarray .long, 2) := by decide +kernel
theorem dX5_init_80 : decode cX5_init 80 = .ok (.putfield 39, 3) := by decide +kernel
theorem dX5_init_83 : decode cX5_init 83 = .ok (.aload_n 0, 1) := by decide +kernel
theorem dX5_init_84 : decode cX5_init 84 = .ok (.bipush 12, 2) := by decide +kernel
theorem dX5_init_86 : decode cX5_init 86 = .ok (.newarray .long, 2) := by decide +kernel
theorem dX5_init_88 : decode cX5_init 88 = .ok (.putfield 42, 3) := by decide +kernel
theorem dX5_init_91 : decode cX5_init 91 = .ok (.aload_n 0, 1) := by decide +kernel
theorem dX5_init_92 : decode cX5_init 92 = .ok (.bipush 12, 2) := by decide +kernel
theorem dX5_init_94 : decode cX5_init 94 = .ok (.newarray .boolean, 2) := by decide +kernel
theorem dX5_init_96 : decode cX5_init 96 = .ok (.putfield 45, 3) := by decide +kernel
theorem dX5_init_99 : decode cX5_init 99 = .ok (.aload_n 0, 1) := by decide +kernel
theorem dX5_init_100 : decode cX5_init 100 = .ok (.bipush 80, 2) := by decide +kernel
theorem dX5_init_102 : decode cX5_init 102 = .ok (.newarray .boolean, 2) := by decide +kernel
theorem dX5_init_104 : decode cX5_init 104 = .ok (.putfield 48, 3) := by decide +kernel
theorem dX5_init_107 : decode cX5_init 107 = .ok (.aload_n 0, 1) := by decide +kernel
theorem dX5_init_108 : decode cX5_init 108 = .ok (.bipush 80, 2) := by decide +kernel
theorem dX5_init_110 : decode cX5_init 110 = .ok (.newarray .int, 2) := by decide +kernel
theorem dX5_init_112 : decode cX5_init 112 = .ok (.putfield 51, 3) := by decide +kernel
theorem dX5_init_115 : decode cX5_init 115 = .ok (.aload_n 0, 1) := by decide +kernel
theorem dX5_init_116 : decode cX5_init 116 = .ok (.bipush 80, 2) := by decide +kernel
theorem dX5_init_118 : decode cX5_init 118 = .ok (.newarray .long, 2) := by decide +kernel
theorem dX5_init_120 : decode cX5_init 120 = .ok (.putfield 54, 3) := by decide +kernel
theorem dX5_init_123 : decode cX5_init 123 = .ok (.aload_n 0, 1) := by decide +kernel
theorem dX5_init_124 : decode cX5_init 124 = .ok (.bipush 80, 2) := by decide +kernel
theorem dX5_init_126 : decode cX5_init 126 = .ok (.newarray .long, 2) := by decide +kernel
theorem dX5_init_128 : decode cX5_init 128 = .ok (.putfield 57, 3) := by decide +kernel
theorem dX5_init_131 : decode cX5_init 131 = .ok (.aload_n 0, 1) := by decide +kernel
theorem dX5_init_132 : decode cX5_init 132 = .ok (.sipush 960, 3) := by decide +kernel
theorem dX5_init_135 : decode cX5_init 135 = .ok (.newarray .long, 2) := by decide +kernel
theorem dX5_init_137 : decode cX5_init 137 = .ok (.putfield 60, 3) := by decide +kernel
theorem dX5_init_140 : decode cX5_init 140 = .ok (.aload_n 0, 1) := by decide +kernel
theorem dX5_init_141 : decode cX5_init 141 = .ok (.sipush 960, 3) := by decide +kernel
theorem dX5_init_144 : decode cX5_init 144 = .ok (.newarray .long, 2) := by decide +kernel
theorem dX5_init_146 : decode cX5_init 146 = .ok (.putfield 63, 3) := by decide +kernel
theorem dX5_init_149 : decode cX5_init 149 = .ok (.aload_n 0, 1) := by decide +kernel
theorem dX5_init_150 : decode cX5_init 150 = .ok (.bipush 40, 2) := by decide +kernel
theorem dX5_init_152 : decode cX5_init 152 = .ok (.newarray .boolean, 2) := by decide +kernel
theorem dX5_init_154 : decode cX5_init 154 = .ok (.putfield 66, 3) := by decide +kernel
theorem dX5_init_157 : decode cX5_init 157 = .ok (.aload_n 0, 1) := by decide +kernel
theorem dX5_init_158 : decode cX5_init 158 = .ok (.bipush 40, 2) := by decide +kernel
theorem dX5_init_160 : decode cX5_init 160 = .ok (.newarray .int, 2) := by decide +kernel
theorem dX5_init_162 : decode cX5_init 162 = .ok (.putfield 69, 3) := by decide +kernel
theorem dX5_init_165 : decode cX5_init 165 = .ok (.aload_n 0, 1) := by decide +kernel
theorem dX5_init_166 : decode cX5_init 166 = .ok (.bipush 6, 2) := by decide +kernel
theorem dX5_init_168 : decode cX5_init 168 = .ok (.newarray .int, 2) := by decide +kernel
theorem dX5_init_170 : decode cX5_init 170 = .ok (.putfield 72, 3) := by decide +kernel
theorem dX5_init_173 : decode cX5_init 173 = .ok (.aload_n 0, 1) := by decide +kernel
theorem dX5_init_174 : decode cX5_init 174 = .ok (.bipush 6, 2) := by decide +kernel
theorem dX5_init_176 : decode cX5_init 176 = .ok (.newarray .int, 2) := by decide +kernel
theorem dX5_init_178 : decode cX5_init 178 = .ok (.putfield 75, 3) := by decide +kernel
theorem dX5_init_181 : decode cX5_init 181 = .ok (.aload_n 0, 1) := by decide +kernel
theorem dX5_init_182 : decode cX5_init 182 = .ok (.bipush 40, 2) := by decide +kernel
theorem dX5_init_184 : decode cX5_init 184 = .ok (.newarray .int, 2) := by decide +kernel
theorem dX5_init_186 : decode cX5_init 186 = .ok (.putfield 78, 3) := by decide +kernel
theorem dX5_init_189 : decode cX5_init 189 = .ok (.aload_n 0, 1) := by decide +kernel
theorem dX5_init_190 : decode cX5_init 190 = .ok (.bipush 40, 2) := by decide +kernel
theorem dX5_init_192 : decode cX5_init 192 = .ok (.newarray .int, 2) := by decide +kernel
theorem dX5_init_194 : decode cX5_init 194 = .ok (.putfield 81, 3) := by decide +kernel
theorem dX5_init_197 : decode cX5_init 197 = .ok (.aload_n 0, 1) := by decide +kernel
theorem dX5_init_198 : decode cX5_init 198 = .ok (.sipush 480, 3) := by decide +kernel
theorem dX5_init_201 : decode cX5_init 201 = .ok (.newarray .int, 2) := by decide +kernel
theorem dX5_init_203 : decode cX5_init 203 = .ok (.putfield 84, 3) := by decide +kernel
theorem dX5_init_206 : decode cX5_init 206 = .ok (.aload_n 0, 1) := by decide +kernel
theorem dX5_init_207 : decode cX5_init 207 = .ok (.bipush 12, 2) := by decide +kernel
theorem dX5_init_209 : decode cX5_init 209 = .ok (.newarray .int, 2) := by decide +kernel
theorem dX5_init_211 : decode cX5_init 211 = .ok (.putfield 87, 3) := by decide +kernel
theorem dX5_init_214 : decode cX5_init 214 = .ok (.aload_n 0, 1) := by decide +kernel
theorem dX5_init_215 : decode cX5_init 215 = .ok (.bipush 12, 2) := by decide +kernel
theorem dX5_init_217 : decode cX5_init 217 = .ok (.newarray .long, 2) := by decide +kernel
theorem dX5_init_219 : decode cX5_init 219 = .ok (.putfield 90, 3) := by decide +kernel
theorem dX5_init_222 : decode cX5_init 222 = .ok (.aload_n 0, 1) := by decide +kernel
theorem dX5_init_223 : decode cX5_init 223 = .ok (.bipush 12, 2) := by decide +kernel
theorem dX5_init_225 : decode cX5_init 225 = .ok (.newarray .long, 2) := by decide +kernel
theorem dX5_init_227 : decode cX5_init 227 = .ok (.putfield 93, 3) := by decide +kernel
theorem dX5_init_230 : decode cX5_init 230 = .ok (.aload_n 0, 1) := by decide +kernel
theorem dX5_init_231 : decode cX5_init 231 = .ok (.invokevirtual 96, 3) := by decide +kernel
theorem dX5_init_234 : decode cX5_init 234 = .ok (.return_, 1) := by decide +kernel
theorem dX5_forget_0 : decode cX5_forget 0 = .ok (.aload_n 0, 1) := by decide +kernel
theorem dX5_forget_1 : decode cX5_forget 1 = .ok (.iconst 0, 1) := by decide +kernel
theorem dX5_forget_2 : decode cX5_forget 2 = .ok (.putfield 99, 3) := by decide +kernel
theorem dX5_forget_5 : decode cX5_forget 5 = .ok (.aload_n 0, 1) := by decide +kernel
theorem dX5_forget_6 : decode cX5_forget 6 = .ok (.iconst 0, 1) := by decide +kernel
theorem dX5_forget_7 : decode cX5_forget 7 = .ok (.putfield 103, 3) := by decide +kernel
theorem dX5_forget_10 : decode cX5_forget 10 = .ok (.aload_n 0, 1) := by decide +kernel
theorem dX5_forget_11 : decode cX5_forget 11 = .ok (.iconst (-1), 1) := by decide +kernel
theorem dX5_forget_12 : decode cX5_forget 12 = .ok (.putfield 107, 3) := by decide +kernel
theorem dX5_forget_15 : decode cX5_forget 15 = .ok (.iconst 0, 1) := by decide +kernel
theorem dX5_forget_16 : decode cX5_forget 16 = .ok (.istore_n 1, 1) := by decide +kernel
theorem dX5_forget_17 : decode cX5_forget 17 = .ok (.iload_n 1, 1) := by decide +kernel
theorem dX5_forget_18 : decode cX5_forget 18 = .ok (.bipush 6, 2) := by decide +kernel
theorem dX5_forget_20 : decode cX5_forget 20 = .ok (.if_icmp .ge 23, 3) := by decide +kernel
theorem dX5_forget_23 : decode cX5_forget 23 = .ok (.aload_n 0, 1) := by decide +kernel
theorem dX5_forget_24 : decode cX5_forget 24 = .ok (.getfield 72, 3) := by decide +kernel
theorem dX5_forget_27 : decode cX5_forget 27 = .ok (.iload_n 1, 1) := by decide +kernel
theorem dX5_forget_28 : decode cX5_forget 28 = .ok (.iconst 0, 1) := by decide +kernel
theorem dX5_forget_29 : decode cX5_forget 29 = .ok (.iastore, 1) := by decide +kernel
theorem dX5_forget_30 : decode cX5_forget 30 = .ok (.aload_n 0, 1) := by decide +kernel
theorem dX5_forget_31 : decode cX5_forget 31 = .ok (.getfield 75, 3) := by decide +kernel
theorem dX5_forget_34 : decode cX5_forget 34 = .ok (.iload_n 1, 1) := by decide +kernel
theorem dX5_forget_35 : decode cX5_forget 35 = .ok (.iconst (-1), 1) := by decide +kernel
theorem dX5_forget_36 : decode cX5_forget 36 = .ok (.iastore, 1) := by decide +kernel
theorem dX5_forget_37 : decode cX5_forget 37 = .ok (.iinc 1 1, 3) := by decide +kernel
theorem dX5_forget_40 : decode cX5_forget 40 = .ok (.goto (-23), 3) := by decide +kernel
theorem dX5_forget_43 : decode cX5_forget 43 = .ok (.return_, 1) := by decide +kernel
theorem dX5_clear_0 : decode cX5_clear 0 = .ok (.aload_n 0, 1) := by decide +kernel
theorem dX5_clear_1 : decode cX5_clear 1 = .ok (.getfield 110, 3) := by decide +kernel
theorem dX5_clear_4 : decode cX5_clear 4 = .ok (.istore_n 1, 1) := by decide +kernel
theorem dX5_clear_5 : decode cX5_clear 5 = .ok (.aload_n 0, 1) := by decide +kernel
theorem dX5_clear_6 : decode cX5_clear 6 = .ok (.iconst 0, 1) := by decide +kernel
theorem dX5_clear_7 : decode cX5_clear 7 = .ok (.putfield 110, 3) := by decide +kernel
theorem dX5_clear_10 : decode cX5_clear 10 = .ok (.aload_n 0, 1) := by decide +kernel
theorem dX5_clear_11 : decode cX5_clear 11 = .ok (.invokevirtual 96, 3) := by decide +kernel
theorem dX5_clear_14 : decode cX5_clear 14 = .ok (.iload_n 1, 1) := by decide +kernel
theorem dX5_clear_15 : decode cX5_clear 15 = .ok (.ireturn, 1) := by decide +kernel
theorem dX5_isName_0 : decode cX5_isName 0 = .ok (.iload_n 0, 1) := by decide +kernel
theorem dX5_isName_1 : decode cX5_isName 1 = .ok (.ifCond .lt 13, 3) := by decide +kernel
theorem dX5_isName_4 : decode cX5_isName 4 = .ok (.iload_n 0, 1) := by decide +kernel
theorem dX5_isName_5 : decode cX5_isName 5 = .ok (.bipush 6, 2) := by decide +kernel
theorem dX5_isName_7 : decode cX5_isName 7 = .ok (.if_icmp .ge 7, 3) := by decide +kernel
theorem dX5_isName_10 : decode cX5_isName 10 = .ok (.iconst 1, 1) := by decide +kernel
theorem dX5_isName_11 : decode cX5_isName 11 = .ok (.goto 4, 3) := by decide +kernel
theorem dX5_isName_14 : decode cX5_isName 14 = .ok (.iconst 0, 1) := by decide +kernel
theorem dX5_isName_15 : decode cX5_isName 15 = .ok (.ireturn, 1) := by decide +kernel
theorem dX5_isLane_0 : decode cX5_isLane 0 = .ok (.iload_n 0, 1) := by decide +kernel
theorem dX5_isLane_1 : decode cX5_isLane 1 = .ok (.ifCond .lt 12, 3) := by decide +kernel
theorem dX5_isLane_4 : decode cX5_isLane 4 = .ok (.iload_n 0, 1) := by decide +kernel
theorem dX5_isLane_5 : decode cX5_isLane 5 = .ok (.iconst 3, 1) := by decide +kernel
theorem dX5_isLane_6 : decode cX5_isLane 6 = .ok (.if_icmp .ge 7, 3) := by decide +kernel
theorem dX5_isLane_9 : decode cX5_isLane 9 = .ok (.iconst 1, 1) := by decide +kernel
theorem dX5_isLane_10 : decode cX5_isLane 10 = .ok (.goto 4, 3) := by decide +kernel
theorem dX5_isLane_13 : decode cX5_isLane 13 = .ok (.iconst 0, 1) := by decide +kernel
theorem dX5_isLane_14 : decode cX5_isLane 14 = .ok (.ireturn, 1) := by decide +kernel
theorem dX5_isNumber_0 : decode cX5_isNumber 0 = .ok (.iload_n 0, 1) := by decide +kernel
theorem dX5_isNumber_1 : decode cX5_isNumber 1 = .ok (.ldc 113, 2) := by decide +kernel
theorem dX5_isNumber_3 : decode cX5_isNumber 3 = .ok (.if_icmp .lt 13, 3) := by decide +kernel
theorem dX5_isNumber_6 : decode cX5_isNumber 6 = .ok (.iload_n 0, 1) := by decide +kernel
theorem dX5_isNumber_7 : decode cX5_isNumber 7 = .ok (.ldc 114, 2) := by decide +kernel
theorem dX5_isNumber_9 : decode cX5_isNumber 9 = .ok (.if_icmp .gt 7, 3) := by decide +kernel
theorem dX5_isNumber_12 : decode cX5_isNumber 12 = .ok (.iconst 1, 1) := by decide +kernel
theorem dX5_isNumber_13 : decode cX5_isNumber 13 = .ok (.goto 4, 3) := by decide +kernel
theorem dX5_isNumber_16 : decode cX5_isNumber 16 = .ok (.iconst 0, 1) := by decide +kernel
theorem dX5_isNumber_17 : decode cX5_isNumber 17 = .ok (.ireturn, 1) := by decide +kernel
theorem dX5_isAct_0 : decode cX5_isAct 0 = .ok (.iload_n 0, 1) := by decide +kernel
theorem dX5_isAct_1 : decode cX5_isAct 1 = .ok (.tableswitch 379 0 14 #[75, 95, 127, 127, 154, 181, 186, 127, 186, 206, 241, 276, 319, 186, 362], 75) := by decide +kernel
theorem dX5_isAct_76 : decode cX5_isAct 76 = .ok (.iload_n 1, 1) := by decide +kernel
theorem dX5_isAct_77 : decode cX5_isAct 77 = .ok (.invokestatic 115, 3) := by decide +kernel
theorem dX5_isAct_80 : decode cX5_isAct 80 = .ok (.ifCond .eq 14, 3) := by decide +kernel
theorem dX5_isAct_83 : decode cX5_isAct 83 = .ok (.iload_n 2, 1) := by decide +kernel
theorem dX5_isAct_84 : decode cX5_isAct 84 = .ok (.invokestatic 119, 3) := by decide +kernel
theorem dX5_isAct_87 : decode cX5_isAct 87 = .ok (.ifCond .eq 7, 3) := by decide +kernel
theorem dX5_isAct_90 : decode cX5_isAct 90 = .ok (.iconst 1, 1) := by decide +kernel
theorem dX5_isAct_91 : decode cX5_isAct 91 = .ok (.goto 4, 3) := by decide +kernel
theorem dX5_isAct_94 : decode cX5_isAct 94 = .ok (.iconst 0, 1) := by decide +kernel
theorem dX5_isAct_95 : decode cX5_isAct 95 = .ok (.ireturn, 1) := by decide +kernel
theorem dX5_isAct_96 : decode cX5_isAct 96 = .ok (.iload_n 1, 1) := by decide +kernel
theorem dX5_isAct_97 : decode cX5_isAct 97 = .ok (.invokestatic 115, 3) := by decide +kernel
theorem dX5_isAct_100 : decode cX5_isAct 100 = .ok (.ifCond .eq 26, 3) := by decide +kernel
theorem dX5_isAct_103 : decode cX5_isAct 103 = .ok (.iload_n 2, 1) := by decide +kernel
theorem dX5_isAct_104 : decode cX5_isAct 104 = .ok (.invokestatic 119, 3) := by decide +kernel
theorem dX5_isAct_107 : decode cX5_isAct 107 = .ok (.ifCond .eq 19, 3) := by decide +kernel
theorem dX5_isAct_110 : decode cX5_isAct 110 = .ok (.iload_n 3, 1) := by decide +kernel
theorem dX5_isAct_111 : decode cX5_isAct 111 = .ok (.invokestatic 119, 3) := by decide +kernel
theorem dX5_isAct_114 : decode cX5_isAct 114 = .ok (.ifCond .eq 12, 3) := by decide +kernel
theorem dX5_isAct_117 : decode cX5_isAct 117 = .ok (.iload_n 2, 1) := by decide +kernel
theorem dX5_isAct_118 : decode cX5_isAct 118 = .ok (.iload_n 3, 1) := by decide +kernel
theorem dX5_isAct_119 : decode cX5_isAct 119 = .ok (.if_icmp .gt 7, 3) := by decide +kernel
theorem dX5_isAct_122 : decode cX5_isAct 122 = .ok (.iconst 1, 1) := by decide +kernel
theorem dX5_isAct_123 : decode cX5_isAct 123 = .ok (.goto 4, 3) := by decide +kernel
theorem dX5_isAct_126 : decode cX5_isAct 126 = .ok (.iconst 0, 1) := by decide +kernel
theorem dX5_isAct_127 : decode cX5_isAct 127 = .ok (.ireturn, 1) := by decide +kernel
theorem dX5_isAct_128 : decode cX5_isAct 128 = .ok (.iload_n 1, 1) := by decide +kernel
theorem dX5_isAct_129 : decode cX5_isAct 129 = .ok (.invokestatic 115, 3) := by decide +kernel
theorem dX5_isAct_132 : decode cX5_isAct 132 = .ok (.ifCond .eq 21, 3) := by decide +kernel
theorem dX5_isAct_135 : decode cX5_isAct 135 = .ok (.iload_n 2, 1) := by decide +kernel
theorem dX5_isAct_136 : decode cX5_isAct 136 = .ok (.invokestatic 115, 3) := by decide +kernel
theorem dX5_isAct_139 : decode cX5_isAct 139 = .ok (.ifCond .eq 14, 3) := by decide +kernel
theorem dX5_isAct_142 : decode cX5_isAct 142 = .ok (.iload_n 3, 1) := by decide +kernel
theorem dX5_isAct_143 : decode cX5_isAct 143 = .ok (.invokestatic 115, 3) := by decide +kernel
theorem dX5_isAct_146 : decode cX5_isAct 146 = .ok (.ifCond .eq 7, 3) := by decide +kernel
theorem dX5_isAct_149 : decode cX5_isAct 149 = .ok (.iconst 1, 1) := by decide +kernel
theorem dX5_isAct_150 : decode cX5_isAct 150 = .ok (.goto 4, 3) := by decide +kernel
theorem dX5_isAct_153 : decode cX5_isAct 153 = .ok (.iconst 0, 1) := by decide +kernel
theorem dX5_isAct_154 : decode cX5_isAct 154 = .ok (.ireturn, 1) := by decide +kernel
theorem dX5_isAct_155 : decode cX5_isAct 155 = .ok (.iload_n 1, 1) := by decide +kernel
theorem dX5_isAct_156 : decode cX5_isAct 156 = .ok (.invokestatic 115, 3) := by decide +kernel
theorem dX5_isAct_159 : decode cX5_isAct 159 = .ok (.ifCond .eq 21, 3) := by decide +kernel
theorem dX5_isAct_162 : decode cX5_isAct 162 = .ok (.iload_n 2, 1) := by decide +kernel
theorem dX5_isAct_163 : decode cX5_isAct 163 = .ok (.invokestatic 122, 3) := by decide +kernel
theorem dX5_isAct_166 : decode cX5_isAct 166 = .ok (.ifCond .eq 14, 3) := by decide +kernel
theorem dX5_isAct_169 : decode cX5_isAct 169 = .ok (.iload_n 3, 1) := by decide +kernel
theorem dX5_isAct_170 : decode cX5_isAct 170 = .ok (.invokestatic 115, 3) := by decide +kernel
theorem dX5_isAct_173 : decode cX5_isAct 173 = .ok (.ifCond .eq 7, 3) := by decide +kernel
theorem dX5_isAct_176 : decode cX5_isAct 176 = .ok (.iconst 1, 1) := by decide +kernel
theorem dX5_isAct_177 : decode cX5_isAct 177 = .ok (.goto 4, 3) := by decide +kernel
theorem dX5_isAct_180 : decode cX5_isAct 180 = .ok (.iconst 0, 1) := by decide +kernel
theorem dX5_isAct_181 : decode cX5_isAct 181 = .ok (.ireturn, 1) := by decide +kernel
theorem dX5_isAct_182 : decode cX5_isAct 182 = .ok (.iload_n 1, 1) := by decide +kernel
theorem dX5_isAct_183 : decode cX5_isAct 183 = .ok (.invokestatic 115, 3) := by decide +kernel
theorem dX5_isAct_186 : decode cX5_isAct 186 = .ok (.ireturn, 1) := by decide +kernel
theorem dX5_isAct_187 : decode cX5_isAct 187 = .ok (.iload_n 1, 1) := by decide +kernel
theorem dX5_isAct_188 : decode cX5_isAct 188 = .ok (.invokestatic 115, 3) := by decide +kernel
theorem dX5_isAct_191 : decode cX5_isAct 191 = .ok (.ifCond .eq 14, 3) := by decide +kernel
theorem dX5_isAct_194 : decode cX5_isAct 194 = .ok (.iload_n 2, 1) := by decide +kernel
theorem dX5_isAct_195 : decode cX5_isAct 195 = .ok (.invokestatic 115, 3) := by decide +kernel
theorem dX5_isAct_198 : decode cX5_isAct 198 = .ok (.ifCond .eq 7, 3) := by decide +kernel
theorem dX5_isAct_201 : decode cX5_isAct 201 = .ok (.iconst 1, 1) := by decide +kernel
theorem dX5_isAct_202 : decode cX5_isAct 202 = .ok (.goto 4, 3) := by decide +kernel
theorem dX5_isAct_205 : decode cX5_isAct 205 = .ok (.iconst 0, 1) := by decide +kernel
theorem dX5_isAct_206 : decode cX5_isAct 206 = .ok (.ireturn, 1) := by decide +kernel
theorem dX5_isAct_207 : decode cX5_isAct 207 = .ok (.iload_n 1, 1) := by decide +kernel
theorem dX5_isAct_208 : decode cX5_isAct 208 = .ok (.invokestatic 115, 3) := by decide +kernel
theorem dX5_isAct_211 : decode cX5_isAct 211 = .ok (.ifCond .eq 29, 3) := by decide +kernel
theorem dX5_isAct_214 : decode cX5_isAct 214 = .ok (.iload_n 2, 1) := by decide +kernel
theorem dX5_isAct_215 : decode cX5_isAct 215 = .ok (.invokestatic 122, 3) := by decide +kernel
theorem dX5_isAct_218 : decode cX5_isAct 218 = .ok (.ifCond .eq 22, 3) := by decide +kernel
theorem dX5_isAct_221 : decode cX5_isAct 221 = .ok (.iload_n 3, 1) := by decide +kernel
theorem dX5_isAct_222 : decode cX5_isAct 222 = .ok (.invokestatic 115, 3) := by decide +kernel
theorem dX5_isAct_225 : decode cX5_isAct 225 = .ok (.ifCond .eq 15, 3) := by decide +kernel
theorem dX5_isAct_228 : decode cX5_isAct 228 = .ok (.iload 4, 2) := by decide +kernel
theorem dX5_isAct_230 : decode cX5_isAct 230 = .ok (.invokestatic 115, 3) := by decide +kernel
theorem dX5_isAct_233 : decode cX5_isAct 233 = .ok (.ifCond .eq 7, 3) := by decide +kernel
theorem dX5_isAct_236 : decode cX5_isAct 236 = .ok (.iconst 1, 1) := by decide +kernel
theorem dX5_isAct_237 : decode cX5_isAct 237 = .ok (.goto 4, 3) := by decide +kernel
theorem dX5_isAct_240 : decode cX5_isAct 240 = .ok (.iconst 0, 1) := by decide +kernel
theorem dX5_isAct_241 : decode cX5_isAct 241 = .ok (.ireturn, 1) := by decide +kernel
theorem dX5_isAct_242 : decode cX5_isAct 242 = .ok (.iload_n 1, 1) := by decide +kernel
theorem dX5_isAct_243 : decode cX5_isAct 243 = .ok (.invokestatic 115, 3) := by decide +kernel
theorem dX5_isAct_246 : decode cX5_isAct 246 = .ok (.ifCond .eq 29, 3) := by decide +kernel
theorem dX5_isAct_249 : decode cX5_isAct 249 = .ok (.iload_n 2, 1) := by decide +kernel
theorem dX5_isAct_250 : decode cX5_isAct 250 = .ok (.invokestatic 115, 3) := by decide +kernel
theorem dX5_isAct_253 : decode cX5_isAct 253 = .ok (.ifCond .eq 22, 3) := by decide +kernel
theorem dX5_isAct_256 : decode cX5_isAct 256 = .ok (.iload_n 3, 1) := by decide +kernel
theorem dX5_isAct_257 : decode cX5_isAct 257 = .ok (.invokestatic 122, 3) := by decide +kernel
theorem dX5_isAct_260 : decode cX5_isAct 260 = .ok (.ifCond .eq 15, 3) := by decide +kernel
theorem dX5_isAct_263 : decode cX5_isAct 263 = .ok (.iload 4, 2) := by decide +kernel
theorem dX5_isAct_265 : decode cX5_isAct 265 = .ok (.invokestatic 115, 3) := by decide +kernel
theorem dX5_isAct_268 : decode cX5_isAct 268 = .ok (.ifCond .eq 7, 3) := by decide +kernel
theorem dX5_isAct_271 : decode cX5_isAct 271 = .ok (.iconst 1, 1) := by decide +kernel
theorem dX5_isAct_272 : decode cX5_isAct 272 = .ok (.goto 4, 3) := by decide +kernel
theorem dX5_isAct_275 : decode cX5_isAct 275 = .ok (.iconst 0, 1) := by decide +kernel
theorem dX5_isAct_276 : decode cX5_isAct 276 = .ok (.ireturn, 1) := by decide +kernel
theorem dX5_isAct_277 : decode cX5_isAct 277 = .ok (.iload_n 1, 1) := by decide +kernel
theorem dX5_isAct_278 : decode cX5_isAct 278 = .ok (.invokestatic 115, 3) := by decide +kernel
theorem dX5_isAct_281 : decode cX5_isAct 281 = .ok (.ifCond .eq 37, 3) := by decide +kernel
theorem dX5_isAct_284 : decode cX5_isAct 284 = .ok (.iload_n 2, 1) := by decide +kernel
theorem dX5_isAct_285 : decode cX5_isAct 285 = .ok (.invokestatic 115, 3) := by decide +kernel
theorem dX5_isAct_288 : decode cX5_isAct 288 = .ok (.ifCond .eq 30, 3) := by decide +kernel
theorem dX5_isAct_291 : decode cX5_isAct 291 = .ok (.iload_n 3, 1) := by decide +kernel
theorem dX5_isAct_292 : decode cX5_isAct 292 = .ok (.invokestatic 115, 3) := by decide +kernel
theorem dX5_isAct_295 : decode cX5_isAct 295 = .ok (.ifCond .eq 23, 3) := by decide +kernel
theorem dX5_isAct_298 : decode cX5_isAct 298 = .ok (.iload 4, 2) := by decide +kernel
theorem dX5_isAct_300 : decode cX5_isAct 300 = .ok (.invokestatic 115, 3) := by decide +kernel
theorem dX5_isAct_303 : decode cX5_isAct 303 = .ok (.ifCond .eq 15, 3) := by decide +kernel
theorem dX5_isAct_306 : decode cX5_isAct 306 = .ok (.iload 5, 2) := by decide +kernel
theorem dX5_isAct_308 : decode cX5_isAct 308 = .ok (.invokestatic 115, 3) := by decide +kernel
theorem dX5_isAct_311 : decode cX5_isAct 311 = .ok (.ifCond .eq 7, 3) := by decide +kernel
theorem dX5_isAct_314 : decode cX5_isAct 314 = .ok (.iconst 1, 1) := by decide +kernel
theorem dX5_isAct_315 : decode cX5_isAct 315 = .ok (.goto 4, 3) := by decide +kernel
theorem dX5_isAct_318 : decode cX5_isAct 318 = .ok (.iconst 0, 1) := by decide +kernel
theorem dX5_isAct_319 : decode cX5_isAct 319 = .ok (.ireturn, 1) := by decide +kernel
theorem dX5_isAct_320 : decode cX5_isAct 320 = .ok (.iload_n 1, 1) := by decide +kernel
theorem dX5_isAct_321 : decode cX5_isAct 321 = .ok (.invokestatic 115, 3) := by decide +kernel
theorem dX5_isAct_324 : decode cX5_isAct 324 = .ok (.ifCond .eq 37, 3) := by decide +kernel
theorem dX5_isAct_327 : decode cX5_isAct 327 = .ok (.iload_n 2, 1) := by decide +kernel
theorem dX5_isAct_328 : decode cX5_isAct 328 = .ok (.invokestatic 122, 3) := by decide +kernel
theorem dX5_isAct_331 : decode cX5_isAct 331 = .ok (.ifCond .eq 30, 3) := by decide +kernel
theorem dX5_isAct_334 : decode cX5_isAct 334 = .ok (.iload_n 3, 1) := by decide +kernel
theorem dX5_isAct_335 : decode cX5_isAct 335 = .ok (.invokestatic 115, 3) := by decide +kernel
theorem dX5_isAct_338 : decode cX5_isAct 338 = .ok (.ifCond .eq 23, 3) := by decide +kernel
theorem dX5_isAct_341 : decode cX5_isAct 341 = .ok (.iload 4, 2) := by decide +kernel
theorem dX5_isAct_343 : decode cX5_isAct 343 = .ok (.invokestatic 115, 3) := by decide +kernel
theorem dX5_isAct_346 : decode cX5_isAct 346 = .ok (.ifCond .eq 15, 3) := by decide +kernel
theorem dX5_isAct_349 : decode cX5_isAct 349 = .ok (.iload 5, 2) := by decide +kernel
theorem dX5_isAct_351 : decode cX5_isAct 351 = .ok (.invokestatic 115, 3) := by decide +kernel
theorem dX5_isAct_354 : decode cX5_isAct 354 = .ok (.ifCond .eq 7, 3) := by decide +kernel
theorem dX5_isAct_357 : decode cX5_isAct 357 = .ok (.iconst 1, 1) := by decide +kernel
theorem dX5_isAct_358 : decode cX5_isAct 358 = .ok (.goto 4, 3) := by decide +kernel
theorem dX5_isAct_361 : decode cX5_isAct 361 = .ok (.iconst 0, 1) := by decide +kernel
theorem dX5_isAct_362 : decode cX5_isAct 362 = .ok (.ireturn, 1) := by decide +kernel
theorem dX5_isAct_363 : decode cX5_isAct 363 = .ok (.iload_n 2, 1) := by decide +kernel
theorem dX5_isAct_364 : decode cX5_isAct 364 = .ok (.iconst 1, 1) := by decide +kernel
theorem dX5_isAct_365 : decode cX5_isAct 365 = .ok (.if_icmp .lt 13, 3) := by decide +kernel
theorem dX5_isAct_368 : decode cX5_isAct 368 = .ok (.iload_n 2, 1) := by decide +kernel
theorem dX5_isAct_369 : decode cX5_isAct 369 = .ok (.bipush 10, 2) := by decide +kernel
theorem dX5_isAct_371 : decode cX5_isAct 371 = .ok (.if_icmp .gt 7, 3) := by decide +kernel
theorem dX5_isAct_374 : decode cX5_isAct 374 = .ok (.iconst 1, 1) := by decide +kernel
theorem dX5_isAct_375 : decode cX5_isAct 375 = .ok (.goto 4, 3) := by decide +kernel
theorem dX5_isAct_378 : decode cX5_isAct 378 = .ok (.iconst 0, 1) := by decide +kernel
theorem dX5_isAct_379 : decode cX5_isAct 379 = .ok (.ireturn, 1) := by decide +kernel
theorem dX5_isAct_380 : decode cX5_isAct 380 = .ok (.iconst 0, 1) := by decide +kernel
theorem dX5_isAct_381 : decode cX5_isAct 381 = .ok (.ireturn, 1) := by decide +kernel
theorem dX5_act_0 : decode cX5_act 0 = .ok (.iload_n 1, 1) := by decide +kernel
theorem dX5_act_1 : decode cX5_act 1 = .ok (.iload_n 2, 1) := by decide +kernel
theorem dX5_act_2 : decode cX5_act 2 = .ok (.iload_n 3, 1) := by decide +kernel
theorem dX5_act_3 : decode cX5_act 3 = .ok (.iload 4, 2) := by decide +kernel
theorem dX5_act_5 : decode cX5_act 5 = .ok (.iload 5, 2) := by decide +kernel
theorem dX5_act_7 : decode cX5_act 7 = .ok (.iload 6, 2) := by decide +kernel
theorem dX5_act_9 : decode cX5_act 9 = .ok (.invokestatic 125, 3) := by decide +kernel
theorem dX5_act_12 : decode cX5_act 12 = .ok (.ifCond .ne 6, 3) := by decide +kernel
theorem dX5_act_15 : decode cX5_act 15 = .ok (.bipush (-2), 2) := by decide +kernel
theorem dX5_act_17 : decode cX5_act 17 = .ok (.ireturn, 1) := by decide +kernel
theorem dX5_act_18 : decode cX5_act 18 = .ok (.aload_n 0, 1) := by decide +kernel
theorem dX5_act_19 : decode cX5_act 19 = .ok (.getfield 110, 3) := by decide +kernel
theorem dX5_act_22 : decode cX5_act 22 = .ok (.bipush 40, 2) := by decide +kernel
theorem dX5_act_24 : decode cX5_act 24 = .ok (.if_icmp .ne 6, 3) := by decide +kernel
theorem dX5_act_27 : decode cX5_act 27 = .ok (.bipush (-4), 2) := by decide +kernel
theorem dX5_act_29 : decode cX5_act 29 = .ok (.ireturn, 1) := by decide +kernel
theorem dX5_act_30 : decode cX5_act 30 = .ok (.aload_n 0, 1) := by decide +kernel
theorem dX5_act_31 : decode cX5_act 31 = .ok (.getfield 7, 3) := by decide +kernel
theorem dX5_act_34 : decode cX5_act 34 = .ok (.aload_n 0, 1) := by decide +kernel
theorem dX5_act_35 : decode cX5_act 35 = .ok (.getfield 110, 3) := by decide +kernel
theorem dX5_act_38 : decode cX5_act 38 = .ok (.iload_n 1, 1) := by decide +kernel
theorem dX5_act_39 : decode cX5_act 39 = .ok (.iastore, 1) := by decide +kernel
theorem dX5_act_40 : decode cX5_act 40 = .ok (.aload_n 0, 1) := by decide +kernel
theorem dX5_act_41 : decode cX5_act 41 = .ok (.getfield 13, 3) := by decide +kernel
theorem dX5_act_44 : decode cX5_act 44 = .ok (.aload_n 0, 1) := by decide +kernel
theorem dX5_act_45 : decode cX5_act 45 = .ok (.getfield 110, 3) := by decide +kernel
theorem dX5_act_48 : decode cX5_act 48 = .ok (.iload_n 2, 1) := by decide +kernel
theorem dX5_act_49 : decode cX5_act 49 = .ok (.iastore, 1) := by decide +kernel
theorem dX5_act_50 : decode cX5_act 50 = .ok (.aload_n 0, 1) := by decide +kernel
theorem dX5_act_51 : decode cX5_act 51 = .ok (.getfield 16, 3) := by decide +kernel
theorem dX5_act_54 : decode cX5_act 54 = .ok (.aload_n 0, 1) := by decide +kernel
theorem dX5_act_55 : decode cX5_act 55 = .ok (.getfield 110, 3) := by decide +kernel
theorem dX5_act_58 : decode cX5_act 58 = .ok (.iload_n 3, 1) := by decide +kernel
theorem dX5_act_59 : decode cX5_act 59 = .ok (.iastore, 1) := by decide +kernel
theorem dX5_act_60 : decode cX5_act 60 = .ok (.aload_n 0, 1) := by decide +kernel
theorem dX5_act_61 : decode cX5_act 61 = .ok (.getfield 19, 3) := by decide +kernel
theorem dX5_act_64 : decode cX5_act 64 = .ok (.aload_n 0, 1) := by decide +kernel
theorem dX5_act_65 : decode cX5_act 65 = .ok (.getfield 110, 3) := by decide +kernel
theorem dX5_act_68 : decode cX5_act 68 = .ok (.iload 4, 2) := by decide +kernel
theorem dX5_act_70 : decode cX5_act 70 = .ok (.iastore, 1) := by decide +kernel
theorem dX5_act_71 : decode cX5_act 71 = .ok (.aload_n 0, 1) := by decide +kernel
theorem dX5_act_72 : decode cX5_act 72 = .ok (.getfield 22, 3) := by decide +kernel
theorem dX5_act_75 : decode cX5_act 75 = .ok (.aload_n 0, 1) := by decide +kernel
theorem dX5_act_76 : decode cX5_act 76 = .ok (.getfield 110, 3) := by decide +kernel
theorem dX5_act_79 : decode cX5_act 79 = .ok (.iload 5, 2) := by decide +kernel
theorem dX5_act_81 : decode cX5_act 81 = .ok (.iastore, 1) := by decide +kernel
theorem dX5_act_82 : decode cX5_act 82 = .ok (.aload_n 0, 1) := by decide +kernel
theorem dX5_act_83 : decode cX5_act 83 = .ok (.getfield 25, 3) := by decide +kernel
theorem dX5_act_86 : decode cX5_act 86 = .ok (.aload_n 0, 1) := by decide +kernel
theorem dX5_act_87 : decode cX5_act 87 = .ok (.getfield 110, 3) := by decide +kernel
theorem dX5_act_90 : decode cX5_act 90 = .ok (.iload 6, 2) := by decide +kernel
theorem dX5_act_92 : decode cX5_act 92 = .ok (.iastore, 1) := by decide +kernel
theorem dX5_act_93 : decode cX5_act 93 = .ok (.aload_n 0, 1) := by decide +kernel
theorem dX5_act_94 : decode cX5_act 94 = .ok (.getfield 28, 3) := by decide +kernel
theorem dX5_act_97 : decode cX5_act 97 = .ok (.aload_n 0, 1) := by decide +kernel
theorem dX5_act_98 : decode cX5_act 98 = .ok (.getfield 110, 3) := by decide +kernel
theorem dX5_act_101 : decode cX5_act 101 = .ok (.iconst 0, 1) := by decide +kernel
theorem dX5_act_102 : decode cX5_act 102 = .ok (.bastore, 1) := by decide +kernel
theorem dX5_act_103 : decode cX5_act 103 = .ok (.aload_n 0, 1) := by decide +kernel
theorem dX5_act_104 : decode cX5_act 104 = .ok (.dup, 1) := by decide +kernel
theorem dX5_act_105 : decode cX5_act 105 = .ok (.getfield 110, 3) := by decide +kernel
theorem dX5_act_108 : decode cX5_act 108 = .ok (.iconst 1, 1) := by decide +kernel
theorem dX5_act_109 : decode cX5_act 109 = .ok (.iadd, 1) := by decide +kernel
theorem dX5_act_110 : decode cX5_act 110 = .ok (.putfield 110, 3) := by decide +kernel
theorem dX5_act_113 : decode cX5_act 113 = .ok (.aload_n 0, 1) := by decide +kernel
theorem dX5_act_114 : decode cX5_act 114 = .ok (.invokevirtual 96, 3) := by decide +kernel
theorem dX5_act_117 : decode cX5_act 117 = .ok (.aload_n 0, 1) := by decide +kernel
theorem dX5_act_118 : decode cX5_act 118 = .ok (.getfield 110, 3) := by decide +kernel
theorem dX5_act_121 : decode cX5_act 121 = .ok (.iconst 1, 1) := by decide +kernel
theorem dX5_act_122 : decode cX5_act 122 = .ok (.isub, 1) := by decide +kernel
theorem dX5_act_123 : decode cX5_act 123 = .ok (.ireturn, 1) := by decide +kernel
theorem dX5_drop_0 : decode cX5_drop 0 = .ok (.iload_n 1, 1) := by decide +kernel
theorem dX5_drop_1 : decode cX5_drop 1 = .ok (.ifCond .lt 11, 3) := by decide +kernel
theorem dX5_drop_4 : decode cX5_drop 4 = .ok (.iload_n 1, 1) := by decide +kernel
theorem dX5_drop_5 : decode cX5_drop 5 = .ok (.aload_n 0, 1) := by decide +kernel
theorem dX5_drop_6 : decode cX5_drop 6 = .ok (.getfield 110, 3) := by decide +kernel
theorem dX5_drop_9 : decode cX5_drop 9 = .ok (.if_icmp .lt 6, 3) := by decide +kernel
theorem dX5_drop_12 : decode cX5_drop 12 = .ok (.bipush (-2), 2) := by decide +kernel
theorem dX5_drop_14 : decode cX5_drop 14 = .ok (.ireturn, 1) := by decide +kernel
theorem dX5_drop_15 : decode cX5_drop 15 = .ok (.aload_n 0, 1) := by decide +kernel
theorem dX5_drop_16 : decode cX5_drop 16 = .ok (.getfield 28, 3) := by decide +kernel
theorem dX5_drop_19 : decode cX5_drop 19 = .ok (.iload_n 1, 1) := by decide +kernel
theorem dX5_drop_20 : decode cX5_drop 20 = .ok (.baload, 1) := by decide +kernel
theorem dX5_drop_21 : decode cX5_drop 21 = .ok (.ifCond .eq 5, 3) := by decide +kernel
theorem dX5_drop_24 : decode cX5_drop 24 = .ok (.iconst 0, 1) := by decide +kernel
theorem dX5_drop_25 : decode cX5_drop 25 = .ok (.ireturn, 1) := by decide +kernel
theorem dX5_drop_26 : decode cX5_drop 26 = .ok (.aload_n 0, 1) := by decide +kernel
theorem dX5_drop_27 : decode cX5_drop 27 = .ok (.getfield 28, 3) := by decide +kernel
theorem dX5_drop_30 : decode cX5_drop 30 = .ok (.iload_n 1, 1) := by decide +kernel
theorem dX5_drop_31 : decode cX5_drop 31 = .ok (.iconst 1, 1) := by decide +kernel
theorem dX5_drop_32 : decode cX5_drop 32 = .ok (.bastore, 1) := by decide +kernel
theorem dX5_drop_33 : decode cX5_drop 33 = .ok (.aload_n 0, 1) := by decide +kernel
theorem dX5_drop_34 : decode cX5_drop 34 = .ok (.invokevirtual 96, 3) := by decide +kernel
theorem dX5_drop_37 : decode cX5_drop 37 = .ok (.iconst 1, 1) := by decide +kernel
theorem dX5_drop_38 : decode cX5_drop 38 = .ok (.ireturn, 1) := by decide +kernel
theorem dX5_flow_0 : decode cX5_flow 0 = .ok (.aload_n 0, 1) := by decide +kernel
theorem dX5_flow_1 : decode cX5_flow 1 = .ok (.getfield 32, 3) := by decide +kernel
theorem dX5_flow_4 : decode cX5_flow 4 = .ok (.iconst 0, 1) := by decide +kernel
theorem dX5_flow_5 : decode cX5_flow 5 = .ok (.iconst 1, 1) := by decide +kernel
theorem dX5_flow_6 : decode cX5_flow 6 = .ok (.bastore, 1) := by decide +kernel
theorem dX5_flow_7 : decode cX5_flow 7 = .ok (.aload_n 0, 1) := by decide +kernel
theorem dX5_flow_8 : decode cX5_flow 8 = .ok (.getfield 32, 3) := by decide +kernel
theorem dX5_flow_11 : decode cX5_flow 11 = .ok (.iconst 1, 1) := by decide +kernel
theorem dX5_flow_12 : decode cX5_flow 12 = .ok (.iconst 0, 1) := by decide +kernel
theorem dX5_flow_13 : decode cX5_flow 13 = .ok (.bastore, 1) := by decide +kernel
theorem dX5_flow_14 : decode cX5_flow 14 = .ok (.iconst 0, 1) := by decide +kernel
theorem dX5_flow_15 : decode cX5_flow 15 = .ok (.istore_n 1, 1) := by decide +kernel
theorem dX5_flow_16 : decode cX5_flow 16 = .ok (.iload_n 1, 1) := by decide +kernel
theorem dX5_flow_17 : decode cX5_flow 17 = .ok (.bipush 6, 2) := by decide +kernel
theorem dX5_flow_19 : decode cX5_flow 19 = .ok (.if_icmp .ge 37, 3) := by decide +kernel
theorem dX5_flow_22 : decode cX5_flow 22 = .ok (.aload_n 0, 1) := by decide +kernel
theorem dX5_flow_23 : decode cX5_flow 23 = .ok (.getfield 35, 3) := by decide +kernel
theorem dX5_flow_26 : decode cX5_flow 26 = .ok (.iload_n 1, 1) := by decide +kernel
theorem dX5_flow_27 : decode cX5_flow 27 = .ok (.lconst 0, 1) := by decide +kernel
theorem dX5_flow_28 : decode cX5_flow 28 = .ok (.lastore, 1) := by decide +kernel
theorem dX5_flow_29 : decode cX5_flow 29 = .ok (.aload_n 0, 1) := by decide +kernel
theorem dX5_flow_30 : decode cX5_flow 30 = .ok (.getfield 39, 3) := by decide +kernel
theorem dX5_flow_33 : decode cX5_flow 33 = .ok (.iload_n 1, 1) := by decide +kernel
theorem dX5_flow_34 : decode cX5_flow 34 = .ok (.lconst 0, 1) := by decide +kernel
theorem dX5_flow_35 : decode cX5_flow 35 = .ok (.lastore, 1) := by decide +kernel
theorem dX5_flow_36 : decode cX5_flow 36 = .ok (.aload_n 0, 1) := by decide +kernel
theorem dX5_flow_37 : decode cX5_flow 37 = .ok (.getfield 42, 3) := by decide +kernel
theorem dX5_flow_40 : decode cX5_flow 40 = .ok (.iload_n 1, 1) := by decide +kernel
theorem dX5_flow_41 : decode cX5_flow 41 = .ok (.lconst 0, 1) := by decide +kernel
theorem dX5_flow_42 : decode cX5_flow 42 = .ok (.lastore, 1) := by decide +kernel
theorem dX5_flow_43 : decode cX5_flow 43 = .ok (.aload_n 0, 1) := by decide +kernel
theorem dX5_flow_44 : decode cX5_flow 44 = .ok (.getfield 45, 3) := by decide +kernel
theorem dX5_flow_47 : decode cX5_flow 47 = .ok (.iload_n 1, 1) := by decide +kernel
theorem dX5_flow_48 : decode cX5_flow 48 = .ok (.iconst 1, 1) := by decide +kernel
theorem dX5_flow_49 : decode cX5_flow 49 = .ok (.bastore, 1) := by decide +kernel
theorem dX5_flow_50 : decode cX5_flow 50 = .ok (.iinc 1 1, 3) := by decide +kernel
theorem dX5_flow_53 : decode cX5_flow 53 = .ok (.goto (-37), 3) := by decide +kernel
theorem dX5_flow_56 : decode cX5_flow 56 = .ok (.iconst 0, 1) := by decide +kernel
theorem dX5_flow_57 : decode cX5_flow 57 = .ok (.istore_n 1, 1) := by decide +kernel
theorem dX5_flow_58 : decode cX5_flow 58 = .ok (.iload_n 1, 1) := by decide +kernel
theorem dX5_flow_59 : decode cX5_flow 59 = .ok (.bipush 40, 2) := by decide +kernel
theorem dX5_flow_61 : decode cX5_flow 61 = .ok (.if_icmp .ge 30, 3) := by decide +kernel
theorem dX5_flow_64 : decode cX5_flow 64 = .ok (.aload_n 0, 1) := by decide +kernel
theorem dX5_flow_65 : decode cX5_flow 65 = .ok (.getfield 48, 3) := by decide +kernel
theorem dX5_flow_68 : decode cX5_flow 68 = .ok (.iload_n 1, 1) := by decide +kernel
theorem dX5_flow_69 : decode cX5_flow 69 = .ok (.iconst 0, 1) := by decide +kernel
theorem dX5_flow_70 : decode cX5_flow 70 = .ok (.bastore, 1) := by decide +kernel
theorem dX5_flow_71 : decode cX5_flow 71 = .ok (.aload_n 0, 1) := by decide +kernel
theorem dX5_flow_72 : decode cX5_flow 72 = .ok (.getfield 66, 3) := by decide +kernel
theorem dX5_flow_75 : decode cX5_flow 75 = .ok (.iload_n 1, 1) := by decide +kernel
theorem dX5_flow_76 : decode cX5_flow 76 = .ok (.iconst 0, 1) := by decide +kernel
theorem dX5_flow_77 : decode cX5_flow 77 = .ok (.bastore, 1) := by decide +kernel
theorem dX5_flow_78 : decode cX5_flow 78 = .ok (.aload_n 0, 1) := by decide +kernel
theorem dX5_flow_79 : decode cX5_flow 79 = .ok (.getfield 69, 3) := by decide +kernel
theorem dX5_flow_82 : decode cX5_flow 82 = .ok (.iload_n 1, 1) := by decide +kernel
theorem dX5_flow_83 : decode cX5_flow 83 = .ok (.iconst 0, 1) := by decide +kernel
theorem dX5_flow_84 : decode cX5_flow 84 = .ok (.iastore, 1) := by decide +kernel
theorem dX5_flow_85 : decode cX5_flow 85 = .ok (.iinc 1 1, 3) := by decide +kernel
theorem dX5_flow_88 : decode cX5_flow 88 = .ok (.goto (-30), 3) := by decide +kernel
theorem dX5_flow_91 : decode cX5_flow 91 = .ok (.iconst (-1), 1) := by decide +kernel
theorem dX5_flow_92 : decode cX5_flow 92 = .ok (.istore_n 1, 1) := by decide +kernel
theorem dX5_flow_93 : decode cX5_flow 93 = .ok (.iconst 0, 1) := by decide +kernel
theorem dX5_flow_94 : decode cX5_flow 94 = .ok (.istore_n 2, 1) := by decide +kernel
theorem dX5_flow_95 : decode cX5_flow 95 = .ok (.iload_n 2, 1) := by decide +kernel
theorem dX5_flow_96 : decode cX5_flow 96 = .ok (.aload_n 0, 1) := by decide +kernel
theorem dX5_flow_97 : decode cX5_flow 97 = .ok (.getfield 110, 3) := by decide +kernel
theorem dX5_flow_100 : decode cX5_flow 100 = .ok (.if_icmp .ge 129, 3) := by decide +kernel
theorem dX5_flow_103 : decode cX5_flow 103 = .ok (.iload_n 2, 1) := by decide +kernel
theorem dX5_flow_104 : decode cX5_flow 104 = .ok (.iload_n 1, 1) := by decide +kernel
theorem dX5_flow_105 : decode cX5_flow 105 = .ok (.if_icmp .ne 9, 3) := by decide +kernel
theorem dX5_flow_108 : decode cX5_flow 108 = .ok (.aload_n 0, 1) := by decide +kernel
theorem dX5_flow_109 : decode cX5_flow 109 = .ok (.invokevirtual 160, 3) := by decide +kernel
theorem dX5_flow_112 : decode cX5_flow 112 = .ok (.iconst (-1), 1) := by decide +kernel
theorem dX5_flow_113 : decode cX5_flow 113 = .ok (.istore_n 1, 1) := by decide +kernel
theorem dX5_flow_114 : decode cX5_flow 114 = .ok (.aload_n 0, 1) := by decide +kernel
theorem dX5_flow_115 : decode cX5_flow 115 = .ok (.getfield 28, 3) := by decide +kernel
theorem dX5_flow_118 : decode cX5_flow 118 = .ok (.iload_n 2, 1) := by decide +kernel
theorem dX5_flow_119 : decode cX5_flow 119 = .ok (.baload, 1) := by decide +kernel
theorem dX5_flow_120 : decode cX5_flow 120 = .ok (.ifCond .ne 103, 3) := by decide +kernel
theorem dX5_flow_123 : decode cX5_flow 123 = .ok (.aload_n 0, 1) := by decide +kernel
theorem dX5_flow_124 : decode cX5_flow 124 = .ok (.getfield 66, 3) := by decide +kernel
theorem dX5_flow_127 : decode cX5_flow 127 = .ok (.iload_n 2, 1) := by decide +kernel
theorem dX5_flow_128 : decode cX5_flow 128 = .ok (.aload_n 0, 1) := by decide +kernel
theorem dX5_flow_129 : decode cX5_flow 129 = .ok (.getfield 32, 3) := by decide +kernel
theorem dX5_flow_132 : decode cX5_flow 132 = .ok (.iconst 0, 1) := by decide +kernel
theorem dX5_flow_133 : decode cX5_flow 133 = .ok (.baload, 1) := by decide +kernel
theorem dX5_flow_134 : decode cX5_flow 134 = .ok (.bastore, 1) := by decide +kernel
theorem dX5_flow_135 : decode cX5_flow 135 = .ok (.aload_n 0, 1) := by decide +kernel
theorem dX5_flow_136 : decode cX5_flow 136 = .ok (.getfield 7, 3) := by decide +kernel
theorem dX5_flow_139 : decode cX5_flow 139 = .ok (.iload_n 2, 1) := by decide +kernel
theorem dX5_flow_140 : decode cX5_flow 140 = .ok (.iaload, 1) := by decide +kernel
theorem dX5_flow_141 : decode cX5_flow 141 = .ok (.bipush 14, 2) := by decide +kernel
theorem dX5_flow_143 : decode cX5_flow 143 = .ok (.if_icmp .ne 66, 3) := by decide +kernel
theorem dX5_flow_146 : decode cX5_flow 146 = .ok (.iload_n 1, 1) := by decide +kernel
theorem dX5_flow_147 : decode cX5_flow 147 = .ok (.ifCond .ge 76, 3) := by decide +kernel
theorem dX5_flow_150 : decode cX5_flow 150 = .ok (.aload_n 0, 1) := by decide +kernel
theorem dX5_flow_151 : decode cX5_flow 151 = .ok (.iconst 0, 1) := by decide +kernel
theorem dX5_flow_152 : decode cX5_flow 152 = .ok (.iconst 1, 1) := by decide +kernel
theorem dX5_flow_153 : decode cX5_flow 153 = .ok (.invokevirtual 154, 3) := by decide +kernel
theorem dX5_flow_156 : decode cX5_flow 156 = .ok (.iload_n 2, 1) := by decide +kernel
theorem dX5_flow_157 : decode cX5_flow 157 = .ok (.aload_n 0, 1) := by decide +kernel
theorem dX5_flow_158 : decode cX5_flow 158 = .ok (.getfield 16, 3) := by decide +kernel
theorem dX5_flow_161 : decode cX5_flow 161 = .ok (.iload_n 2, 1) := by decide +kernel
theorem dX5_flow_162 : decode cX5_flow 162 = .ok (.iaload, 1) := by decide +kernel
theorem dX5_flow_163 : decode cX5_flow 163 = .ok (.iadd, 1) := by decide +kernel
theorem dX5_flow_164 : decode cX5_flow 164 = .ok (.aload_n 0, 1) := by decide +kernel
theorem dX5_flow_165 : decode cX5_flow 165 = .ok (.getfield 110, 3) := by decide +kernel
theorem dX5_flow_168 : decode cX5_flow 168 = .ok (.if_icmp .ge 16, 3) := by decide +kernel
theorem dX5_flow_171 : decode cX5_flow 171 = .ok (.iload_n 2, 1) := by decide +kernel
theorem dX5_flow_172 : decode cX5_flow 172 = .ok (.aload_n 0, 1) := by decide +kernel
theorem dX5_flow_173 : decode cX5_flow 173 = .ok (.getfield 16, 3) := by decide +kernel
theorem dX5_flow_176 : decode cX5_flow 176 = .ok (.iload_n 2, 1) := by decide +kernel
theorem dX5_flow_177 : decode cX5_flow 177 = .ok (.iaload, 1) := by decide +kernel
theorem dX5_flow_178 : decode cX5_flow 178 = .ok (.iadd, 1) := by decide +kernel
theorem dX5_flow_179 : decode cX5_flow 179 = .ok (.iconst 1, 1) := by decide +kernel
theorem dX5_flow_180 : decode cX5_flow 180 = .ok (.iadd, 1) := by decide +kernel
theorem dX5_flow_181 : decode cX5_flow 181 = .ok (.goto 7, 3) := by decide +kernel
theorem dX5_flow_184 : decode cX5_flow 184 = .ok (.aload_n 0, 1) := by decide +kernel
theorem dX5_flow_185 : decode cX5_flow 185 = .ok (.getfield 110, 3) := by decide +kernel
theorem dX5_flow_188 : decode cX5_flow 188 = .ok (.istore_n 1, 1) := by decide +kernel
theorem dX5_flow_189 : decode cX5_flow 189 = .ok (.iload_n 1, 1) := by decide +kernel
theorem dX5_flow_190 : decode cX5_flow 190 = .ok (.aload_n 0, 1) := by decide +kernel
theorem dX5_flow_191 : decode cX5_flow 191 = .ok (.getfield 110, 3) := by decide +kernel
theorem dX5_flow_194 : decode cX5_flow 194 = .ok (.if_icmp .le 10, 3) := by decide +kernel
theorem dX5_flow_197 : decode cX5_flow 197 = .ok (.aload_n 0, 1) := by decide +kernel
theorem dX5_flow_198 : decode cX5_flow 198 = .ok (.getfield 110, 3) := by decide +kernel
theorem dX5_flow_201 : decode cX5_flow 201 = .ok (.goto 4, 3) := by decide +kernel
theorem dX5_flow_204 : decode cX5_flow 204 = .ok (.iload_n 1, 1) := by decide +kernel
theorem dX5_flow_205 : decode cX5_flow 205 = .ok (.istore_n 1, 1) := by decide +kernel
theorem dX5_flow_206 : decode cX5_flow 206 = .ok (.goto 17, 3) := by decide +kernel
theorem dX5_flow_209 : decode cX5_flow 209 = .ok (.aload_n 0, 1) := by decide +kernel
theorem dX5_flow_210 : decode cX5_flow 210 = .ok (.getfield 32, 3) := by decide +kernel
theorem dX5_flow_213 : decode cX5_flow 213 = .ok (.iconst 0, 1) := by decide +kernel
theorem dX5_flow_214 : decode cX5_flow 214 = .ok (.baload, 1) := by decide +kernel
theorem dX5_flow_215 : decode cX5_flow 215 = .ok (.ifCond .eq 8, 3) := by decide +kernel
theorem dX5_flow_218 : decode cX5_flow 218 = .ok (.aload_n 0, 1) := by decide +kernel
theorem dX5_flow_219 : decode cX5_flow 219 = .ok (.iload_n 2, 1) := by decide +kernel
theorem dX5_flow_220 : decode cX5_flow 220 = .ok (.invokevirtual 163, 3) := by decide +kernel
theorem dX5_flow_223 : decode cX5_flow 223 = .ok (.iinc 2 1, 3) := by decide +kernel
theorem dX5_flow_226 : decode cX5_flow 226 = .ok (.goto (-131), 3) := by decide +kernel
theorem dX5_flow_229 : decode cX5_flow 229 = .ok (.iload_n 1, 1) := by decide +kernel
theorem dX5_flow_230 : decode cX5_flow 230 = .ok (.ifCond .lt 7, 3) := by decide +kernel
theorem dX5_flow_233 : decode cX5_flow 233 = .ok (.aload_n 0, 1) := by decide +kernel
theorem dX5_flow_234 : decode cX5_flow 234 = .ok (.invokevirtual 160, 3) := by decide +kernel
theorem dX5_flow_237 : decode cX5_flow 237 = .ok (.return_, 1) := by decide +kernel
theorem dX5_reached_0 : decode cX5_reached 0 = .ok (.iload_n 1, 1) := by decide +kernel
theorem dX5_reached_1 : decode cX5_reached 1 = .ok (.ifCond .lt 11, 3) := by decide +kernel
theorem dX5_reached_4 : decode cX5_reached 4 = .ok (.iload_n 1, 1) := by decide +kernel
theorem dX5_reached_5 : decode cX5_reached 5 = .ok (.aload_n 0, 1) := by decide +kernel
theorem dX5_reached_6 : decode cX5_reached 6 = .ok (.getfield 110, 3) := by decide +kernel
theorem dX5_reached_9 : decode cX5_reached 9 = .ok (.if_icmp .lt 6, 3) := by decide +kernel
theorem dX5_reached_12 : decode cX5_reached 12 = .ok (.bipush (-2), 2) := by decide +kernel
theorem dX5_reached_14 : decode cX5_reached 14 = .ok (.ireturn, 1) := by decide +kernel
theorem dX5_reached_15 : decode cX5_reached 15 = .ok (.aload_n 0, 1) := by decide +kernel
theorem dX5_reached_16 : decode cX5_reached 16 = .ok (.invokevirtual 253, 3) := by decide +kernel
theorem dX5_reached_19 : decode cX5_reached 19 = .ok (.aload_n 0, 1) := by decide +kernel
theorem dX5_reached_20 : decode cX5_reached 20 = .ok (.getfield 66, 3) := by decide +kernel
theorem dX5_reached_23 : decode cX5_reached 23 = .ok (.iload_n 1, 1) := by decide +kernel
theorem dX5_reached_24 : decode cX5_reached 24 = .ok (.baload, 1) := by decide +kernel
theorem dX5_reached_25 : decode cX5_reached 25 = .ok (.ifCond .eq 7, 3) := by decide +kernel
theorem dX5_reached_28 : decode cX5_reached 28 = .ok (.iconst 1, 1) := by decide +kernel
theorem dX5_reached_29 : decode cX5_reached 29 = .ok (.goto 4, 3) := by decide +kernel
theorem dX5_reached_32 : decode cX5_reached 32 = .ok (.iconst 0, 1) := by decide +kernel
theorem dX5_reached_33 : decode cX5_reached 33 = .ok (.ireturn, 1) := by decide +kernel
theorem dX5_throwsAt_0 : decode cX5_throwsAt 0 = .ok (.iload_n 1, 1) := by decide +kernel
theorem dX5_throwsAt_1 : decode cX5_throwsAt 1 = .ok (.ifCond .lt 11, 3) := by decide +kernel
theorem dX5_throwsAt_4 : decode cX5_throwsAt 4 = .ok (.iload_n 1, 1) := by decide +kernel
theorem dX5_throwsAt_5 : decode cX5_throwsAt 5 = .ok (.aload_n 0, 1) := by decide +kernel
theorem dX5_throwsAt_6 : decode cX5_throwsAt 6 = .ok (.getfield 110, 3) := by decide +kernel
theorem dX5_throwsAt_9 : decode cX5_throwsAt 9 = .ok (.if_icmp .lt 6, 3) := by decide +kernel
theorem dX5_throwsAt_12 : decode cX5_throwsAt 12 = .ok (.bipush (-2), 2) := by decide +kernel
theorem dX5_throwsAt_14 : decode cX5_throwsAt 14 = .ok (.ireturn, 1) := by decide +kernel
theorem dX5_throwsAt_15 : decode cX5_throwsAt 15 = .ok (.aload_n 0, 1) := by decide +kernel
theorem dX5_throwsAt_16 : decode cX5_throwsAt 16 = .ok (.invokevirtual 253, 3) := by decide +kernel
theorem dX5_throwsAt_19 : decode cX5_throwsAt 19 = .ok (.aload_n 0, 1) := by decide +kernel
theorem dX5_throwsAt_20 : decode cX5_throwsAt 20 = .ok (.getfield 69, 3) := by decide +kernel
theorem dX5_throwsAt_23 : decode cX5_throwsAt 23 = .ok (.iload_n 1, 1) := by decide +kernel
theorem dX5_throwsAt_24 : decode cX5_throwsAt 24 = .ok (.iaload, 1) := by decide +kernel
theorem dX5_throwsAt_25 : decode cX5_throwsAt 25 = .ok (.ireturn, 1) := by decide +kernel
theorem dX5_ends_0 : decode cX5_ends 0 = .ok (.aload_n 0, 1) := by decide +kernel
theorem dX5_ends_1 : decode cX5_ends 1 = .ok (.invokevirtual 253, 3) := by decide +kernel
theorem dX5_ends_4 : decode cX5_ends 4 = .ok (.aload_n 0, 1) := by decide +kernel
theorem dX5_ends_5 : decode cX5_ends 5 = .ok (.getfield 32, 3) := by decide +kernel
theorem dX5_ends_8 : decode cX5_ends 8 = .ok (.iconst 0, 1) := by decide +kernel
theorem dX5_ends_9 : decode cX5_ends 9 = .ok (.baload, 1) := by decide +kernel
theorem dX5_ends_10 : decode cX5_ends 10 = .ok (.ifCond .eq 7, 3) := by decide +kernel
theorem dX5_ends_13 : decode cX5_ends 13 = .ok (.iconst 1, 1) := by decide +kernel
theorem dX5_ends_14 : decode cX5_ends 14 = .ok (.goto 4, 3) := by decide +kernel
theorem dX5_ends_17 : decode cX5_ends 17 = .ok (.iconst 0, 1) := by decide +kernel
theorem dX5_ends_18 : decode cX5_ends 18 = .ok (.ireturn, 1) := by decide +kernel
theorem dX5_tell_0 : decode cX5_tell 0 = .ok (.aload_n 0, 1) := by decide +kernel
theorem dX5_tell_1 : decode cX5_tell 1 = .ok (.iconst 0, 1) := by decide +kernel
theorem dX5_tell_2 : decode cX5_tell 2 = .ok (.putfield 256, 3) := by decide +kernel
theorem dX5_tell_5 : decode cX5_tell 5 = .ok (.lload_n 1, 1) := by decide +kernel
theorem dX5_tell_6 : decode cX5_tell 6 = .ok (.l2i, 1) := by decide +kernel
theorem dX5_tell_7 : decode cX5_tell 7 = .ok (.ireturn, 1) := by decide +kernel
theorem dX5_refuse_0 : decode cX5_refuse 0 = .ok (.aload_n 0, 1) := by decide +kernel
theorem dX5_refuse_1 : decode cX5_refuse 1 = .ok (.iload_n 1, 1) := by decide +kernel
theorem dX5_refuse_2 : decode cX5_refuse 2 = .ok (.putfield 256, 3) := by decide +kernel
theorem dX5_refuse_5 : decode cX5_refuse 5 = .ok (.iload_n 1, 1) := by decide +kernel
theorem dX5_refuse_6 : decode cX5_refuse 6 = .ok (.ireturn, 1) := by decide +kernel
theorem dX5_variable_0 : decode cX5_variable 0 = .ok (.iload_n 1, 1) := by decide +kernel
theorem dX5_variable_1 : decode cX5_variable 1 = .ok (.invokestatic 115, 3) := by decide +kernel
theorem dX5_variable_4 : decode cX5_variable 4 = .ok (.ifCond .eq 12, 3) := by decide +kernel
theorem dX5_variable_7 : decode cX5_variable 7 = .ok (.iload_n 2, 1) := by decide +kernel
theorem dX5_variable_8 : decode cX5_variable 8 = .ok (.ifCond .lt 8, 3) := by decide +kernel
theorem dX5_variable_11 : decode cX5_variable 11 = .ok (.iload_n 2, 1) := by decide +kernel
theorem dX5_variable_12 : decode cX5_variable 12 = .ok (.iconst 1, 1) := by decide +kernel
theorem dX5_variable_13 : decode cX5_variable 13 = .ok (.if_icmp .le 10, 3) := by decide +kernel
theorem dX5_variable_16 : decode cX5_variable 16 = .ok (.aload_n 0, 1) := by decide +kernel
theorem dX5_variable_17 : decode cX5_variable 17 = .ok (.bipush (-2), 2) := by decide +kernel
theorem dX5_variable_19 : decode cX5_variable 19 = .ok (.invokevirtual 259, 3) := by decide +kernel
theorem dX5_variable_22 : decode cX5_variable 22 = .ok (.ireturn, 1) := by decide +kernel
theorem dX5_variable_23 : decode cX5_variable 23 = .ok (.aload_n 0, 1) := by decide +kernel
theorem dX5_variable_24 : decode cX5_variable 24 = .ok (.invokevirtual 253, 3) := by decide +kernel
theorem dX5_variable_27 : decode cX5_variable 27 = .ok (.aload_n 0, 1) := by decide +kernel
theorem dX5_variable_28 : decode cX5_variable 28 = .ok (.getfield 32, 3) := by decide +kernel
theorem dX5_variable_31 : decode cX5_variable 31 = .ok (.iconst 0, 1) := by decide +kernel
theorem dX5_variable_32 : decode cX5_variable 32 = .ok (.baload, 1) := by decide +kernel
theorem dX5_variable_33 : decode cX5_variable 33 = .ok (.ifCond .ne 12, 3) := by decide +kernel
theorem dX5_variable_36 : decode cX5_variable 36 = .ok (.aload_n 0, 1) := by decide +kernel
theorem dX5_variable_37 : decode cX5_variable 37 = .ok (.bipush (-3), 2) := by decide +kernel
theorem dX5_variable_39 : decode cX5_variable 39 = .ok (.invokevirtual 259, 3) := by decide +kernel
theorem dX5_variable_42 : decode cX5_variable 42 = .ok (.goto 26, 3) := by decide +kernel
theorem dX5_variable_45 : decode cX5_variable 45 = .ok (.aload_n 0, 1) := by decide +kernel
theorem dX5_variable_46 : decode cX5_variable 46 = .ok (.iload_n 2, 1) := by decide +kernel
theorem dX5_variable_47 : decode cX5_variable 47 = .ok (.ifCond .ne 12, 3) := by decide +kernel
theorem dX5_variable_50 : decode cX5_variable 50 = .ok (.aload_n 0, 1) := by decide +kernel
theorem dX5_variable_51 : decode cX5_variable 51 = .ok (.getfield 35, 3) := by decide +kernel
theorem dX5_variable_54 : decode cX5_variable 54 = .ok (.iload_n 1, 1) := by decide +kernel
theorem dX5_variable_55 : decode cX5_variable 55 = .ok (.laload, 1) := by decide +kernel
theorem dX5_variable_56 : decode cX5_variable 56 = .ok (.goto 9, 3) := by decide +kernel
theorem dX5_variable_59 : decode cX5_variable 59 = .ok (.aload_n 0, 1) := by decide +kernel
theorem dX5_variable_60 : decode cX5_variable 60 = .ok (.getfield 39, 3) := by decide +kernel
theorem dX5_variable_63 : decode cX5_variable 63 = .ok (.iload_n 1, 1) := by decide +kernel
theorem dX5_variable_64 : decode cX5_variable 64 = .ok (.laload, 1) := by decide +kernel
theorem dX5_variable_65 : decode cX5_variable 65 = .ok (.invokevirtual 262, 3) := by decide +kernel
theorem dX5_variable_68 : decode cX5_variable 68 = .ok (.ireturn, 1) := by decide +kernel
theorem dX5_reference_0 : decode cX5_reference 0 = .ok (.iload_n 1, 1) := by decide +kernel
theorem dX5_reference_1 : decode cX5_reference 1 = .ok (.invokestatic 115, 3) := by decide +kernel
theorem dX5_reference_4 : decode cX5_reference 4 = .ok (.ifCond .ne 6, 3) := by decide +kernel
theorem dX5_reference_7 : decode cX5_reference 7 = .ok (.bipush (-2), 2) := by decide +kernel
theorem dX5_reference_9 : decode cX5_reference 9 = .ok (.ireturn, 1) := by decide +kernel
theorem dX5_reference_10 : decode cX5_reference 10 = .ok (.aload_n 0, 1) := by decide +kernel
theorem dX5_reference_11 : decode cX5_reference 11 = .ok (.invokevirtual 253, 3) := by decide +kernel
theorem dX5_reference_14 : decode cX5_reference 14 = .ok (.aload_n 0, 1) := by decide +kernel
theorem dX5_reference_15 : decode cX5_reference 15 = .ok (.getfield 32, 3) := by decide +kernel
theorem dX5_reference_18 : decode cX5_reference 18 = .ok (.iconst 0, 1) := by decide +kernel
theorem dX5_reference_19 : decode cX5_reference 19 = .ok (.baload, 1) := by decide +kernel
theorem dX5_reference_20 : decode cX5_reference 20 = .ok (.ifCond .ne 6, 3) := by decide +kernel
theorem dX5_reference_23 : decode cX5_reference 23 = .ok (.bipush (-3), 2) := by decide +kernel
theorem dX5_reference_25 : decode cX5_reference 25 = .ok (.ireturn, 1) := by decide +kernel
theorem dX5_reference_26 : decode cX5_reference 26 = .ok (.iconst 0, 1) := by decide +kernel
theorem dX5_reference_27 : decode cX5_reference 27 = .ok (.istore_n 2, 1) := by decide +kernel
theorem dX5_reference_28 : decode cX5_reference 28 = .ok (.iconst 0, 1) := by decide +kernel
theorem dX5_reference_29 : decode cX5_reference 29 = .ok (.istore_n 3, 1) := by decide +kernel
theorem dX5_reference_30 : decode cX5_reference 30 = .ok (.iload_n 3, 1) := by decide +kernel
theorem dX5_reference_31 : decode cX5_reference 31 = .ok (.bipush 40, 2) := by decide +kernel
theorem dX5_reference_33 : decode cX5_reference 33 = .ok (.if_icmp .ge 26, 3) := by decide +kernel
theorem dX5_reference_36 : decode cX5_reference 36 = .ok (.iload_n 2, 1) := by decide +kernel
theorem dX5_reference_37 : decode cX5_reference 37 = .ok (.aload_n 0, 1) := by decide +kernel
theorem dX5_reference_38 : decode cX5_reference 38 = .ok (.iload_n 1, 1) := by decide +kernel
theorem dX5_reference_39 : decode cX5_reference 39 = .ok (.iload_n 3, 1) := by decide +kernel
theorem dX5_reference_40 : decode cX5_reference 40 = .ok (.invokevirtual 169, 3) := by decide +kernel
theorem dX5_reference_43 : decode cX5_reference 43 = .ok (.ifCond .eq 7, 3) := by decide +kernel
theorem dX5_reference_46 : decode cX5_reference 46 = .ok (.iconst 2, 1) := by decide +kernel
theorem dX5_reference_47 : decode cX5_reference 47 = .ok (.goto 4, 3) := by decide +kernel
theorem dX5_reference_50 : decode cX5_reference 50 = .ok (.iconst 0, 1) := by decide +kernel
theorem dX5_reference_51 : decode cX5_reference 51 = .ok (.iadd, 1) := by decide +kernel
theorem dX5_reference_52 : decode cX5_reference 52 = .ok (.istore_n 2, 1) := by decide +kernel
theorem dX5_reference_53 : decode cX5_reference 53 = .ok (.iinc 3 1, 3) := by decide +kernel
theorem dX5_reference_56 : decode cX5_reference 56 = .ok (.goto (-26), 3) := by decide +kernel
theorem dX5_reference_59 : decode cX5_reference 59 = .ok (.iload_n 2, 1) := by decide +kernel
theorem dX5_reference_60 : decode cX5_reference 60 = .ok (.aload_n 0, 1) := by decide +kernel
theorem dX5_reference_61 : decode cX5_reference 61 = .ok (.getfield 45, 3) := by decide +kernel
theorem dX5_reference_64 : decode cX5_reference 64 = .ok (.iload_n 1, 1) := by decide +kernel
theorem dX5_reference_65 : decode cX5_reference 65 = .ok (.baload, 1) := by decide +kernel
theorem dX5_reference_66 : decode cX5_reference 66 = .ok (.ifCond .eq 7, 3) := by decide +kernel
theorem dX5_reference_69 : decode cX5_reference 69 = .ok (.iconst 1, 1) := by decide +kernel
theorem dX5_reference_70 : decode cX5_reference 70 = .ok (.goto 4, 3) := by decide +kernel
theorem dX5_reference_73 : decode cX5_reference 73 = .ok (.iconst 0, 1) := by decide +kernel
theorem dX5_reference_74 : decode cX5_reference 74 = .ok (.iadd, 1) := by decide +kernel
theorem dX5_reference_75 : decode cX5_reference 75 = .ok (.ireturn, 1) := by decide +kernel
theorem dX5_has_0 : decode cX5_has 0 = .ok (.aload_n 0, 1) := by decide +kernel
theorem dX5_has_1 : decode cX5_has 1 = .ok (.getfield 42, 3) := by decide +kernel
theorem dX5_has_4 : decode cX5_has 4 = .ok (.iload_n 1, 1) := by decide +kernel
theorem dX5_has_5 : decode cX5_has 5 = .ok (.laload, 1) := by decide +kernel
theorem dX5_has_6 : decode cX5_has 6 = .ok (.iload_n 2, 1) := by decide +kernel
theorem dX5_has_7 : decode cX5_has 7 = .ok (.lshr, 1) := by decide +kernel
theorem dX5_has_8 : decode cX5_has 8 = .ok (.lconst 1, 1) := by decide +kernel
theorem dX5_has_9 : decode cX5_has 9 = .ok (.land, 1) := by decide +kernel
theorem dX5_has_10 : decode cX5_has 10 = .ok (.lconst 1, 1) := by decide +kernel
theorem dX5_has_11 : decode cX5_has 11 = .ok (.lcmp, 1) := by decide +kernel
theorem dX5_has_12 : decode cX5_has 12 = .ok (.ifCond .ne 7, 3) := by decide +kernel
theorem dX5_has_15 : decode cX5_has 15 = .ok (.iconst 1, 1) := by decide +kernel
theorem dX5_has_16 : decode cX5_has 16 = .ok (.goto 4, 3) := by decide +kernel
theorem dX5_has_19 : decode cX5_has 19 = .ok (.iconst 0, 1) := by decide +kernel
theorem dX5_has_20 : decode cX5_has 20 = .ok (.ireturn, 1) := by decide +kernel
theorem dX5_means_0 : decode cX5_means 0 = .ok (.iload_n 1, 1) := by decide +kernel
theorem dX5_means_1 : decode cX5_means 1 = .ok (.invokestatic 115, 3) := by decide +kernel
theorem dX5_means_4 : decode cX5_means 4 = .ok (.ifCond .eq 15, 3) := by decide +kernel
theorem dX5_means_7 : decode cX5_means 7 = .ok (.iload_n 2, 1) := by decide +kernel
theorem dX5_means_8 : decode cX5_means 8 = .ok (.ifCond .lt 11, 3) := by decide +kernel
theorem dX5_means_11 : decode cX5_means 11 = .ok (.iload_n 2, 1) := by decide +kernel
theorem dX5_means_12 : decode cX5_means 12 = .ok (.aload_n 0, 1) := by decide +kernel
theorem dX5_means_13 : decode cX5_means 13 = .ok (.getfield 110, 3) := by decide +kernel
theorem dX5_means_16 : decode cX5_means 16 = .ok (.if_icmp .lt 6, 3) := by decide +kernel
theorem dX5_means_19 : decode cX5_means 19 = .ok (.bipush (-2), 2) := by decide +kernel
theorem dX5_means_21 : decode cX5_means 21 = .ok (.ireturn, 1) := by decide +kernel
theorem dX5_means_22 : decode cX5_means 22 = .ok (.aload_n 0, 1) := by decide +kernel
theorem dX5_means_23 : decode cX5_means 23 = .ok (.invokevirtual 253, 3) := by decide +kernel
theorem dX5_means_26 : decode cX5_means 26 = .ok (.aload_n 0, 1) := by decide +kernel
theorem dX5_means_27 : decode cX5_means 27 = .ok (.getfield 32, 3) := by decide +kernel
theorem dX5_means_30 : decode cX5_means 30 = .ok (.iconst 0, 1) := by decide +kernel
theorem dX5_means_31 : decode cX5_means 31 = .ok (.baload, 1) := by decide +kernel
theorem dX5_means_32 : decode cX5_means 32 = .ok (.ifCond .ne 8, 3) := by decide +kernel
theorem dX5_means_35 : decode cX5_means 35 = .ok (.bipush (-3), 2) := by decide +kernel
theorem dX5_means_37 : decode cX5_means 37 = .ok (.goto 17, 3) := by decide +kernel
theorem dX5_means_40 : decode cX5_means 40 = .ok (.aload_n 0, 1) := by decide +kernel
theorem dX5_means_41 : decode cX5_means 41 = .ok (.iload_n 1, 1) := by decide +kernel
theorem dX5_means_42 : decode cX5_means 42 = .ok (.iload_n 2, 1) := by decide +kernel
theorem dX5_means_43 : decode cX5_means 43 = .ok (.invokevirtual 169, 3) := by decide +kernel
theorem dX5_means_46 : decode cX5_means 46 = .ok (.ifCond .eq 7, 3) := by decide +kernel
theorem dX5_means_49 : decode cX5_means 49 = .ok (.iconst 1, 1) := by decide +kernel
theorem dX5_means_50 : decode cX5_means 50 = .ok (.goto 4, 3) := by decide +kernel
theorem dX5_means_53 : decode cX5_means 53 = .ok (.iconst 0, 1) := by decide +kernel
theorem dX5_means_54 : decode cX5_means 54 = .ok (.ireturn, 1) := by decide +kernel
theorem dX5_array_0 : decode cX5_array 0 = .ok (.iload_n 1, 1) := by decide +kernel
theorem dX5_array_1 : decode cX5_array 1 = .ok (.ifCond .lt 20, 3) := by decide +kernel
theorem dX5_array_4 : decode cX5_array 4 = .ok (.iload_n 1, 1) := by decide +kernel
theorem dX5_array_5 : decode cX5_array 5 = .ok (.aload_n 0, 1) := by decide +kernel
theorem dX5_array_6 : decode cX5_array 6 = .ok (.getfield 110, 3) := by decide +kernel
theorem dX5_array_9 : decode cX5_array 9 = .ok (.if_icmp .ge 12, 3) := by decide +kernel
theorem dX5_array_12 : decode cX5_array 12 = .ok (.iload_n 2, 1) := by decide +kernel
theorem dX5_array_13 : decode cX5_array 13 = .ok (.ifCond .lt 8, 3) := by decide +kernel
theorem dX5_array_16 : decode cX5_array 16 = .ok (.iload_n 2, 1) := by decide +kernel
theorem dX5_array_17 : decode cX5_array 17 = .ok (.iconst 4, 1) := by decide +kernel
theorem dX5_array_18 : decode cX5_array 18 = .ok (.if_icmp .le 6, 3) := by decide +kernel
theorem dX5_array_21 : decode cX5_array 21 = .ok (.bipush (-2), 2) := by decide +kernel
theorem dX5_array_23 : decode cX5_array 23 = .ok (.ireturn, 1) := by decide +kernel
theorem dX5_array_24 : decode cX5_array 24 = .ok (.aload_n 0, 1) := by decide +kernel
theorem dX5_array_25 : decode cX5_array 25 = .ok (.iload_n 1, 1) := by decide +kernel
theorem dX5_array_26 : decode cX5_array 26 = .ok (.invokevirtual 269, 3) := by decide +kernel
theorem dX5_array_29 : decode cX5_array 29 = .ok (.istore_n 3, 1) := by decide +kernel
theorem dX5_array_30 : decode cX5_array 30 = .ok (.iload_n 3, 1) := by decide +kernel
theorem dX5_array_31 : decode cX5_array 31 = .ok (.ifCond .eq 5, 3) := by decide +kernel
theorem dX5_array_34 : decode cX5_array 34 = .ok (.iload_n 3, 1) := by decide +kernel
theorem dX5_array_35 : decode cX5_array 35 = .ok (.ireturn, 1) := by decide +kernel
theorem dX5_array_36 : decode cX5_array 36 = .ok (.iload_n 2, 1) := by decide +kernel
theorem dX5_array_37 : decode cX5_array 37 = .ok (.ifCond .ne 12, 3) := by decide +kernel
theorem dX5_array_40 : decode cX5_array 40 = .ok (.aload_n 0, 1) := by decide +kernel
theorem dX5_array_41 : decode cX5_array 41 = .ok (.getfield 51, 3) := by decide +kernel
theorem dX5_array_44 : decode cX5_array 44 = .ok (.iload_n 1, 1) := by decide +kernel
theorem dX5_array_45 : decode cX5_array 45 = .ok (.iaload, 1) := by decide +kernel
theorem dX5_array_46 : decode cX5_array 46 = .ok (.goto 59, 3) := by decide +kernel
theorem dX5_array_49 : decode cX5_array 49 = .ok (.iload_n 2, 1) := by decide +kernel
theorem dX5_array_50 : decode cX5_array 50 = .ok (.iconst 1, 1) := by decide +kernel
theorem dX5_array_51 : decode cX5_array 51 = .ok (.if_icmp .ne 13, 3) := by decide +kernel
theorem dX5_array_54 : decode cX5_array 54 = .ok (.aload_n 0, 1) := by decide +kernel
theorem dX5_array_55 : decode cX5_array 55 = .ok (.getfield 54, 3) := by decide +kernel
theorem dX5_array_58 : decode cX5_array 58 = .ok (.iload_n 1, 1) := by decide +kernel
theorem dX5_array_59 : decode cX5_array 59 = .ok (.laload, 1) := by decide +kernel
theorem dX5_array_60 : decode cX5_array 60 = .ok (.l2i, 1) := by decide +kernel
theorem dX5_array_61 : decode cX5_array 61 = .ok (.goto 44, 3) := by decide +kernel
theorem dX5_array_64 : decode cX5_array 64 = .ok (.iload_n 2, 1) := by decide +kernel
theorem dX5_array_65 : decode cX5_array 65 = .ok (.iconst 2, 1) := by decide +kernel
theorem dX5_array_66 : decode cX5_array 66 = .ok (.if_icmp .ne 13, 3) := by decide +kernel
theorem dX5_array_69 : decode cX5_array 69 = .ok (.aload_n 0, 1) := by decide +kernel
theorem dX5_array_70 : decode cX5_array 70 = .ok (.getfield 57, 3) := by decide +kernel
theorem dX5_array_73 : decode cX5_array 73 = .ok (.iload_n 1, 1) := by decide +kernel
theorem dX5_array_74 : decode cX5_array 74 = .ok (.laload, 1) := by decide +kernel
theorem dX5_array_75 : decode cX5_array 75 = .ok (.l2i, 1) := by decide +kernel
theorem dX5_array_76 : decode cX5_array 76 = .ok (.goto 29, 3) := by decide +kernel
theorem dX5_array_79 : decode cX5_array 79 = .ok (.iload_n 2, 1) := by decide +kernel
theorem dX5_array_80 : decode cX5_array 80 = .ok (.iconst 3, 1) := by decide +kernel
theorem dX5_array_81 : decode cX5_array 81 = .ok (.if_icmp .ne 11, 3) := by decide +kernel
theorem dX5_array_84 : decode cX5_array 84 = .ok (.aload_n 0, 1) := by decide +kernel
theorem dX5_array_85 : decode cX5_array 85 = .ok (.iload_n 1, 1) := by decide +kernel
theorem dX5_array_86 : decode cX5_array 86 = .ok (.invokevirtual 272, 3) := by decide +kernel
theorem dX5_array_89 : decode cX5_array 89 = .ok (.goto 16, 3) := by decide +kernel
theorem dX5_array_92 : decode cX5_array 92 = .ok (.aload_n 0, 1) := by decide +kernel
theorem dX5_array_93 : decode cX5_array 93 = .ok (.iload_n 1, 1) := by decide +kernel
theorem dX5_array_94 : decode cX5_array 94 = .ok (.invokevirtual 275, 3) := by decide +kernel
theorem dX5_array_97 : decode cX5_array 97 = .ok (.ifCond .eq 7, 3) := by decide +kernel
theorem dX5_array_100 : decode cX5_array 100 = .ok (.iconst 1, 1) := by decide +kernel
theorem dX5_array_101 : decode cX5_array 101 = .ok (.goto 4, 3) := by decide +kernel
theorem dX5_array_104 : decode cX5_array 104 = .ok (.iconst 0, 1) := by decide +kernel
theorem dX5_array_105 : decode cX5_array 105 = .ok (.ireturn, 1) := by decide +kernel
theorem dX5_segment_0 : decode cX5_segment 0 = .ok (.iload_n 1, 1) := by decide +kernel
theorem dX5_segment_1 : decode cX5_segment 1 = .ok (.ifCond .lt 24, 3) := by decide +kernel
theorem dX5_segment_4 : decode cX5_segment 4 = .ok (.iload_n 1, 1) := by decide +kernel
theorem dX5_segment_5 : decode cX5_segment 5 = .ok (.aload_n 0, 1) := by decide +kernel
theorem dX5_segment_6 : decode cX5_segment 6 = .ok (.getfield 110, 3) := by decide +kernel
theorem dX5_segment_9 : decode cX5_segment 9 = .ok (.if_icmp .ge 16, 3) := by decide +kernel
theorem dX5_segment_12 : decode cX5_segment 12 = .ok (.iload_n 3, 1) := by decide +kernel
theorem dX5_segment_13 : decode cX5_segment 13 = .ok (.ifCond .lt 12, 3) := by decide +kernel
theorem dX5_segment_16 : decode cX5_segment 16 = .ok (.iload_n 3, 1) := by decide +kernel
theorem dX5_segment_17 : decode cX5_segment 17 = .ok (.iconst 3, 1) := by decide +kernel
theorem dX5_segment_18 : decode cX5_segment 18 = .ok (.if_icmp .gt 7, 3) := by decide +kernel
theorem dX5_segment_21 : decode cX5_segment 21 = .ok (.iload_n 2, 1) := by decide +kernel
theorem dX5_segment_22 : decode cX5_segment 22 = .ok (.ifCond .ge 10, 3) := by decide +kernel
theorem dX5_segment_25 : decode cX5_segment 25 = .ok (.aload_n 0, 1) := by decide +kernel
theorem dX5_segment_26 : decode cX5_segment 26 = .ok (.bipush (-2), 2) := by decide +kernel
theorem dX5_segment_28 : decode cX5_segment 28 = .ok (.invokevirtual 259, 3) := by decide +kernel
theorem dX5_segment_31 : decode cX5_segment 31 = .ok (.ireturn, 1) := by decide +kernel
theorem dX5_segment_32 : decode cX5_segment 32 = .ok (.aload_n 0, 1) := by decide +kernel
theorem dX5_segment_33 : decode cX5_segment 33 = .ok (.iload_n 1, 1) := by decide +kernel
theorem dX5_segment_34 : decode cX5_segment 34 = .ok (.invokevirtual 269, 3) := by decide +kernel
theorem dX5_segment_37 : decode cX5_segment 37 = .ok (.istore 4, 2) := by decide +kernel
theorem dX5_segment_39 : decode cX5_segment 39 = .ok (.iload 4, 2) := by decide +kernel
theorem dX5_segment_41 : decode cX5_segment 41 = .ok (.ifCond .eq 10, 3) := by decide +kernel
theorem dX5_segment_44 : decode cX5_segment 44 = .ok (.aload_n 0, 1) := by decide +kernel
theorem dX5_segment_45 : decode cX5_segment 45 = .ok (.iload 4, 2) := by decide +kernel
theorem dX5_segment_47 : decode cX5_segment 47 = .ok (.invokevirtual 259, 3) := by decide +kernel
theorem dX5_segment_50 : decode cX5_segment 50 = .ok (.ireturn, 1) := by decide +kernel
theorem dX5_segment_51 : decode cX5_segment 51 = .ok (.iload_n 2, 1) := by decide +kernel
theorem dX5_segment_52 : decode cX5_segment 52 = .ok (.aload_n 0, 1) := by decide +kernel
theorem dX5_segment_53 : decode cX5_segment 53 = .ok (.iload_n 1, 1) := by decide +kernel
theorem dX5_segment_54 : decode cX5_segment 54 = .ok (.invokevirtual 272, 3) := by decide +kernel
theorem dX5_segment_57 : decode cX5_segment 57 = .ok (.if_icmp .lt 10, 3) := by decide +kernel
theorem dX5_segment_60 : decode cX5_segment 60 = .ok (.aload_n 0, 1) := by decide +kernel
theorem dX5_segment_61 : decode cX5_segment 61 = .ok (.bipush (-2), 2) := by decide +kernel
theorem dX5_segment_63 : decode cX5_segment 63 = .ok (.invokevirtual 259, 3) := by decide +kernel
theorem dX5_segment_66 : decode cX5_segment 66 = .ok (.ireturn, 1) := by decide +kernel
theorem dX5_segment_67 : decode cX5_segment 67 = .ok (.iconst 0, 1) := by decide +kernel
theorem dX5_segment_68 : decode cX5_segment 68 = .ok (.istore 5, 2) := by decide +kernel
theorem dX5_segment_70 : decode cX5_segment 70 = .ok (.iconst 0, 1) := by decide +kernel
theorem dX5_segment_71 : decode cX5_segment 71 = .ok (.istore 6, 2) := by decide +kernel
theorem dX5_segment_73 : decode cX5_segment 73 = .ok (.iload 6, 2) := by decide +kernel
theorem dX5_segment_75 : decode cX5_segment 75 = .ok (.iload_n 2, 1) := by decide +kernel
theorem dX5_segment_76 : decode cX5_segment 76 = .ok (.if_icmp .ge 28, 3) := by decide +kernel
theorem dX5_segment_79 : decode cX5_segment 79 = .ok (.iinc 5 1, 3) := by decide +kernel
theorem dX5_segment_82 : decode cX5_segment 82 = .ok (.aload_n 0, 1) := by decide +kernel
theorem dX5_segment_83 : decode cX5_segment 83 = .ok (.iload_n 1, 1) := by decide +kernel
theorem dX5_segment_84 : decode cX5_segment 84 = .ok (.iload 5, 2) := by decide +kernel
theorem dX5_segment_86 : decode cX5_segment 86 = .ok (.invokevirtual 266, 3) := by decide +kernel
theorem dX5_segment_89 : decode cX5_segment 89 = .ok (.ifCond .eq 9, 3) := by decide +kernel
theorem dX5_segment_92 : decode cX5_segment 92 = .ok (.iinc 5 1, 3) := by decide +kernel
theorem dX5_segment_95 : decode cX5_segment 95 = .ok (.goto (-13), 3) := by decide +kernel
theorem dX5_segment_98 : decode cX5_segment 98 = .ok (.iinc 6 1, 3) := by decide +kernel
theorem dX5_segment_101 : decode cX5_segment 101 = .ok (.goto (-28), 3) := by decide +kernel
theorem dX5_segment_104 : decode cX5_segment 104 = .ok (.iload 5, 2) := by decide +kernel
theorem dX5_segment_106 : decode cX5_segment 106 = .ok (.iconst 1, 1) := by decide +kernel
theorem dX5_segment_107 : decode cX5_segment 107 = .ok (.iadd, 1) := by decide +kernel
theorem dX5_segment_108 : decode cX5_segment 108 = .ok (.istore 6, 2) := by decide +kernel
theorem dX5_segment_110 : decode cX5_segment 110 = .ok (.iload 6, 2) := by decide +kernel
theorem dX5_segment_112 : decode cX5_segment 112 = .ok (.i2l, 1) := by decide +kernel
theorem dX5_segment_113 : decode cX5_segment 113 = .ok (.aload_n 0, 1) := by decide +kernel
theorem dX5_segment_114 : decode cX5_segment 114 = .ok (.getfield 57, 3) := by decide +kernel
theorem dX5_segment_117 : decode cX5_segment 117 = .ok (.iload_n 1, 1) := by decide +kernel
theorem dX5_segment_118 : decode cX5_segment 118 = .ok (.laload, 1) := by decide +kernel
theorem dX5_segment_119 : decode cX5_segment 119 = .ok (.lcmp, 1) := by decide +kernel
theorem dX5_segment_120 : decode cX5_segment 120 = .ok (.ifCond .ge 19, 3) := by decide +kernel
theorem dX5_segment_123 : decode cX5_segment 123 = .ok (.aload_n 0, 1) := by decide +kernel
theorem dX5_segment_124 : decode cX5_segment 124 = .ok (.iload_n 1, 1) := by decide +kernel
theorem dX5_segment_125 : decode cX5_segment 125 = .ok (.iload 6, 2) := by decide +kernel
theorem dX5_segment_127 : decode cX5_segment 127 = .ok (.invokevirtual 266, 3) := by decide +kernel
theorem dX5_segment_130 : decode cX5_segment 130 = .ok (.ifCond .eq 9, 3) := by decide +kernel
theorem dX5_segment_133 : decode cX5_segment 133 = .ok (.iinc 6 1, 3) := by decide +kernel
theorem dX5_segment_136 : decode cX5_segment 136 = .ok (.goto (-26), 3) := by decide +kernel
theorem dX5_segment_139 : decode cX5_segment 139 = .ok (.aload_n 0, 1) := by decide +kernel
theorem dX5_segment_140 : decode cX5_segment 140 = .ok (.iload_n 3, 1) := by decide +kernel
theorem dX5_segment_141 : decode cX5_segment 141 = .ok (.ifCond .ne 9, 3) := by decide +kernel
theorem dX5_segment_144 : decode cX5_segment 144 = .ok (.iload 5, 2) := by decide +kernel
theorem dX5_segment_146 : decode cX5_segment 146 = .ok (.i2l, 1) := by decide +kernel
theorem dX5_segment_147 : decode cX5_segment 147 = .ok (.goto 46, 3) := by decide +kernel
theorem dX5_segment_150 : decode cX5_segment 150 = .ok (.iload_n 3, 1) := by decide +kernel
theorem dX5_segment_151 : decode cX5_segment 151 = .ok (.iconst 1, 1) := by decide +kernel
theorem dX5_segment_152 : decode cX5_segment 152 = .ok (.if_icmp .ne 9, 3) := by decide +kernel
theorem dX5_segment_155 : decode cX5_segment 155 = .ok (.iload 6, 2) := by decide +kernel
theorem dX5_segment_157 : decode cX5_segment 157 = .ok (.i2l, 1) := by decide +kernel
theorem dX5_segment_158 : decode cX5_segment 158 = .ok (.goto 35, 3) := by decide +kernel
theorem dX5_segment_161 : decode cX5_segment 161 = .ok (.iload_n 3, 1) := by decide +kernel
theorem dX5_segment_162 : decode cX5_segment 162 = .ok (.iconst 2, 1) := by decide +kernel
theorem dX5_segment_163 : decode cX5_segment 163 = .ok (.if_icmp .ne 18, 3) := by decide +kernel
theorem dX5_segment_166 : decode cX5_segment 166 = .ok (.aload_n 0, 1) := by decide +kernel
theorem dX5_segment_167 : decode cX5_segment 167 = .ok (.getfield 60, 3) := by decide +kernel
theorem dX5_segment_170 : decode cX5_segment 170 = .ok (.bipush 12, 2) := by decide +kernel
theorem dX5_segment_172 : decode cX5_segment 172 = .ok (.iload_n 1, 1) := by decide +kernel
theorem dX5_segment_173 : decode cX5_segment 173 = .ok (.imul, 1) := by decide +kernel
theorem dX5_segment_174 : decode cX5_segment 174 = .ok (.iload 5, 2) := by decide +kernel
theorem dX5_segment_176 : decode cX5_segment 176 = .ok (.iadd, 1) := by decide +kernel
theorem dX5_segment_177 : decode cX5_segment 177 = .ok (.laload, 1) := by decide +kernel
theorem dX5_segment_178 : decode cX5_segment 178 = .ok (.goto 15, 3) := by decide +kernel
theorem dX5_segment_181 : decode cX5_segment 181 = .ok (.aload_n 0, 1) := by decide +kernel
theorem dX5_segment_182 : decode cX5_segment 182 = .ok (.getfield 63, 3) := by decide +kernel
theorem dX5_segment_185 : decode cX5_segment 185 = .ok (.bipush 12, 2) := by decide +kernel
theorem dX5_segment_187 : decode cX5_segment 187 = .ok (.iload_n 1, 1) := by decide +kernel
theorem dX5_segment_188 : decode cX5_segment 188 = .ok (.imul, 1) := by decide +kernel
theorem dX5_segment_189 : decode cX5_segment 189 = .ok (.iload 5, 2) := by decide +kernel
theorem dX5_segment_191 : decode cX5_segment 191 = .ok (.iadd, 1) := by decide +kernel
theorem dX5_segment_192 : decode cX5_segment 192 = .ok (.laload, 1) := by decide +kernel
theorem dX5_segment_193 : decode cX5_segment 193 = .ok (.invokevirtual 262, 3) := by decide +kernel
theorem dX5_segment_196 : decode cX5_segment 196 = .ok (.ireturn, 1) := by decide +kernel
theorem dX5_status_0 : decode cX5_status 0 = .ok (.aload_n 0, 1) := by decide +kernel
theorem dX5_status_1 : decode cX5_status 1 = .ok (.getfield 256, 3) := by decide +kernel
theorem dX5_status_4 : decode cX5_status 4 = .ok (.ireturn, 1) := by decide +kernel
theorem dX5_run_0 : decode cX5_run 0 = .ok (.aload_n 0, 1) := by decide +kernel
theorem dX5_run_1 : decode cX5_run 1 = .ok (.invokevirtual 96, 3) := by decide +kernel
theorem dX5_run_4 : decode cX5_run 4 = .ok (.aload_n 0, 1) := by decide +kernel
theorem dX5_run_5 : decode cX5_run 5 = .ok (.iconst 1, 1) := by decide +kernel
theorem dX5_run_6 : decode cX5_run 6 = .ok (.putfield 99, 3) := by decide +kernel
theorem dX5_run_9 : decode cX5_run 9 = .ok (.aload_n 0, 1) := by decide +kernel
theorem dX5_run_10 : decode cX5_run 10 = .ok (.lload_n 1, 1) := by decide +kernel
theorem dX5_run_11 : decode cX5_run 11 = .ok (.putfield 278, 3) := by decide +kernel
theorem dX5_run_14 : decode cX5_run 14 = .ok (.iconst 0, 1) := by decide +kernel
theorem dX5_run_15 : decode cX5_run 15 = .ok (.istore_n 3, 1) := by decide +kernel
theorem dX5_run_16 : decode cX5_run 16 = .ok (.iconst 0, 1) := by decide +kernel
theorem dX5_run_17 : decode cX5_run 17 = .ok (.istore 4, 2) := by decide +kernel
theorem dX5_run_19 : decode cX5_run 19 = .ok (.iload 4, 2) := by decide +kernel
theorem dX5_run_21 : decode cX5_run 21 = .ok (.aload_n 0, 1) := by decide +kernel
theorem dX5_run_22 : decode cX5_run 22 = .ok (.getfield 110, 3) := by decide +kernel
theorem dX5_run_25 : decode cX5_run 25 = .ok (.if_icmp .ge 87, 3) := by decide +kernel
theorem dX5_run_28 : decode cX5_run 28 = .ok (.aload_n 0, 1) := by decide +kernel
theorem dX5_run_29 : decode cX5_run 29 = .ok (.getfield 103, 3) := by decide +kernel
theorem dX5_run_32 : decode cX5_run 32 = .ok (.ifCond .ne 80, 3) := by decide +kernel
theorem dX5_run_35 : decode cX5_run 35 = .ok (.aload_n 0, 1) := by decide +kernel
theorem dX5_run_36 : decode cX5_run 36 = .ok (.getfield 28, 3) := by decide +kernel
theorem dX5_run_39 : decode cX5_run 39 = .ok (.iload 4, 2) := by decide +kernel
theorem dX5_run_41 : decode cX5_run 41 = .ok (.baload, 1) := by decide +kernel
theorem dX5_run_42 : decode cX5_run 42 = .ok (.ifCond .ne 64, 3) := by decide +kernel
theorem dX5_run_45 : decode cX5_run 45 = .ok (.aload_n 0, 1) := by decide +kernel
theorem dX5_run_46 : decode cX5_run 46 = .ok (.getfield 7, 3) := by decide +kernel
theorem dX5_run_49 : decode cX5_run 49 = .ok (.iload 4, 2) := by decide +kernel
theorem dX5_run_51 : decode cX5_run 51 = .ok (.iaload, 1) := by decide +kernel
theorem dX5_run_52 : decode cX5_run 52 = .ok (.bipush 14, 2) := by decide +kernel
theorem dX5_run_54 : decode cX5_run 54 = .ok (.if_icmp .ne 46, 3) := by decide +kernel
theorem dX5_run_57 : decode cX5_run 57 = .ok (.iload 4, 2) := by decide +kernel
theorem dX5_run_59 : decode cX5_run 59 = .ok (.iload_n 3, 1) := by decide +kernel
theorem dX5_run_60 : decode cX5_run 60 = .ok (.if_icmp .lt 46, 3) := by decide +kernel
theorem dX5_run_63 : decode cX5_run 63 = .ok (.iload 4, 2) := by decide +kernel
theorem dX5_run_65 : decode cX5_run 65 = .ok (.aload_n 0, 1) := by decide +kernel
theorem dX5_run_66 : decode cX5_run 66 = .ok (.getfield 16, 3) := by decide +kernel
theorem dX5_run_69 : decode cX5_run 69 = .ok (.iload 4, 2) := by decide +kernel
theorem dX5_run_71 : decode cX5_run 71 = .ok (.iaload, 1) := by decide +kernel
theorem dX5_run_72 : decode cX5_run 72 = .ok (.iadd, 1) := by decide +kernel
theorem dX5_run_73 : decode cX5_run 73 = .ok (.iconst 1, 1) := by decide +kernel
theorem dX5_run_74 : decode cX5_run 74 = .ok (.iadd, 1) := by decide +kernel
theorem dX5_run_75 : decode cX5_run 75 = .ok (.istore_n 3, 1) := by decide +kernel
theorem dX5_run_76 : decode cX5_run 76 = .ok (.aload_n 0, 1) := by decide +kernel
theorem dX5_run_77 : decode cX5_run 77 = .ok (.invokevirtual 291, 3) := by decide +kernel
theorem dX5_run_80 : decode cX5_run 80 = .ok (.lconst 1, 1) := by decide +kernel
theorem dX5_run_81 : decode cX5_run 81 = .ok (.land, 1) := by decide +kernel
theorem dX5_run_82 : decode cX5_run 82 = .ok (.lconst 0, 1) := by decide +kernel
theorem dX5_run_83 : decode cX5_run 83 = .ok (.lcmp, 1) := by decide +kernel
theorem dX5_run_84 : decode cX5_run 84 = .ok (.ifCond .ne 8, 3) := by decide +kernel
theorem dX5_run_87 : decode cX5_run 87 = .ok (.iload 4, 2) := by decide +kernel
theorem dX5_run_89 : decode cX5_run 89 = .ok (.goto 6, 3) := by decide +kernel
theorem dX5_run_92 : decode cX5_run 92 = .ok (.iload_n 3, 1) := by decide +kernel
theorem dX5_run_93 : decode cX5_run 93 = .ok (.iconst 1, 1) := by decide +kernel
theorem dX5_run_94 : decode cX5_run 94 = .ok (.isub, 1) := by decide +kernel
theorem dX5_run_95 : decode cX5_run 95 = .ok (.istore 4, 2) := by decide +kernel
theorem dX5_run_97 : decode cX5_run 97 = .ok (.goto 9, 3) := by decide +kernel
theorem dX5_run_100 : decode cX5_run 100 = .ok (.aload_n 0, 1) := by decide +kernel
theorem dX5_run_101 : decode cX5_run 101 = .ok (.iload 4, 2) := by decide +kernel
theorem dX5_run_103 : decode cX5_run 103 = .ok (.invokevirtual 295, 3) := by decide +kernel
theorem dX5_run_106 : decode cX5_run 106 = .ok (.iinc 4 1, 3) := by decide +kernel
theorem dX5_run_109 : decode cX5_run 109 = .ok (.goto (-90), 3) := by decide +kernel
theorem dX5_run_112 : decode cX5_run 112 = .ok (.aload_n 0, 1) := by decide +kernel
theorem dX5_run_113 : decode cX5_run 113 = .ok (.getfield 103, 3) := by decide +kernel
theorem dX5_run_116 : decode cX5_run 116 = .ok (.ireturn, 1) := by decide +kernel
theorem dX5_where_0 : decode cX5_where 0 = .ok (.aload_n 0, 1) := by decide +kernel
theorem dX5_where_1 : decode cX5_where 1 = .ok (.getfield 107, 3) := by decide +kernel
theorem dX5_where_4 : decode cX5_where 4 = .ok (.ireturn, 1) := by decide +kernel
theorem dX5_value_0 : decode cX5_value 0 = .ok (.iload_n 1, 1) := by decide +kernel
theorem dX5_value_1 : decode cX5_value 1 = .ok (.invokestatic 115, 3) := by decide +kernel
theorem dX5_value_4 : decode cX5_value 4 = .ok (.ifCond .eq 12, 3) := by decide +kernel
theorem dX5_value_7 : decode cX5_value 7 = .ok (.aload_n 0, 1) := by decide +kernel
theorem dX5_value_8 : decode cX5_value 8 = .ok (.getfield 72, 3) := by decide +kernel
theorem dX5_value_11 : decode cX5_value 11 = .ok (.iload_n 1, 1) := by decide +kernel
theorem dX5_value_12 : decode cX5_value 12 = .ok (.iaload, 1) := by decide +kernel
theorem dX5_value_13 : decode cX5_value 13 = .ok (.goto 4, 3) := by decide +kernel
theorem dX5_value_16 : decode cX5_value 16 = .ok (.iconst 0, 1) := by decide +kernel
theorem dX5_value_17 : decode cX5_value 17 = .ok (.ireturn, 1) := by decide +kernel
theorem dX5_place_0 : decode cX5_place 0 = .ok (.iload_n 1, 1) := by decide +kernel
theorem dX5_place_1 : decode cX5_place 1 = .ok (.invokestatic 115, 3) := by decide +kernel
theorem dX5_place_4 : decode cX5_place 4 = .ok (.ifCond .eq 12, 3) := by decide +kernel
theorem dX5_place_7 : decode cX5_place 7 = .ok (.aload_n 0, 1) := by decide +kernel
theorem dX5_place_8 : decode cX5_place 8 = .ok (.getfield 75, 3) := by decide +kernel
theorem dX5_place_11 : decode cX5_place 11 = .ok (.iload_n 1, 1) := by decide +kernel
theorem dX5_place_12 : decode cX5_place 12 = .ok (.iaload, 1) := by decide +kernel
theorem dX5_place_13 : decode cX5_place 13 = .ok (.goto 4, 3) := by decide +kernel
theorem dX5_place_16 : decode cX5_place 16 = .ok (.iconst (-1), 1) := by decide +kernel
theorem dX5_place_17 : decode cX5_place 17 = .ok (.istore_n 3, 1) := by decide +kernel
theorem dX5_place_18 : decode cX5_place 18 = .ok (.iload_n 3, 1) := by decide +kernel
theorem dX5_place_19 : decode cX5_place 19 = .ok (.ifCond .lt 31, 3) := by decide +kernel
theorem dX5_place_22 : decode cX5_place 22 = .ok (.iload_n 2, 1) := by decide +kernel
theorem dX5_place_23 : decode cX5_place 23 = .ok (.ifCond .lt 27, 3) := by decide +kernel
theorem dX5_place_26 : decode cX5_place 26 = .ok (.iload_n 2, 1) := by decide +kernel
theorem dX5_place_27 : decode cX5_place 27 = .ok (.aload_n 0, 1) := by decide +kernel
theorem dX5_place_28 : decode cX5_place 28 = .ok (.getfield 81, 3) := by decide +kernel
theorem dX5_place_31 : decode cX5_place 31 = .ok (.iload_n 3, 1) := by decide +kernel
theorem dX5_place_32 : decode cX5_place 32 = .ok (.iaload, 1) := by decide +kernel
theorem dX5_place_33 : decode cX5_place 33 = .ok (.if_icmp .ge 17, 3) := by decide +kernel
theorem dX5_place_36 : decode cX5_place 36 = .ok (.aload_n 0, 1) := by decide +kernel
theorem dX5_place_37 : decode cX5_place 37 = .ok (.getfield 84, 3) := by decide +kernel
theorem dX5_place_40 : decode cX5_place 40 = .ok (.bipush 12, 2) := by decide +kernel
theorem dX5_place_42 : decode cX5_place 42 = .ok (.iload_n 3, 1) := by decide +kernel
theorem dX5_place_43 : decode cX5_place 43 = .ok (.imul, 1) := by decide +kernel
theorem dX5_place_44 : decode cX5_place 44 = .ok (.iload_n 2, 1) := by decide +kernel
theorem dX5_place_45 : decode cX5_place 45 = .ok (.iadd, 1) := by decide +kernel
theorem dX5_place_46 : decode cX5_place 46 = .ok (.iaload, 1) := by decide +kernel
theorem dX5_place_47 : decode cX5_place 47 = .ok (.goto 4, 3) := by decide +kernel
theorem dX5_place_50 : decode cX5_place 50 = .ok (.iconst 0, 1) := by decide +kernel
theorem dX5_place_51 : decode cX5_place 51 = .ok (.ireturn, 1) := by decide +kernel
theorem dX5_length_0 : decode cX5_length 0 = .ok (.iload_n 1, 1) := by decide +kernel
theorem dX5_length_1 : decode cX5_length 1 = .ok (.invokestatic 115, 3) := by decide +kernel
theorem dX5_length_4 : decode cX5_length 4 = .ok (.ifCond .ne 8, 3) := by decide +kernel
theorem dX5_length_7 : decode cX5_length 7 = .ok (.bipush (-2), 2) := by decide +kernel
theorem dX5_length_9 : decode cX5_length 9 = .ok (.goto 27, 3) := by decide +kernel
theorem dX5_length_12 : decode cX5_length 12 = .ok (.aload_n 0, 1) := by decide +kernel
theorem dX5_length_13 : decode cX5_length 13 = .ok (.getfield 75, 3) := by decide +kernel
theorem dX5_length_16 : decode cX5_length 16 = .ok (.iload_n 1, 1) := by decide +kernel
theorem dX5_length_17 : decode cX5_length 17 = .ok (.iaload, 1) := by decide +kernel
theorem dX5_length_18 : decode cX5_length 18 = .ok (.ifCond .ge 7, 3) := by decide +kernel
theorem dX5_length_21 : decode cX5_length 21 = .ok (.iconst (-1), 1) := by decide +kernel
theorem dX5_length_22 : decode cX5_length 22 = .ok (.goto 14, 3) := by decide +kernel
theorem dX5_length_25 : decode cX5_length 25 = .ok (.aload_n 0, 1) := by decide +kernel
theorem dX5_length_26 : decode cX5_length 26 = .ok (.getfield 81, 3) := by decide +kernel
theorem dX5_length_29 : decode cX5_length 29 = .ok (.aload_n 0, 1) := by decide +kernel
theorem dX5_length_30 : decode cX5_length 30 = .ok (.getfield 75, 3) := by decide +kernel
theorem dX5_length_33 : decode cX5_length 33 = .ok (.iload_n 1, 1) := by decide +kernel
theorem dX5_length_34 : decode cX5_length 34 = .ok (.iaload, 1) := by decide +kernel
theorem dX5_length_35 : decode cX5_length 35 = .ok (.iaload, 1) := by decide +kernel
theorem dX5_length_36 : decode cX5_length 36 = .ok (.ireturn, 1) := by decide +kernel
theorem dX5_same_0 : decode cX5_same 0 = .ok (.iload_n 1, 1) := by decide +kernel
theorem dX5_same_1 : decode cX5_same 1 = .ok (.invokestatic 115, 3) := by decide +kernel
theorem dX5_same_4 : decode cX5_same 4 = .ok (.ifCond .eq 10, 3) := by decide +kernel
theorem dX5_same_7 : decode cX5_same 7 = .ok (.iload_n 2, 1) := by decide +kernel
theorem dX5_same_8 : decode cX5_same 8 = .ok (.invokestatic 115, 3) := by decide +kernel
theorem dX5_same_11 : decode cX5_same 11 = .ok (.ifCond .ne 6, 3) := by decide +kernel
theorem dX5_same_14 : decode cX5_same 14 = .ok (.bipush (-2), 2) := by decide +kernel
theorem dX5_same_16 : decode cX5_same 16 = .ok (.ireturn, 1) := by decide +kernel
theorem dX5_same_17 : decode cX5_same 17 = .ok (.aload_n 0, 1) := by decide +kernel
theorem dX5_same_18 : decode cX5_same 18 = .ok (.getfield 99, 3) := by decide +kernel
theorem dX5_same_21 : decode cX5_same 21 = .ok (.ifCond .ne 8, 3) := by decide +kernel
theorem dX5_same_24 : decode cX5_same 24 = .ok (.bipush (-3), 2) := by decide +kernel
theorem dX5_same_26 : decode cX5_same 26 = .ok (.goto 23, 3) := by decide +kernel
theorem dX5_same_29 : decode cX5_same 29 = .ok (.aload_n 0, 1) := by decide +kernel
theorem dX5_same_30 : decode cX5_same 30 = .ok (.getfield 75, 3) := by decide +kernel
theorem dX5_same_33 : decode cX5_same 33 = .ok (.iload_n 1, 1) := by decide +kernel
theorem dX5_same_34 : decode cX5_same 34 = .ok (.iaload, 1) := by decide +kernel
theorem dX5_same_35 : decode cX5_same 35 = .ok (.aload_n 0, 1) := by decide +kernel
theorem dX5_same_36 : decode cX5_same 36 = .ok (.getfield 75, 3) := by decide +kernel
theorem dX5_same_39 : decode cX5_same 39 = .ok (.iload_n 2, 1) := by decide +kernel
theorem dX5_same_40 : decode cX5_same 40 = .ok (.iaload, 1) := by decide +kernel
theorem dX5_same_41 : decode cX5_same 41 = .ok (.if_icmp .ne 7, 3) := by decide +kernel
theorem dX5_same_44 : decode cX5_same 44 = .ok (.iconst 1, 1) := by decide +kernel
theorem dX5_same_45 : decode cX5_same 45 = .ok (.goto 4, 3) := by decide +kernel
theorem dX5_same_48 : decode cX5_same 48 = .ok (.iconst 0, 1) := by decide +kernel
theorem dX5_same_49 : decode cX5_same 49 = .ok (.ireturn, 1) := by decide +kernel
theorem dX5_isSo_0 : decode cX5_isSo 0 = .ok (.aload_n 0, 1) := by decide +kernel
theorem dX5_isSo_1 : decode cX5_isSo 1 = .ok (.getfield 75, 3) := by decide +kernel
theorem dX5_isSo_4 : decode cX5_isSo 4 = .ok (.iload_n 1, 1) := by decide +kernel
theorem dX5_isSo_5 : decode cX5_isSo 5 = .ok (.iaload, 1) := by decide +kernel
theorem dX5_isSo_6 : decode cX5_isSo 6 = .ok (.istore_n 2, 1) := by decide +kernel
theorem dX5_isSo_7 : decode cX5_isSo 7 = .ok (.iload_n 2, 1) := by decide +kernel
theorem dX5_isSo_8 : decode cX5_isSo 8 = .ok (.ifCond .ge 10, 3) := by decide +kernel
theorem dX5_isSo_11 : decode cX5_isSo 11 = .ok (.aload_n 0, 1) := by decide +kernel
theorem dX5_isSo_12 : decode cX5_isSo 12 = .ok (.getfield 45, 3) := by decide +kernel
theorem dX5_isSo_15 : decode cX5_isSo 15 = .ok (.iload_n 1, 1) := by decide +kernel
theorem dX5_isSo_16 : decode cX5_isSo 16 = .ok (.baload, 1) := by decide +kernel
theorem dX5_isSo_17 : decode cX5_isSo 17 = .ok (.ireturn, 1) := by decide +kernel
theorem dX5_isSo_18 : decode cX5_isSo 18 = .ok (.aload_n 0, 1) := by decide +kernel
theorem dX5_isSo_19 : decode cX5_isSo 19 = .ok (.iload_n 1, 1) := by decide +kernel
theorem dX5_isSo_20 : decode cX5_isSo 20 = .ok (.iload_n 2, 1) := by decide +kernel
theorem dX5_isSo_21 : decode cX5_isSo 21 = .ok (.invokevirtual 169, 3) := by decide +kernel
theorem dX5_isSo_24 : decode cX5_isSo 24 = .ok (.ifCond .eq 60, 3) := by decide +kernel
theorem dX5_isSo_27 : decode cX5_isSo 27 = .ok (.aload_n 0, 1) := by decide +kernel
theorem dX5_isSo_28 : decode cX5_isSo 28 = .ok (.getfield 51, 3) := by decide +kernel
theorem dX5_isSo_31 : decode cX5_isSo 31 = .ok (.iload_n 2, 1) := by decide +kernel
theorem dX5_isSo_32 : decode cX5_isSo 32 = .ok (.iaload, 1) := by decide +kernel
theorem dX5_isSo_33 : decode cX5_isSo 33 = .ok (.aload_n 0, 1) := by decide +kernel
theorem dX5_isSo_34 : decode cX5_isSo 34 = .ok (.getfield 78, 3) := by decide +kernel
theorem dX5_isSo_37 : decode cX5_isSo 37 = .ok (.iload_n 2, 1) := by decide +kernel
theorem dX5_isSo_38 : decode cX5_isSo 38 = .ok (.iaload, 1) := by decide +kernel
theorem dX5_isSo_39 : decode cX5_isSo 39 = .ok (.ishr, 1) := by decide +kernel
theorem dX5_isSo_40 : decode cX5_isSo 40 = .ok (.iconst 1, 1) := by decide +kernel
theorem dX5_isSo_41 : decode cX5_isSo 41 = .ok (.iand, 1) := by decide +kernel
theorem dX5_isSo_42 : decode cX5_isSo 42 = .ok (.iconst 1, 1) := by decide +kernel
theorem dX5_isSo_43 : decode cX5_isSo 43 = .ok (.if_icmp .ne 41, 3) := by decide +kernel
theorem dX5_isSo_46 : decode cX5_isSo 46 = .ok (.aload_n 0, 1) := by decide +kernel
theorem dX5_isSo_47 : decode cX5_isSo 47 = .ok (.getfield 81, 3) := by decide +kernel
theorem dX5_isSo_50 : decode cX5_isSo 50 = .ok (.iload_n 2, 1) := by decide +kernel
theorem dX5_isSo_51 : decode cX5_isSo 51 = .ok (.iaload, 1) := by decide +kernel
theorem dX5_isSo_52 : decode cX5_isSo 52 = .ok (.i2l, 1) := by decide +kernel
theorem dX5_isSo_53 : decode cX5_isSo 53 = .ok (.aload_n 0, 1) := by decide +kernel
theorem dX5_isSo_54 : decode cX5_isSo 54 = .ok (.getfield 54, 3) := by decide +kernel
theorem dX5_isSo_57 : decode cX5_isSo 57 = .ok (.iload_n 2, 1) := by decide +kernel
theorem dX5_isSo_58 : decode cX5_isSo 58 = .ok (.laload, 1) := by decide +kernel
theorem dX5_isSo_59 : decode cX5_isSo 59 = .ok (.lcmp, 1) := by decide +kernel
theorem dX5_isSo_60 : decode cX5_isSo 60 = .ok (.ifCond .lt 24, 3) := by decide +kernel
theorem dX5_isSo_63 : decode cX5_isSo 63 = .ok (.aload_n 0, 1) := by decide +kernel
theorem dX5_isSo_64 : decode cX5_isSo 64 = .ok (.getfield 81, 3) := by decide +kernel
theorem dX5_isSo_67 : decode cX5_isSo 67 = .ok (.iload_n 2, 1) := by decide +kernel
theorem dX5_isSo_68 : decode cX5_isSo 68 = .ok (.iaload, 1) := by decide +kernel
theorem dX5_isSo_69 : decode cX5_isSo 69 = .ok (.i2l, 1) := by decide +kernel
theorem dX5_isSo_70 : decode cX5_isSo 70 = .ok (.aload_n 0, 1) := by decide +kernel
theorem dX5_isSo_71 : decode cX5_isSo 71 = .ok (.getfield 57, 3) := by decide +kernel
theorem dX5_isSo_74 : decode cX5_isSo 74 = .ok (.iload_n 2, 1) := by decide +kernel
theorem dX5_isSo_75 : decode cX5_isSo 75 = .ok (.laload, 1) := by decide +kernel
theorem dX5_isSo_76 : decode cX5_isSo 76 = .ok (.lcmp, 1) := by decide +kernel
theorem dX5_isSo_77 : decode cX5_isSo 77 = .ok (.ifCond .gt 7, 3) := by decide +kernel
theorem dX5_isSo_80 : decode cX5_isSo 80 = .ok (.iconst 1, 1) := by decide +kernel
theorem dX5_isSo_81 : decode cX5_isSo 81 = .ok (.goto 4, 3) := by decide +kernel
theorem dX5_isSo_84 : decode cX5_isSo 84 = .ok (.iconst 0, 1) := by decide +kernel
theorem dX5_isSo_85 : decode cX5_isSo 85 = .ok (.istore_n 3, 1) := by decide +kernel
theorem dX5_isSo_86 : decode cX5_isSo 86 = .ok (.iconst 0, 1) := by decide +kernel
theorem dX5_isSo_87 : decode cX5_isSo 87 = .ok (.istore 4, 2) := by decide +kernel
theorem dX5_isSo_89 : decode cX5_isSo 89 = .ok (.iload 4, 2) := by decide +kernel
theorem dX5_isSo_91 : decode cX5_isSo 91 = .ok (.aload_n 0, 1) := by decide +kernel
theorem dX5_isSo_92 : decode cX5_isSo 92 = .ok (.getfield 81, 3) := by decide +kernel
theorem dX5_isSo_95 : decode cX5_isSo 95 = .ok (.iload_n 2, 1) := by decide +kernel
theorem dX5_isSo_96 : decode cX5_isSo 96 = .ok (.iaload, 1) := by decide +kernel
theorem dX5_isSo_97 : decode cX5_isSo 97 = .ok (.if_icmp .ge 71, 3) := by decide +kernel
theorem dX5_isSo_100 : decode cX5_isSo 100 = .ok (.iload_n 3, 1) := by decide +kernel
theorem dX5_isSo_101 : decode cX5_isSo 101 = .ok (.ifCond .eq 67, 3) := by decide +kernel
theorem dX5_isSo_104 : decode cX5_isSo 104 = .ok (.aload_n 0, 1) := by decide +kernel
theorem dX5_isSo_105 : decode cX5_isSo 105 = .ok (.getfield 84, 3) := by decide +kernel
theorem dX5_isSo_108 : decode cX5_isSo 108 = .ok (.bipush 12, 2) := by decide +kernel
theorem dX5_isSo_110 : decode cX5_isSo 110 = .ok (.iload_n 2, 1) := by decide +kernel
theorem dX5_isSo_111 : decode cX5_isSo 111 = .ok (.imul, 1) := by decide +kernel
theorem dX5_isSo_112 : decode cX5_isSo 112 = .ok (.iload 4, 2) := by decide +kernel
theorem dX5_isSo_114 : decode cX5_isSo 114 = .ok (.iadd, 1) := by decide +kernel
theorem dX5_isSo_115 : decode cX5_isSo 115 = .ok (.iaload, 1) := by decide +kernel
theorem dX5_isSo_116 : decode cX5_isSo 116 = .ok (.istore 5, 2) := by decide +kernel
theorem dX5_isSo_118 : decode cX5_isSo 118 = .ok (.iload 5, 2) := by decide +kernel
theorem dX5_isSo_120 : decode cX5_isSo 120 = .ok (.i2l, 1) := by decide +kernel
theorem dX5_isSo_121 : decode cX5_isSo 121 = .ok (.aload_n 0, 1) := by decide +kernel
theorem dX5_isSo_122 : decode cX5_isSo 122 = .ok (.getfield 60, 3) := by decide +kernel
theorem dX5_isSo_125 : decode cX5_isSo 125 = .ok (.bipush 12, 2) := by decide +kernel
theorem dX5_isSo_127 : decode cX5_isSo 127 = .ok (.iload_n 2, 1) := by decide +kernel
theorem dX5_isSo_128 : decode cX5_isSo 128 = .ok (.imul, 1) := by decide +kernel
theorem dX5_isSo_129 : decode cX5_isSo 129 = .ok (.iload 4, 2) := by decide +kernel
theorem dX5_isSo_131 : decode cX5_isSo 131 = .ok (.iadd, 1) := by decide +kernel
theorem dX5_isSo_132 : decode cX5_isSo 132 = .ok (.laload, 1) := by decide +kernel
theorem dX5_isSo_133 : decode cX5_isSo 133 = .ok (.lcmp, 1) := by decide +kernel
theorem dX5_isSo_134 : decode cX5_isSo 134 = .ok (.ifCond .lt 26, 3) := by decide +kernel
theorem dX5_isSo_137 : decode cX5_isSo 137 = .ok (.iload 5, 2) := by decide +kernel
theorem dX5_isSo_139 : decode cX5_isSo 139 = .ok (.i2l, 1) := by decide +kernel
theorem dX5_isSo_140 : decode cX5_isSo 140 = .ok (.aload_n 0, 1) := by decide +kernel
theorem dX5_isSo_141 : decode cX5_isSo 141 = .ok (.getfield 63, 3) := by decide +kernel
theorem dX5_isSo_144 : decode cX5_isSo 144 = .ok (.bipush 12, 2) := by decide +kernel
theorem dX5_isSo_146 : decode cX5_isSo 146 = .ok (.iload_n 2, 1) := by decide +kernel
theorem dX5_isSo_147 : decode cX5_isSo 147 = .ok (.imul, 1) := by decide +kernel
theorem dX5_isSo_148 : decode cX5_isSo 148 = .ok (.iload 4, 2) := by decide +kernel
theorem dX5_isSo_150 : decode cX5_isSo 150 = .ok (.iadd, 1) := by decide +kernel
theorem dX5_isSo_151 : decode cX5_isSo 151 = .ok (.laload, 1) := by decide +kernel
theorem dX5_isSo_152 : decode cX5_isSo 152 = .ok (.lcmp, 1) := by decide +kernel
theorem dX5_isSo_153 : decode cX5_isSo 153 = .ok (.ifCond .gt 7, 3) := by decide +kernel
theorem dX5_isSo_156 : decode cX5_isSo 156 = .ok (.iconst 1, 1) := by decide +kernel
theorem dX5_isSo_157 : decode cX5_isSo 157 = .ok (.goto 4, 3) := by decide +kernel
theorem dX5_isSo_160 : decode cX5_isSo 160 = .ok (.iconst 0, 1) := by decide +kernel
theorem dX5_isSo_161 : decode cX5_isSo 161 = .ok (.istore_n 3, 1) := by decide +kernel
theorem dX5_isSo_162 : decode cX5_isSo 162 = .ok (.iinc 4 1, 3) := by decide +kernel
theorem dX5_isSo_165 : decode cX5_isSo 165 = .ok (.goto (-76), 3) := by decide +kernel
theorem dX5_isSo_168 : decode cX5_isSo 168 = .ok (.iload_n 3, 1) := by decide +kernel
theorem dX5_isSo_169 : decode cX5_isSo 169 = .ok (.ireturn, 1) := by decide +kernel
theorem dX5_holds_0 : decode cX5_holds 0 = .ok (.aload_n 0, 1) := by decide +kernel
theorem dX5_holds_1 : decode cX5_holds 1 = .ok (.lload_n 1, 1) := by decide +kernel
theorem dX5_holds_2 : decode cX5_holds 2 = .ok (.invokevirtual 318, 3) := by decide +kernel
theorem dX5_holds_5 : decode cX5_holds 5 = .ok (.istore_n 3, 1) := by decide +kernel
theorem dX5_holds_6 : decode cX5_holds 6 = .ok (.aload_n 0, 1) := by decide +kernel
theorem dX5_holds_7 : decode cX5_holds 7 = .ok (.invokevirtual 253, 3) := by decide +kernel
theorem dX5_holds_10 : decode cX5_holds 10 = .ok (.iload_n 3, 1) := by decide +kernel
theorem dX5_holds_11 : decode cX5_holds 11 = .ok (.ifCond .le 38, 3) := by decide +kernel
theorem dX5_holds_14 : decode cX5_holds 14 = .ok (.aload_n 0, 1) := by decide +kernel
theorem dX5_holds_15 : decode cX5_holds 15 = .ok (.getfield 66, 3) := by decide +kernel
theorem dX5_holds_18 : decode cX5_holds 18 = .ok (.aload_n 0, 1) := by decide +kernel
theorem dX5_holds_19 : decode cX5_holds 19 = .ok (.getfield 107, 3) := by decide +kernel
theorem dX5_holds_22 : decode cX5_holds 22 = .ok (.baload, 1) := by decide +kernel
theorem dX5_holds_23 : decode cX5_holds 23 = .ok (.ifCond .eq 24, 3) := by decide +kernel
theorem dX5_holds_26 : decode cX5_holds 26 = .ok (.aload_n 0, 1) := by decide +kernel
theorem dX5_holds_27 : decode cX5_holds 27 = .ok (.getfield 69, 3) := by decide +kernel
theorem dX5_holds_30 : decode cX5_holds 30 = .ok (.aload_n 0, 1) := by decide +kernel
theorem dX5_holds_31 : decode cX5_holds 31 = .ok (.getfield 107, 3) := by decide +kernel
theorem dX5_holds_34 : decode cX5_holds 34 = .ok (.iaload, 1) := by decide +kernel
theorem dX5_holds_35 : decode cX5_holds 35 = .ok (.iload_n 3, 1) := by decide +kernel
theorem dX5_holds_36 : decode cX5_holds 36 = .ok (.ishr, 1) := by decide +kernel
theorem dX5_holds_37 : decode cX5_holds 37 = .ok (.iconst 1, 1) := by decide +kernel
theorem dX5_holds_38 : decode cX5_holds 38 = .ok (.iand, 1) := by decide +kernel
theorem dX5_holds_39 : decode cX5_holds 39 = .ok (.iconst 1, 1) := by decide +kernel
theorem dX5_holds_40 : decode cX5_holds 40 = .ok (.if_icmp .ne 7, 3) := by decide +kernel
theorem dX5_holds_43 : decode cX5_holds 43 = .ok (.iconst 1, 1) := by decide +kernel
theorem dX5_holds_44 : decode cX5_holds 44 = .ok (.goto 4, 3) := by decide +kernel
theorem dX5_holds_47 : decode cX5_holds 47 = .ok (.iconst 0, 1) := by decide +kernel
theorem dX5_holds_48 : decode cX5_holds 48 = .ok (.ireturn, 1) := by decide +kernel
theorem dX5_holds_49 : decode cX5_holds 49 = .ok (.aload_n 0, 1) := by decide +kernel
theorem dX5_holds_50 : decode cX5_holds 50 = .ok (.getfield 32, 3) := by decide +kernel
theorem dX5_holds_53 : decode cX5_holds 53 = .ok (.iconst 0, 1) := by decide +kernel
theorem dX5_holds_54 : decode cX5_holds 54 = .ok (.baload, 1) := by decide +kernel
theorem dX5_holds_55 : decode cX5_holds 55 = .ok (.istore 4, 2) := by decide +kernel
theorem dX5_holds_57 : decode cX5_holds 57 = .ok (.iconst 0, 1) := by decide +kernel
theorem dX5_holds_58 : decode cX5_holds 58 = .ok (.istore 5, 2) := by decide +kernel
theorem dX5_holds_60 : decode cX5_holds 60 = .ok (.iload 5, 2) := by decide +kernel
theorem dX5_holds_62 : decode cX5_holds 62 = .ok (.bipush 6, 2) := by decide +kernel
theorem dX5_holds_64 : decode cX5_holds 64 = .ok (.if_icmp .ge 68, 3) := by decide +kernel
theorem dX5_holds_67 : decode cX5_holds 67 = .ok (.iload 4, 2) := by decide +kernel
theorem dX5_holds_69 : decode cX5_holds 69 = .ok (.ifCond .eq 63, 3) := by decide +kernel
theorem dX5_holds_72 : decode cX5_holds 72 = .ok (.aload_n 0, 1) := by decide +kernel
theorem dX5_holds_73 : decode cX5_holds 73 = .ok (.getfield 72, 3) := by decide +kernel
theorem dX5_holds_76 : decode cX5_holds 76 = .ok (.iload 5, 2) := by decide +kernel
theorem dX5_holds_78 : decode cX5_holds 78 = .ok (.iaload, 1) := by decide +kernel
theorem dX5_holds_79 : decode cX5_holds 79 = .ok (.i2l, 1) := by decide +kernel
theorem dX5_holds_80 : decode cX5_holds 80 = .ok (.aload_n 0, 1) := by decide +kernel
theorem dX5_holds_81 : decode cX5_holds 81 = .ok (.getfield 35, 3) := by decide +kernel
theorem dX5_holds_84 : decode cX5_holds 84 = .ok (.iload 5, 2) := by decide +kernel
theorem dX5_holds_86 : decode cX5_holds 86 = .ok (.laload, 1) := by decide +kernel
theorem dX5_holds_87 : decode cX5_holds 87 = .ok (.lcmp, 1) := by decide +kernel
theorem dX5_holds_88 : decode cX5_holds 88 = .ok (.ifCond .lt 35, 3) := by decide +kernel
theorem dX5_holds_91 : decode cX5_holds 91 = .ok (.aload_n 0, 1) := by decide +kernel
theorem dX5_holds_92 : decode cX5_holds 92 = .ok (.getfield 72, 3) := by decide +kernel
theorem dX5_holds_95 : decode cX5_holds 95 = .ok (.iload 5, 2) := by decide +kernel
theorem dX5_holds_97 : decode cX5_holds 97 = .ok (.iaload, 1) := by decide +kernel
theorem dX5_holds_98 : decode cX5_holds 98 = .ok (.i2l, 1) := by decide +kernel
theorem dX5_holds_99 : decode cX5_holds 99 = .ok (.aload_n 0, 1) := by decide +kernel
theorem dX5_holds_100 : decode cX5_holds 100 = .ok (.getfield 39, 3) := by decide +kernel
theorem dX5_holds_103 : decode cX5_holds 103 = .ok (.iload 5, 2) := by decide +kernel
theorem dX5_holds_105 : decode cX5_holds 105 = .ok (.laload, 1) := by decide +kernel
theorem dX5_holds_106 : decode cX5_holds 106 = .ok (.lcmp, 1) := by decide +kernel
theorem dX5_holds_107 : decode cX5_holds 107 = .ok (.ifCond .gt 16, 3) := by decide +kernel
theorem dX5_holds_110 : decode cX5_holds 110 = .ok (.aload_n 0, 1) := by decide +kernel
theorem dX5_holds_111 : decode cX5_holds 111 = .ok (.iload 5, 2) := by decide +kernel
theorem dX5_holds_113 : decode cX5_holds 113 = .ok (.invokevirtual 321, 3) := by decide +kernel
theorem dX5_holds_116 : decode cX5_holds 116 = .ok (.ifCond .eq 7, 3) := by decide +kernel
theorem dX5_holds_119 : decode cX5_holds 119 = .ok (.iconst 1, 1) := by decide +kernel
theorem dX5_holds_120 : decode cX5_holds 120 = .ok (.goto 4, 3) := by decide +kernel
theorem dX5_holds_123 : decode cX5_holds 123 = .ok (.iconst 0, 1) := by decide +kernel
theorem dX5_holds_124 : decode cX5_holds 124 = .ok (.istore 4, 2) := by decide +kernel
theorem dX5_holds_126 : decode cX5_holds 126 = .ok (.iinc 5 1, 3) := by decide +kernel
theorem dX5_holds_129 : decode cX5_holds 129 = .ok (.goto (-69), 3) := by decide +kernel
theorem dX5_holds_132 : decode cX5_holds 132 = .ok (.iload 4, 2) := by decide +kernel
theorem dX5_holds_134 : decode cX5_holds 134 = .ok (.ifCond .eq 7, 3) := by decide +kernel
theorem dX5_holds_137 : decode cX5_holds 137 = .ok (.iconst 1, 1) := by decide +kernel
theorem dX5_holds_138 : decode cX5_holds 138 = .ok (.goto 4, 3) := by decide +kernel
theorem dX5_holds_141 : decode cX5_holds 141 = .ok (.iconst 0, 1) := by decide +kernel
theorem dX5_holds_142 : decode cX5_holds 142 = .ok (.ireturn, 1) := by decide +kernel
theorem dX5_told_0 : decode cX5_told 0 = .ok (.iload_n 1, 1) := by decide +kernel
theorem dX5_told_1 : decode cX5_told 1 = .ok (.ifCond .lt 8, 3) := by decide +kernel
theorem dX5_told_4 : decode cX5_told 4 = .ok (.iload_n 1, 1) := by decide +kernel
theorem dX5_told_5 : decode cX5_told 5 = .ok (.iconst 4, 1) := by decide +kernel
theorem dX5_told_6 : decode cX5_told 6 = .ok (.if_icmp .le 6, 3) := by decide +kernel
theorem dX5_told_9 : decode cX5_told 9 = .ok (.bipush (-2), 2) := by decide +kernel
theorem dX5_told_11 : decode cX5_told 11 = .ok (.ireturn, 1) := by decide +kernel
theorem dX5_told_12 : decode cX5_told 12 = .ok (.aload_n 0, 1) := by decide +kernel
theorem dX5_told_13 : decode cX5_told 13 = .ok (.invokevirtual 253, 3) := by decide +kernel
theorem dX5_told_16 : decode cX5_told 16 = .ok (.iconst 0, 1) := by decide +kernel
theorem dX5_told_17 : decode cX5_told 17 = .ok (.istore_n 2, 1) := by decide +kernel
theorem dX5_told_18 : decode cX5_told 18 = .ok (.iconst 0, 1) := by decide +kernel
theorem dX5_told_19 : decode cX5_told 19 = .ok (.istore_n 3, 1) := by decide +kernel
theorem dX5_told_20 : decode cX5_told 20 = .ok (.iload_n 3, 1) := by decide +kernel
theorem dX5_told_21 : decode cX5_told 21 = .ok (.aload_n 0, 1) := by decide +kernel
theorem dX5_told_22 : decode cX5_told 22 = .ok (.getfield 110, 3) := by decide +kernel
theorem dX5_told_25 : decode cX5_told 25 = .ok (.if_icmp .ge 101, 3) := by decide +kernel
theorem dX5_told_28 : decode cX5_told 28 = .ok (.iload_n 2, 1) := by decide +kernel
theorem dX5_told_29 : decode cX5_told 29 = .ok (.iload_n 1, 1) := by decide +kernel
theorem dX5_told_30 : decode cX5_told 30 = .ok (.iconst 1, 1) := by decide +kernel
theorem dX5_told_31 : decode cX5_told 31 = .ok (.if_icmp .ne 20, 3) := by decide +kernel
theorem dX5_told_34 : decode cX5_told 34 = .ok (.aload_n 0, 1) := by decide +kernel
theorem dX5_told_35 : decode cX5_told 35 = .ok (.getfield 28, 3) := by decide +kernel
theorem dX5_told_38 : decode cX5_told 38 = .ok (.iload_n 3, 1) := by decide +kernel
theorem dX5_told_39 : decode cX5_told 39 = .ok (.baload, 1) := by decide +kernel
theorem dX5_told_40 : decode cX5_told 40 = .ok (.ifCond .eq 7, 3) := by decide +kernel
theorem dX5_told_43 : decode cX5_told 43 = .ok (.iconst 0, 1) := by decide +kernel
theorem dX5_told_44 : decode cX5_told 44 = .ok (.goto 74, 3) := by decide +kernel
theorem dX5_told_47 : decode cX5_told 47 = .ok (.iconst 1, 1) := by decide +kernel
theorem dX5_told_48 : decode cX5_told 48 = .ok (.goto 70, 3) := by decide +kernel
theorem dX5_told_51 : decode cX5_told 51 = .ok (.iload_n 1, 1) := by decide +kernel
theorem dX5_told_52 : decode cX5_told 52 = .ok (.iconst 2, 1) := by decide +kernel
theorem dX5_told_53 : decode cX5_told 53 = .ok (.if_icmp .ne 20, 3) := by decide +kernel
theorem dX5_told_56 : decode cX5_told 56 = .ok (.aload_n 0, 1) := by decide +kernel
theorem dX5_told_57 : decode cX5_told 57 = .ok (.getfield 66, 3) := by decide +kernel
theorem dX5_told_60 : decode cX5_told 60 = .ok (.iload_n 3, 1) := by decide +kernel
theorem dX5_told_61 : decode cX5_told 61 = .ok (.baload, 1) := by decide +kernel
theorem dX5_told_62 : decode cX5_told 62 = .ok (.ifCond .eq 7, 3) := by decide +kernel
theorem dX5_told_65 : decode cX5_told 65 = .ok (.iconst 1, 1) := by decide +kernel
theorem dX5_told_66 : decode cX5_told 66 = .ok (.goto 52, 3) := by decide +kernel
theorem dX5_told_69 : decode cX5_told 69 = .ok (.iconst 0, 1) := by decide +kernel
theorem dX5_told_70 : decode cX5_told 70 = .ok (.goto 48, 3) := by decide +kernel
theorem dX5_told_73 : decode cX5_told 73 = .ok (.iload_n 1, 1) := by decide +kernel
theorem dX5_told_74 : decode cX5_told 74 = .ok (.iconst 3, 1) := by decide +kernel
theorem dX5_told_75 : decode cX5_told 75 = .ok (.if_icmp .ne 20, 3) := by decide +kernel
theorem dX5_told_78 : decode cX5_told 78 = .ok (.aload_n 0, 1) := by decide +kernel
theorem dX5_told_79 : decode cX5_told 79 = .ok (.getfield 69, 3) := by decide +kernel
theorem dX5_told_82 : decode cX5_told 82 = .ok (.iload_n 3, 1) := by decide +kernel
theorem dX5_told_83 : decode cX5_told 83 = .ok (.iaload, 1) := by decide +kernel
theorem dX5_told_84 : decode cX5_told 84 = .ok (.ifCond .eq 7, 3) := by decide +kernel
theorem dX5_told_87 : decode cX5_told 87 = .ok (.iconst 1, 1) := by decide +kernel
theorem dX5_told_88 : decode cX5_told 88 = .ok (.goto 30, 3) := by decide +kernel
theorem dX5_told_91 : decode cX5_told 91 = .ok (.iconst 0, 1) := by decide +kernel
theorem dX5_told_92 : decode cX5_told 92 = .ok (.goto 26, 3) := by decide +kernel
theorem dX5_told_95 : decode cX5_told 95 = .ok (.aload_n 0, 1) := by decide +kernel
theorem dX5_told_96 : decode cX5_told 96 = .ok (.getfield 32, 3) := by decide +kernel
theorem dX5_told_99 : decode cX5_told 99 = .ok (.iconst 0, 1) := by decide +kernel
theorem dX5_told_100 : decode cX5_told 100 = .ok (.baload, 1) := by decide +kernel
theorem dX5_told_101 : decode cX5_told 101 = .ok (.ifCond .eq 16, 3) := by decide +kernel
theorem dX5_told_104 : decode cX5_told 104 = .ok (.aload_n 0, 1) := by decide +kernel
theorem dX5_told_105 : decode cX5_told 105 = .ok (.getfield 48, 3) := by decide +kernel
theorem dX5_told_108 : decode cX5_told 108 = .ok (.iload_n 3, 1) := by decide +kernel
theorem dX5_told_109 : decode cX5_told 109 = .ok (.baload, 1) := by decide +kernel
theorem dX5_told_110 : decode cX5_told 110 = .ok (.ifCond .eq 7, 3) := by decide +kernel
theorem dX5_told_113 : decode cX5_told 113 = .ok (.iconst 1, 1) := by decide +kernel
theorem dX5_told_114 : decode cX5_told 114 = .ok (.goto 4, 3) := by decide +kernel
theorem dX5_told_117 : decode cX5_told 117 = .ok (.iconst 0, 1) := by decide +kernel
theorem dX5_told_118 : decode cX5_told 118 = .ok (.iadd, 1) := by decide +kernel
theorem dX5_told_119 : decode cX5_told 119 = .ok (.istore_n 2, 1) := by decide +kernel
theorem dX5_told_120 : decode cX5_told 120 = .ok (.iinc 3 1, 3) := by decide +kernel
theorem dX5_told_123 : decode cX5_told 123 = .ok (.goto (-103), 3) := by decide +kernel
theorem dX5_told_126 : decode cX5_told 126 = .ok (.iload_n 1, 1) := by decide +kernel
theorem dX5_told_127 : decode cX5_told 127 = .ok (.ifCond .ne 10, 3) := by decide +kernel
theorem dX5_told_130 : decode cX5_told 130 = .ok (.aload_n 0, 1) := by decide +kernel
theorem dX5_told_131 : decode cX5_told 131 = .ok (.getfield 110, 3) := by decide +kernel
theorem dX5_told_134 : decode cX5_told 134 = .ok (.goto 4, 3) := by decide +kernel
theorem dX5_told_137 : decode cX5_told 137 = .ok (.iload_n 2, 1) := by decide +kernel
theorem dX5_told_138 : decode cX5_told 138 = .ok (.ireturn, 1) := by decide +kernel
