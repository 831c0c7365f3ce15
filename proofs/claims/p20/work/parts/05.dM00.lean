theorem dX5_init_0 : decode cX5_init 0 = .ok (.aload_n 0, 1) := by decide +kernel
theorem dX5_init_1 : decode cX5_init 1 = .ok (.invokespecial 1, 3) := by decide +kernel
theorem dX5_init_4 : decode cX5_init 4 = .ok (.aload_n 0, 1) := by decide +kernel
theorem dX5_init_5 : decode cX5_init 5 = .ok (.bipush 40, 2) := by decide +kernel
theorem dX5_init_7 : decode cX5_init 7 = .ok (.newarray .int, 2) := by decide +kernel
theorem dX5_init_9 : decode cX5_init 9 = .ok (.putfield 7, 3) := by decide +kernel
theorem dX5_init_12 : decode cX5_init 12 = .ok (.aload_n 0, 1) := by decide +kernel
theorem dX5_init_13 : decode cX5_init 13 = .ok (.bipush 40, 2) := by decide +kernel
theorem dX5_init_15 : decode cX5_init 15 = .ok (.newarray .int, 2) := by decide +kernel
theorem dX5_init_17 : decode cX5_init 17 = .ok (.putfield 13, 3) := by decide +kernel
theorem dX5_init_20 : decode cX5_init 20 = .ok (.aload_n 0, 1) := by decide +kernel
theorem dX5_init_21 : decode cX5_init 21 = .ok (.bipush 40, 2) := by decide +kernel
theorem dX5_init_23 : decode cX5_init 23 = .ok (.newarray .int, 2) := by decide +kernel
theorem dX5_init_25 : decode cX5_init 25 = .ok (.putfield 16, 3) := by decide +kernel
theorem dX5_init_28 : decode cX5_init 28 = .ok (.aload_n 0, 1) := by decide +kernel
theorem dX5_init_29 : decode cX5_init 29 = .ok (.bipush 40, 2) := by decide +kernel
theorem dX5_init_31 : decode cX5_init 31 = .ok (.newarray .int, 2) := by decide +kernel
theorem dX5_init_33 : decode cX5_init 33 = .ok (.putfield 19, 3) := by decide +kernel
theorem dX5_init_36 : decode cX5_init 36 = .ok (.aload_n 0, 1) := by decide +kernel
theorem dX5_init_37 : decode cX5_init 37 = .ok (.bipush 40, 2) := by decide +kernel
theorem dX5_init_39 : decode cX5_init 39 = .ok (.newarray .int, 2) := by decide +kernel
theorem dX5_init_41 : decode cX5_init 41 = .ok (.putfield 22, 3) := by decide +kernel
theorem dX5_init_44 : decode cX5_init 44 = .ok (.aload_n 0, 1) := by decide +kernel
theorem dX5_init_45 : decode cX5_init 45 = .ok (.bipush 40, 2) := by decide +kernel
theorem dX5_init_47 : decode cX5_init 47 = .ok (.newarray .int, 2) := by decide +kernel
theorem dX5_init_49 : decode cX5_init 49 = .ok (.putfield 25, 3) := by decide +kernel
theorem dX5_init_52 : decode cX5_init 52 = .ok (.aload_n 0, 1) := by decide +kernel
theorem dX5_init_53 : decode cX5_init 53 = .ok (.bipush 40, 2) := by decide +kernel
theorem dX5_init_55 : decode cX5_init 55 = .ok (.newarray .boolean, 2) := by decide +kernel
theorem dX5_init_57 : decode cX5_init 57 = .ok (.putfield 28, 3) := by decide +kernel
theorem dX5_init_60 : decode cX5_init 60 = .ok (.aload_n 0, 1) := by decide +kernel
theorem dX5_init_61 : decode cX5_init 61 = .ok (.iconst 2, 1) := by decide +kernel
theorem dX5_init_62 : decode cX5_init 62 = .ok (.newarray .boolean, 2) := by decide +kernel
theorem dX5_init_64 : decode cX5_init 64 = .ok (.putfield 32, 3) := by decide +kernel
theorem dX5_init_67 : decode cX5_init 67 = .ok (.aload_n 0, 1) := by decide +kernel
theorem dX5_init_68 : decode cX5_init 68 = .ok (.bipush 12, 2) := by decide +kernel
theorem dX5_init_70 : decode cX5_init 70 = .ok (.newarray .long, 2) := by decide +kernel
theorem dX5_init_72 : decode cX5_init 72 = .ok (.putfield 35, 3) := by decide +kernel
theorem dX5_init_75 : decode cX5_init 75 = .ok (.aload_n 0, 1) := by decide +kernel
theorem dX5_init_76 : decode cX5_init 76 = .ok (.bipush 12, 2) := by decide +kernel
theorem dX5_init_78 : decode cX5_init 78 = .ok (.newarray .long, 2) := by decide +kernel
theorem dX5_init_80 : decode cX5_init 80 = .ok (.putfield 39, 3) := by decide +kernel
theorem dX5_init_83 : decode cX5_init 83 = .ok (.aload_n 0, 1) := by decide +kernel
theorem dX5_init_84 : decode cX5_init 84 = .ok (.bipush 12, 2) := by decide +kernel
theorem dX5_init_86 : decode cX5_init 86 = .ok (.newarray .long, 2) := by decide +kernel
theorem dX5_init_88 : decode cX5_init 88 = .ok (.putfield 42, 3) := by decide +kernel
theorem dX5_init_91 : decode cX5_init 91 = .ok (.aload_n 0, 1) := by decide +kernel
theorem dX5_init_92 : decode cX5_init 92 = .ok (.bipush 12, 2) := by decide +kernel
theorem dX5_init_94 : decode cX5_init 94 = .ok (.newarray .boolean, 2) := by decide +kernel
theorem dX5_init_96 : decode cX5_init 96 = .ok (.putfield 45, 3) := by decide +kernel
theorem dX5_init_99 : decode cX5_init 99 = .ok (.aload_n 0, 1) := by decide +kernel
theorem dX5_init_100 : decode cX5_init 100 = .ok (.bipush 80, 2) := by decide +kernel
theorem dX5_init_102 : decode cX5_init 102 = .ok (.newarray .boolean, 2) := by decide +kernel
theorem dX5_init_104 : decode cX5_init 104 = .ok (.putfield 48, 3) := by decide +kernel
theorem dX5_init_107 : decode cX5_init 107 = .ok (.aload_n 0, 1) := by decide +kernel
theorem dX5_init_108 : decode cX5_init 108 = .ok (.bipush 80, 2) := by decide +kernel
theorem dX5_init_110 : decode cX5_init 110 = .ok (.newarray .int, 2) := by decide +kernel
theorem dX5_init_112 : decode cX5_init 112 = .ok (.putfield 51, 3) := by decide +kernel
theorem dX5_init_115 : decode cX5_init 115 = .ok (.aload_n 0, 1) := by decide +kernel
theorem dX5_init_116 : decode cX5_init 116 = .ok (.bipush 80, 2) := by decide +kernel
theorem dX5_init_118 : decode cX5_init 118 = .ok (.newarray .long, 2) := by decide +kernel
theorem dX5_init_120 : decode cX5_init 120 = .ok (.putfield 54, 3) := by decide +kernel
theorem dX5_init_123 : decode cX5_init 123 = .ok (.aload_n 0, 1) := by decide +kernel
theorem dX5_init_124 : decode cX5_init 124 = .ok (.bipush 80, 2) := by decide +kernel
theorem dX5_init_126 : decode cX5_init 126 = .ok (.newarray .long, 2) := by decide +kernel
theorem dX5_init_128 : decode cX5_init 128 = .ok (.putfield 57, 3) := by decide +kernel
theorem dX5_init_131 : decode cX5_init 131 = .ok (.aload_n 0, 1) := by decide +kernel
theorem dX5_init_132 : decode cX5_init 132 = .ok (.sipush 960, 3) := by decide +kernel
theorem dX5_init_135 : decode cX5_init 135 = .ok (.newarray .long, 2) := by decide +kernel
theorem dX5_init_137 : decode cX5_init 137 = .ok (.putfield 60, 3) := by decide +kernel
theorem dX5_init_140 : decode cX5_init 140 = .ok (.aload_n 0, 1) := by decide +kernel
theorem dX5_init_141 : decode cX5_init 141 = .ok (.sipush 960, 3) := by decide +kernel
theorem dX5_init_144 : decode cX5_init 144 = .ok (.newarray .long, 2) := by decide +kernel
theorem dX5_init_146 : decode cX5_init 146 = .ok (.putfield 63, 3) := by decide +kernel
theorem dX5_init_149 : decode cX5_init 149 = .ok (.aload_n 0, 1) := by decide +kernel
theorem dX5_init_150 : decode cX5_init 150 = .ok (.bipush 40, 2) := by decide +kernel
theorem dX5_init_152 : decode cX5_init 152 = .ok (.newarray .boolean, 2) := by decide +kernel
theorem dX5_init_154 : decode cX5_init 154 = .ok (.putfield 66, 3) := by decide +kernel
theorem dX5_init_157 : decode cX5_init 157 = .ok (.aload_n 0, 1) := by decide +kernel
theorem dX5_init_158 : decode cX5_init 158 = .ok (.bipush 40, 2) := by decide +kernel
theorem dX5_init_160 : decode cX5_init 160 = .ok (.newarray .int, 2) := by decide +kernel
theorem dX5_init_162 : decode cX5_init 162 = .ok (.putfield 69, 3) := by decide +kernel
theorem dX5_init_165 : decode cX5_init 165 = .ok (.aload_n 0, 1) := by decide +kernel
theorem dX5_init_166 : decode cX5_init 166 = .ok (.bipush 6, 2) := by decide +kernel
theorem dX5_init_168 : decode cX5_init 168 = .ok (.newarray .int, 2) := by decide +kernel
theorem dX5_init_170 : decode cX5_init 170 = .ok (.putfield 72, 3) := by decide +kernel
theorem dX5_init_173 : decode cX5_init 173 = .ok (.aload_n 0, 1) := by decide +kernel
theorem dX5_init_174 : decode cX5_init 174 = .ok (.bipush 6, 2) := by decide +kernel
theorem dX5_init_176 : decode cX5_init 176 = .ok (.newarray .int, 2) := by decide +kernel
theorem dX5_init_178 : decode cX5_init 178 = .ok (.putfield 75, 3) := by decide +kernel
theorem dX5_init_181 : decode cX5_init 181 = .ok (.aload_n 0, 1) := by decide +kernel
theorem dX5_init_182 : decode cX5_init 182 = .ok (.bipush 40, 2) := by decide +kernel
theorem dX5_init_184 : decode cX5_init 184 = .ok (.newarray .int, 2) := by decide +kernel
theorem dX5_init_186 : decode cX5_init 186 = .ok (.putfield 78, 3) := by decide +kernel
theorem dX5_init_189 : decode cX5_init 189 = .ok (.aload_n 0, 1) := by decide +kernel
theorem dX5_init_190 : decode cX5_init 190 = .ok (.bipush 40, 2) := by decide +kernel
theorem dX5_init_192 : decode cX5_init 192 = .ok (.newarray .int, 2) := by decide +kernel
theorem dX5_init_194 : decode cX5_init 194 = .ok (.putfield 81, 3) := by decide +kernel
theorem dX5_init_197 : decode cX5_init 197 = .ok (.aload_n 0, 1) := by decide +kernel
theorem dX5_init_198 : decode cX5_init 198 = .ok (.sipush 480, 3) := by decide +kernel
theorem dX5_init_201 : decode cX5_init 201 = .ok (.newarray .int, 2) := by decide +kernel
theorem dX5_init_203 : decode cX5_init 203 = .ok (.putfield 84, 3) := by decide +kernel
theorem dX5_init_206 : decode cX5_init 206 = .ok (.aload_n 0, 1) := by decide +kernel
theorem dX5_init_207 : decode cX5_init 207 = .ok (.bipush 12, 2) := by decide +kernel
theorem dX5_init_209 : decode cX5_init 209 = .ok (.newarray .int, 2) := by decide +kernel
theorem dX5_init_211 : decode cX5_init 211 = .ok (.putfield 87, 3) := by decide +kernel
theorem dX5_init_214 : decode cX5_init 214 = .ok (.aload_n 0, 1) := by decide +kernel
theorem dX5_init_215 : decode cX5_init 215 = .ok (.bipush 12, 2) := by decide +kernel
theorem dX5_init_217 : decode cX5_init 217 = .ok (.newarray .long, 2) := by decide +kernel
theorem dX5_init_219 : decode cX5_init 219 = .ok (.putfield 90, 3) := by decide +kernel
theorem dX5_init_222 : decode cX5_init 222 = .ok (.aload_n 0, 1) := by decide +kernel
theorem dX5_init_223 : decode cX5_init 223 = .ok (.bipush 12, 2) := by decide +kernel
theorem dX5_init_225 : decode cX5_init 225 = .ok (.newarray .long, 2) := by decide +kernel
theorem dX5_init_227 : decode cX5_init 227 = .ok (.putfield 93, 3) := by decide +kernel
theorem dX5_init_230 : decode cX5_init 230 = .ok (.aload_n 0, 1) := by decide +kernel
theorem dX5_init_231 : decode cX5_init 231 = .ok (.invokevirtual 96, 3) := by decide +kernel
theorem dX5_init_234 : decode cX5_init 234 = .ok (.return_, 1) := by decide +kernel
theorem dX5_forget_0 : decode cX5_forget 0 = .ok (.aload_n 0, 1) := by decide +kernel
theorem dX5_forget_1 : decode cX5_forget 1 = .ok (.iconst 0, 1) := by decide +kernel
theorem dX5_forget_2 : decode cX5_forget 2 = .ok (.putfield 99, 3) := by decide +kernel
theorem dX5_forget_5 : decode cX5_forget 5 = .ok (.aload_n 0, 1) := by decide +kernel
theorem dX5_forget_6 : decode cX5_forget 6 = .ok (.iconst 0, 1) := by decide +kernel
theorem dX5_forget_7 : decode cX5_forget 7 = .ok (.putfield 103, 3) := by decide +kernel
theorem dX5_forget_10 : decode cX5_forget 10 = .ok (.aload_n 0, 1) := by decide +kernel
theorem dX5_forget_11 : decode cX5_forget 11 = .ok (.iconst (-1), 1) := by decide +kernel
theorem dX5_forget_12 : decode cX5_forget 12 = .ok (.putfield 107, 3) := by decide +kernel
theorem dX5_forget_15 : decode cX5_forget 15 = .ok (.iconst 0, 1) := by decide +kernel
theorem dX5_forget_16 : decode cX5_forget 16 = .ok (.istore_n 1, 1) := by decide +kernel
theorem dX5_forget_17 : decode cX5_forget 17 = .ok (.iload_n 1, 1) := by decide +kernel
theorem dX5_forget_18 : decode cX5_forget 18 = .ok (.bipush 6, 2) := by decide +kernel
theorem dX5_forget_20 : decode cX5_forget 20 = .ok (.if_icmp .ge 23, 3) := by decide +kernel
theorem dX5_forget_23 : decode cX5_forget 23 = .ok (.aload_n 0, 1) := by decide +kernel
theorem dX5_forget_24 : decode cX5_forget 24 = .ok (.getfield 72, 3) := by decide +kernel
theorem dX5_forget_27 : decode cX5_forget 27 = .ok (.iload_n 1, 1) := by decide +kernel
theorem dX5_forget_28 : decode cX5_forget 28 = .ok (.iconst 0, 1) := by decide +kernel
theorem dX5_forget_29 : decode cX5_forget 29 = .ok (.iastore, 1) := by decide +kernel
theorem dX5_forget_30 : decode cX5_forget 30 = .ok (.aload_n 0, 1) := by decide +kernel
theorem dX5_forget_31 : decode cX5_forget 31 = .ok (.getfield 75, 3) := by decide +kernel
theorem dX5_forget_34 : decode cX5_forget 34 = .ok (.iload_n 1, 1) := by decide +kernel
theorem dX5_forget_35 : decode cX5_forget 35 = .ok (.iconst (-1), 1) := by decide +kernel
theorem dX5_forget_36 : decode cX5_forget 36 = .ok (.iastore, 1) := by decide +kernel
theorem dX5_forget_37 : decode cX5_forget 37 = .ok (.iinc 1 1, 3) := by decide +kernel
theorem dX5_forget_40 : decode cX5_forget 40 = .ok (.goto (-23), 3) := by decide +kernel
theorem dX5_forget_43 : decode cX5_forget 43 = .ok (.return_, 1) := by decide +kernel
theorem dX5_clear_0 : decode cX5_clear 0 = .ok (.aload_n 0, 1) := by decide +kernel
theorem dX5_clear_1 : decode cX5_clear 1 = .ok (.getfield 110, 3) := by decide +kernel
theorem dX5_clear_4 : decode cX5_clear 4 = .ok (.istore_n 1, 1) := by decide +kernel
theorem dX5_clear_5 : decode cX5_clear 5 = .ok (.aload_n 0, 1) := by decide +kernel
theorem dX5_clear_6 : decode cX5_clear 6 = .ok (.iconst 0, 1) := by decide +kernel
theorem dX5_clear_7 : decode cX5_clear 7 = .ok (.putfield 110, 3) := by decide +kernel
theorem dX5_clear_10 : decode cX5_clear 10 = .ok (.aload_n 0, 1) := by decide +kernel
theorem dX5_clear_11 : decode cX5_clear 11 = .ok (.invokevirtual 96, 3) := by decide +kernel
theorem dX5_clear_14 : decode cX5_clear 14 = .ok (.iload_n 1, 1) := by decide +kernel
theorem dX5_clear_15 : decode cX5_clear 15 = .ok (.ireturn, 1) := by decide +kernel
theorem dX5_isName_0 : decode cX5_isName 0 = .ok (.iload_n 0, 1) := by decide +kernel
theorem dX5_isName_1 : decode cX5_isName 1 = .ok (.ifCond .lt 13, 3) := by decide +kernel
theorem dX5_isName_4 : decode cX5_isName 4 = .ok (.iload_n 0, 1) := by decide +kernel
theorem dX5_isName_5 : decode cX5_isName 5 = .ok (.bipush 6, 2) := by decide +kernel
theorem dX5_isName_7 : decode cX5_isName 7 = .ok (.if_icmp .ge 7, 3) := by decide +kernel
theorem dX5_isName_10 : decode cX5_isName 10 = .ok (.iconst 1, 1) := by decide +kernel
theorem dX5_isName_11 : decode cX5_isName 11 = .ok (.goto 4, 3) := by decide +kernel
theorem dX5_isName_14 : decode cX5_isName 14 = .ok (.iconst 0, 1) := by decide +kernel
theorem dX5_isName_15 : decode cX5_isName 15 = .ok (.ireturn, 1) := by decide +kernel
theorem dX5_isLane_0 : decode cX5_isLane 0 = .ok (.iload_n 0, 1) := by decide +kernel
theorem dX5_isLane_1 : decode cX5_isLane 1 = .ok (.ifCond .lt 12, 3) := by decide +kernel
theorem dX5_isLane_4 : decode cX5_isLane 4 = .ok (.iload_n 0, 1) := by decide +kernel
theorem dX5_isLane_5 : decode cX5_isLane 5 = .ok (.iconst 3, 1) := by decide +kernel
theorem dX5_isLane_6 : decode cX5_isLane 6 = .ok (.if_icmp .ge 7, 3) := by decide +kernel
theorem dX5_isLane_9 : decode cX5_isLane 9 = .ok (.iconst 1, 1) := by decide +kernel
theorem dX5_isLane_10 : decode cX5_isLane 10 = .ok (.goto 4, 3) := by decide +kernel
theorem dX5_isLane_13 : decode cX5_isLane 13 = .ok (.iconst 0, 1) := by decide +kernel
theorem dX5_isLane_14 : decode cX5_isLane 14 = .ok (.ireturn, 1) := by decide +kernel
theorem dX5_isNumber_0 : decode cX5_isNumber 0 = .ok (.iload_n 0, 1) := by decide +kernel
theorem dX5_isNumber_1 : decode cX5_isNumber 1 = .ok (.ldc 113, 2) := by decide +kernel
theorem dX5_isNumber_3 : decode cX5_isNumber 3 = .ok (.if_icmp .lt 13, 3) := by decide +kernel
theorem dX5_isNumber_6 : decode cX5_isNumber 6 = .ok (.iload_n 0, 1) := by decide +kernel
theorem dX5_isNumber_7 : decode cX5_isNumber 7 = .ok (.ldc 114, 2) := by decide +kernel
theorem dX5_isNumber_9 : decode cX5_isNumber 9 = .ok (.if_icmp .gt 7, 3) := by decide +kernel
theorem dX5_isNumber_12 : decode cX5_isNumber 12 = .ok (.iconst 1, 1) := by decide +kernel
theorem dX5_isNumber_13 : decode cX5_isNumber 13 = .ok (.goto 4, 3) := by decide +kernel
theorem dX5_isNumber_16 : decode cX5_isNumber 16 = .ok (.iconst 0, 1) := by decide +kernel
theorem dX5_isNumber_17 : decode cX5_isNumber 17 = .ok (.ireturn, 1) := by decide +kernel
theorem dX5_isAct_0 : decode cX5_isAct 0 = .ok (.iload_n 0, 1) := by decide +kernel
theorem dX5_isAct_1 : decode cX5_isAct 1 = .ok (.tableswitch 379 0 14 #[75, 95, 127, 127, 154, 181, 186, 127, 186, 206, 241, 276, 319, 186, 362], 75) := by decide +kernel
theorem dX5_isAct_76 : decode cX5_isAct 76 = .ok (.iload_n 1, 1) := by decide +kernel
theorem dX5_isAct_77 : decode cX5_isAct 77 = .ok (.invokestatic 115, 3) := by decide +kernel
theorem dX5_isAct_80 : decode cX5_isAct 80 = .ok (.ifCond .eq 14, 3) := by decide +kernel
theorem dX5_isAct_83 : decode cX5_isAct 83 = .ok (.iload_n 2, 1) := by decide +kernel
theorem dX5_isAct_84 : decode cX5_isAct 84 = .ok (.invokestatic 119, 3) := by decide +kernel
theorem dX5_isAct_87 : decode cX5_isAct 87 = .ok (.ifCond .eq 7, 3) := by decide +kernel
theorem dX5_isAct_90 : decode cX5_isAct 90 = .ok (.iconst 1, 1) := by decide +kernel
theorem dX5_isAct_91 : decode cX5_isAct 91 = .ok (.goto 4, 3) := by decide +kernel
theorem dX5_isAct_94 : decode cX5_isAct 94 = .ok (.iconst 0, 1) := by decide +kernel
theorem dX5_isAct_95 : decode cX5_isAct 95 = .ok (.ireturn, 1) := by decide +kernel
theorem dX5_isAct_96 : decode cX5_isAct 96 = .ok (.iload_n 1, 1) := by decide +kernel
theorem dX5_isAct_97 : decode cX5_isAct 97 = .ok (.invokestatic 115, 3) := by decide +kernel
theorem dX5_isAct_100 : decode cX5_isAct 100 = .ok (.ifCond .eq 26, 3) := by decide +kernel
theorem dX5_isAct_103 : decode cX5_isAct 103 = .ok (.iload_n 2, 1) := by decide +kernel
theorem dX5_isAct_104 : decode cX5_isAct 104 = .ok (.invokestatic 119, 3) := by decide +kernel
theorem dX5_isAct_107 : decode cX5_isAct 107 = .ok (.ifCond .eq 19, 3) := by decide +kernel
theorem dX5_isAct_110 : decode cX5_isAct 110 = .ok (.iload_n 3, 1) := by decide +kernel
theorem dX5_isAct_111 : decode cX5_isAct 111 = .ok (.invokestatic 119, 3) := by decide +kernel
theorem dX5_isAct_114 : decode cX5_isAct 114 = .ok (.ifCond .eq 12, 3) := by decide +kernel
theorem dX5_isAct_117 : decode cX5_isAct 117 = .ok (.iload_n 2, 1) := by decide +kernel
theorem dX5_isAct_118 : decode cX5_isAct 118 = .ok (.iload_n 3, 1) := by decide +kernel
theorem dX5_isAct_119 : decode cX5_isAct 119 = .ok (.if_icmp .gt 7, 3) := by decide +kernel
theorem dX5_isAct_122 : decode cX5_isAct 122 = .ok (.iconst 1, 1) := by decide +kernel
theorem dX5_isAct_123 : decode cX5_isAct 123 = .ok (.goto 4, 3) := by decide +kernel
theorem dX5_isAct_126 : decode cX5_isAct 126 = .ok (.iconst 0, 1) := by decide +kernel
theorem dX5_isAct_127 : decode cX5_isAct 127 = .ok (.ireturn, 1) := by decide +kernel
theorem dX5_isAct_128 : decode cX5_isAct 128 = .ok (.iload_n 1, 1) := by decide +kernel
theorem dX5_isAct_129 : decode cX5_isAct 129 = .ok (.invokestatic 115, 3) := by decide +kernel
theorem dX5_isAct_132 : decode cX5_isAct 132 = .ok (.ifCond .eq 21, 3) := by decide +kernel
theorem dX5_isAct_135 : decode cX5_isAct 135 = .ok (.iload_n 2, 1) := by decide +kernel
theorem dX5_isAct_136 : decode cX5_isAct 136 = .ok (.invokestatic 115, 3) := by decide +kernel
theorem dX5_isAct_139 : decode cX5_isAct 139 = .ok (.ifCond .eq 14, 3) := by decide +kernel
theorem dX5_isAct_142 : decode cX5_isAct 142 = .ok (.iload_n 3, 1) := by decide +kernel
theorem dX5_isAct_143 : decode cX5_isAct 143 = .ok (.invokestatic 115, 3) := by decide +kernel
theorem dX5_isAct_146 : decode cX5_isAct 146 = .ok (.ifCond .eq 7, 3) := by decide +kernel
theorem dX5_isAct_149 : decode cX5_isAct 149 = .ok (.iconst 1, 1) := by decide +kernel
theorem dX5_isAct_150 : decode cX5_isAct 150 = .ok (.goto 4, 3) := by decide +kernel
theorem dX5_isAct_153 : decode cX5_isAct 153 = .ok (.iconst 0, 1) := by decide +kernel
theorem dX5_isAct_154 : decode cX5_isAct 154 = .ok (.ireturn, 1) := by decide +kernel
theorem dX5_isAct_155 : decode cX5_isAct 155 = .ok (.iload_n 1, 1) := by decide +kernel
theorem dX5_isAct_156 : decode cX5_isAct 156 = .ok (.invokestatic 115, 3) := by decide +kernel
theorem dX5_isAct_159 : decode cX5_isAct 159 = .ok (.ifCond .eq 21, 3) := by decide +kernel
theorem dX5_isAct_162 : decode cX5_isAct 162 = .ok (.iload_n 2, 1) := by decide +kernel
theorem dX5_isAct_163 : decode cX5_isAct 163 = .ok (.invokestatic 122, 3) := by decide +kernel
theorem dX5_isAct_166 : decode cX5_isAct 166 = .ok (.ifCond .eq 14, 3) := by decide +kernel
theorem dX5_isAct_169 : decode cX5_isAct 169 = .ok (.iload_n 3, 1) := by decide +kernel
theorem dX5_isAct_170 : decode cX5_isAct 170 = .ok (.invokestatic 115, 3) := by decide +kernel
theorem dX5_isAct_173 : decode cX5_isAct 173 = .ok (.ifCond .eq 7, 3) := by decide +kernel
theorem dX5_isAct_176 : decode cX5_isAct 176 = .ok (.iconst 1, 1) := by decide +kernel
theorem dX5_isAct_177 : decode cX5_isAct 177 = .ok (.goto 4, 3) := by decide +kernel
theorem dX5_isAct_180 : decode cX5_isAct 180 = .ok (.iconst 0, 1) := by decide +kernel
theorem dX5_isAct_181 : decode cX5_isAct 181 = .ok (.ireturn, 1) := by decide +kernel
theorem dX5_isAct_182 : decode cX5_isAct 182 = .ok (.iload_n 1, 1) := by decide +kernel
theorem dX5_isAct_183 : decode cX5_isAct 183 = .ok (.invokestatic 115, 3) := by decide +kernel
theorem dX5_isAct_186 : decode cX5_isAct 186 = .ok (.ireturn, 1) := by decide +kernel
theorem dX5_isAct_187 : decode cX5_isAct 187 = .ok (.iload_n 1, 1) := by decide +kernel
theorem dX5_isAct_188 : decode cX5_isAct 188 = .ok (.invokestatic 115, 3) := by decide +kernel
theorem dX5_isAct_191 : decode cX5_isAct 191 = .ok (.ifCond .eq 14, 3) := by decide +kernel
theorem dX5_isAct_194 : decode cX5_isAct 194 = .ok (.iload_n 2, 1) := by decide +kernel
theorem dX5_isAct_195 : decode cX5_isAct 195 = .ok (.invokestatic 115, 3) := by decide +kernel
theorem dX5_isAct_198 : decode cX5_isAct 198 = .ok (.ifCond .eq 7, 3) := by decide +kernel
theorem dX5_isAct_201 : decode cX5_isAct 201 = .ok (.iconst 1, 1) := by decide +kernel
theorem dX5_isAct_202 : decode cX5_isAct 202 = .ok (.goto 4, 3) := by decide +kernel
theorem dX5_isAct_205 : decode cX5_isAct 205 = .ok (.iconst 0, 1) := by decide +kernel
theorem dX5_isAct_206 : decode cX5_isAct 206 = .ok (.ireturn, 1) := by decide +kernel
theorem dX5_isAct_207 : decode cX5_isAct 207 = .ok (.iload_n 1, 1) := by decide +kernel
theorem dX5_isAct_208 : decode cX5_isAct 208 = .ok (.invokestatic 115, 3) := by decide +kernel
theorem dX5_isAct_211 : decode cX5_isAct 211 = .ok (.ifCond .eq 29, 3) := by decide +kernel
theorem dX5_isAct_214 : decode cX5_isAct 214 = .ok (.iload_n 2, 1) := by decide +kernel
theorem dX5_isAct_215 : decode cX5_isAct 215 = .ok (.invokestatic 122, 3) := by decide +kernel
theorem dX5_isAct_218 : decode cX5_isAct 218 = .ok (.ifCond .eq 22, 3) := by decide +kernel
theorem dX5_isAct_221 : decode cX5_isAct 221 = .ok (.iload_n 3, 1) := by decide +kernel
theorem dX5_isAct_222 : decode cX5_isAct 222 = .ok (.invokestatic 115, 3) := by decide +kernel
theorem dX5_isAct_225 : decode cX5_isAct 225 = .ok (.ifCond .eq 15, 3) := by decide +kernel
theorem dX5_isAct_228 : decode cX5_isAct 228 = .ok (.iload 4, 2) := by decide +kernel
theorem dX5_isAct_230 : decode cX5_isAct 230 = .ok (.invokestatic 115, 3) := by decide +kernel
theorem dX5_isAct_233 : decode cX5_isAct 233 = .ok (.ifCond .eq 7, 3) := by decide +kernel
theorem dX5_isAct_236 : decode cX5_isAct 236 = .ok (.iconst 1, 1) := by decide +kernel
theorem dX5_isAct_237 : decode cX5_isAct 237 = .ok (.goto 4, 3) := by decide +kernel
theorem dX5_isAct_240 : decode cX5_isAct 240 = .ok (.iconst 0, 1) := by decide +kernel
theorem dX5_isAct_241 : decode cX5_isAct 241 = .ok (.ireturn, 1) := by decide +kernel
theorem dX5_isAct_242 : decode cX5_isAct 242 = .ok (.iload_n 1, 1) := by decide +kernel
theorem dX5_isAct_243 : decode cX5_isAct 243 = .ok (.invokestatic 115, 3) := by decide +kernel
theorem dX5_isAct_246 : decode cX5_isAct 246 = .ok (.ifCond .eq 29, 3) := by decide +kernel
theorem dX5_isAct_249 : decode cX5_isAct 249 = .ok (.iload_n 2, 1) := by decide +kernel
theorem dX5_isAct_250 : decode cX5_isAct 250 = .ok (.invokestatic 115, 3) := by decide +kernel
theorem dX5_isAct_253 : decode cX5_isAct 253 = .ok (.ifCond .eq 22, 3) := by decide +kernel
theorem dX5_isAct_256 : decode cX5_isAct 256 = .ok (.iload_n 3, 1) := by decide +kernel
theorem dX5_isAct_257 : decode cX5_isAct 257 = .ok (.invokestatic 122, 3) := by decide +kernel
theorem dX5_isAct_260 : decode cX5_isAct 260 = .ok (.ifCond .eq 15, 3) := by decide +kernel
theorem dX5_isAct_263 : decode cX5_isAct 263 = .ok (.iload 4, 2) := by decide +kernel
theorem dX5_isAct_265 : decode cX5_isAct 265 = .ok (.invokestatic 115, 3) := by decide +kernel
theorem dX5_isAct_268 : decode cX5_isAct 268 = .ok (.ifCond .eq 7, 3) := by decide +kernel
theorem dX5_isAct_271 : decode cX5_isAct 271 = .ok (.iconst 1, 1) := by decide +kernel
theorem dX5_isAct_272 : decode cX5_isAct 272 = .ok (.goto 4, 3) := by decide +kernel
theorem dX5_isAct_275 : decode cX5_isAct 275 = .ok (.iconst 0, 1) := by decide +kernel
theorem dX5_isAct_276 : decode cX5_isAct 276 = .ok (.ireturn, 1) := by decide +kernel
theorem dX5_isAct_277 : decode cX5_isAct 277 = .ok (.iload_n 1, 1) := by decide +kernel
theorem dX5_isAct_278 : decode cX5_isAct 278 = .ok (.invokestatic 115, 3) := by decide +kernel
theorem dX5_isAct_281 : decode cX5_isAct 281 = .ok (.ifCond .eq 37, 3) := by decide +kernel
theorem dX5_isAct_284 : decode cX5_isAct 284 = .ok (.iload_n 2, 1) := by decide +kernel
theorem dX5_isAct_285 : decode cX5_isAct 285 = .ok (.invokestatic 115, 3) := by decide +kernel
theorem dX5_isAct_288 : decode cX5_isAct 288 = .ok (.ifCond .eq 30, 3) := by decide +kernel
theorem dX5_isAct_291 : decode cX5_isAct 291 = .ok (.iload_n 3, 1) := by decide +kernel
theorem dX5_isAct_292 : decode cX5_isAct 292 = .ok (.invokestatic 115, 3) := by decide +kernel
theorem dX5_isAct_295 : decode cX5_isAct 295 = .ok (.ifCond .eq 23, 3) := by decide +kernel
theorem dX5_isAct_298 : decode cX5_isAct 298 = .ok (.iload 4, 2) := by decide +kernel
theorem dX5_isAct_300 : decode cX5_isAct 300 = .ok (.invokestatic 115, 3) := by decide +kernel
theorem dX5_isAct_303 : decode cX5_isAct 303 = .ok (.ifCond .eq 15, 3) := by decide +kernel
theorem dX5_isAct_306 : decode cX5_isAct 306 = .ok (.iload 5, 2) := by decide +kernel
theorem dX5_isAct_308 : decode cX5_isAct 308 = .ok (.invokestatic 115, 3) := by decide +kernel
theorem dX5_isAct_311 : decode cX5_isAct 311 = .ok (.ifCond .eq 7, 3) := by decide +kernel
theorem dX5_isAct_314 : decode cX5_isAct 314 = .ok (.iconst 1, 1) := by decide +kernel
theorem dX5_isAct_315 : decode cX5_isAct 315 = .ok (.goto 4, 3) := by decide +kernel
theorem dX5_isAct_318 : decode cX5_isAct 318 = .ok (.iconst 0, 1) := by decide +kernel
theorem dX5_isAct_319 : decode cX5_isAct 319 = .ok (.ireturn, 1) := by decide +kernel
theorem dX5_isAct_320 : decode cX5_isAct 320 = .ok (.iload_n 1, 1) := by decide +kernel
theorem dX5_isAct_321 : decode cX5_isAct 321 = .ok (.invokestatic 115, 3) := by decide +kernel
theorem dX5_isAct_324 : decode cX5_isAct 324 = .ok (.ifCond .eq 37, 3) := by decide +kernel
theorem dX5_isAct_327 : decode cX5_isAct 327 = .ok (.iload_n 2, 1) := by decide +kernel
theorem dX5_isAct_328 : decode cX5_isAct 328 = .ok (.invokestatic 122, 3) := by decide +kernel
theorem dX5_isAct_331 : decode cX5_isAct 331 = .ok (.ifCond .eq 30, 3) := by decide +kernel
theorem dX5_isAct_334 : decode cX5_isAct 334 = .ok (.iload_n 3, 1) := by decide +kernel
theorem dX5_isAct_335 : decode cX5_isAct 335 = .ok (.invokestatic 115, 3) := by decide +kernel
theorem dX5_isAct_338 : decode cX5_isAct 338 = .ok (.ifCond .eq 23, 3) := by decide +kernel
theorem dX5_isAct_341 : decode cX5_isAct 341 = .ok (.iload 4, 2) := by decide +kernel
theorem dX5_isAct_343 : decode cX5_isAct 343 = .ok (.invokestatic 115, 3) := by decide +kernel
theorem dX5_isAct_346 : decode cX5_isAct 346 = .ok (.ifCond .eq 15, 3) := by decide +kernel
theorem dX5_isAct_349 : decode cX5_isAct 349 = .ok (.iload 5, 2) := by decide +kernel
theorem dX5_isAct_351 : decode cX5_isAct 351 = .ok (.invokestatic 115, 3) := by decide +kernel
theorem dX5_isAct_354 : decode cX5_isAct 354 = .ok (.ifCond .eq 7, 3) := by decide +kernel
theorem dX5_isAct_357 : decode cX5_isAct 357 = .ok (.iconst 1, 1) := by decide +kernel
theorem dX5_isAct_358 : decode cX5_isAct 358 = .ok (.goto 4, 3) := by decide +kernel
theorem dX5_isAct_361 : decode cX5_isAct 361 = .ok (.iconst 0, 1) := by decide +kernel
theorem dX5_isAct_362 : decode cX5_isAct 362 = .ok (.ireturn, 1) := by decide +kernel
theorem dX5_isAct_363 : decode cX5_isAct 363 = .ok (.iload_n 2, 1) := by decide +kernel
theorem dX5_isAct_364 : decode cX5_isAct 364 = .ok (.iconst 1, 1) := by decide +kernel
theorem dX5_isAct_365 : decode cX5_isAct 365 = .ok (.if_icmp .lt 13, 3) := by decide +kernel
theorem dX5_isAct_368 : decode cX5_isAct 368 = .ok (.iload_n 2, 1) := by decide +kernel
theorem dX5_isAct_369 : decode cX5_isAct 369 = .ok (.bipush 10, 2) := by decide +kernel
theorem dX5_isAct_371 : decode cX5_isAct 371 = .ok (.if_icmp .gt 7, 3) := by decide +kernel
theorem dX5_isAct_374 : decode cX5_isAct 374 = .ok (.iconst 1, 1) := by decide +kernel
theorem dX5_isAct_375 : decode cX5_isAct 375 = .ok (.goto 4, 3) := by decide +kernel
theorem dX5_isAct_378 : decode cX5_isAct 378 = .ok (.iconst 0, 1) := by decide +kernel
theorem dX5_isAct_379 : decode cX5_isAct 379 = .ok (.ireturn, 1) := by decide +kernel
theorem dX5_isAct_380 : decode cX5_isAct 380 = .ok (.iconst 0, 1) := by decide +kernel
theorem dX5_isAct_381 : decode cX5_isAct 381 = .ok (.ireturn, 1) := by decide +kernel
theorem dX5_act_0 : decode cX5_act 0 = .ok (.iload_n 1, 1) := by decide +kernel
theorem dX5_act_1 : decode cX5_act 1 = .ok (.iload_n 2, 1) := by decide +kernel
theorem dX5_act_2 : decode cX5_act 2 = .ok (.iload_n 3, 1) := by decide +kernel
theorem dX5_act_3 : decode cX5_act 3 = .ok (.iload 4, 2) := by decide +kernel
theorem dX5_act_5 : decode cX5_act 5 = .ok (.iload 5, 2) := by decide +kernel
theorem dX5_act_7 : decode cX5_act 7 = .ok (.iload 6, 2) := by decide +kernel
theorem dX5_act_9 : decode cX5_act 9 = .ok (.invokestatic 125, 3) := by decide +kernel
theorem dX5_act_12 : decode cX5_act 12 = .ok (.ifCond .ne 6, 3) := by decide +kernel
theorem dX5_act_15 : decode cX5_act 15 = .ok (.bipush (-2), 2) := by decide +kernel
theorem dX5_act_17 : decode cX5_act 17 = .ok (.ireturn, 1) := by decide +kernel
theorem dX5_act_18 : decode cX5_act 18 = .ok (.aload_n 0, 1) := by decide +kernel
theorem dX5_act_19 : decode cX5_act 19 = .ok (.getfield 110, 3) := by decide +kernel
theorem dX5_act_22 : decode cX5_act 22 = .ok (.bipush 40, 2) := by decide +kernel
theorem dX5_act_24 : decode cX5_act 24 = .ok (.if_icmp .ne 6, 3) := by decide +kernel
theorem dX5_act_27 : decode cX5_act 27 = .ok (.bipush (-4), 2) := by decide +kernel
theorem dX5_act_29 : decode cX5_act 29 = .ok (.ireturn, 1) := by decide +kernel
theorem dX5_act_30 : decode cX5_act 30 = .ok (.aload_n 0, 1) := by decide +kernel
theorem dX5_act_31 : decode cX5_act 31 = .ok (.getfield 7, 3) := by decide +kernel
theorem dX5_act_34 : decode cX5_act 34 = .ok (.aload_n 0, 1) := by decide +kernel
theorem dX5_act_35 : decode cX5_act 35 = .ok (.getfield 110, 3) := by decide +kernel
theorem dX5_act_38 : decode cX5_act 38 = .ok (.iload_n 1, 1) := by decide +kernel
theorem dX5_act_39 : decode cX5_act 39 = .ok (.iastore, 1) := by decide +kernel
theorem dX5_act_40 : decode cX5_act 40 = .ok (.aload_n 0, 1) := by decide +kernel
theorem dX5_act_41 : decode cX5_act 41 = .ok (.getfield 13, 3) := by decide +kernel
theorem dX5_act_44 : decode cX5_act 44 = .ok (.aload_n 0, 1) := by decide +kernel
theorem dX5_act_45 : decode cX5_act 45 = .ok (.getfield 110, 3) := by decide +kernel
theorem dX5_act_48 : decode cX5_act 48 = .ok (.iload_n 2, 1) := by decide +kernel
theorem dX5_act_49 : decode cX5_act 49 = .ok (.iastore, 1) := by decide +kernel
theorem dX5_act_50 : decode cX5_act 50 = .ok (.aload_n 0, 1) := by decide +kernel
theorem dX5_act_51 : decode cX5_act 51 = .ok (.getfield 16, 3) := by decide +kernel
theorem dX5_act_54 : decode cX5_act 54 = .ok (.aload_n 0, 1) := by decide +kernel
theorem dX5_act_55 : decode cX5_act 55 = .ok (.getfield 110, 3) := by decide +kernel
theorem dX5_act_58 : decode cX5_act 58 = .ok (.iload_n 3, 1) := by decide +kernel
theorem dX5_act_59 : decode cX5_act 59 = .ok (.iastore, 1) := by decide +kernel
theorem dX5_act_60 : decode cX5_act 60 = .ok (.aload_n 0, 1) := by decide +kernel
theorem dX5_act_61 : decode cX5_act 61 = .ok (.getfield 19, 3) := by decide +kernel
theorem dX5_act_64 : decode cX5_act 64 = .ok (.aload_n 0, 1) := by decide +kernel
theorem dX5_act_65 : decode cX5_act 65 = .ok (.getfield 110, 3) := by decide +kernel
theorem dX5_act_68 : decode cX5_act 68 = .ok (.iload 4, 2) := by decide +kernel
theorem dX5_act_70 : decode cX5_act 70 = .ok (.iastore, 1) := by decide +kernel
theorem dX5_act_71 : decode cX5_act 71 = .ok (.aload_n 0, 1) := by decide +kernel
theorem dX5_act_72 : decode cX5_act 72 = .ok (.getfield 22, 3) := by decide +kernel
theorem dX5_act_75 : decode cX5_act 75 = .ok (.aload_n 0, 1) := by decide +kernel
theorem dX5_act_76 : decode cX5_act 76 = .ok (.getfield 110, 3) := by decide +kernel
theorem dX5_act_79 : decode cX5_act 79 = .ok (.iload 5, 2) := by decide +kernel
theorem dX5_act_81 : decode cX5_act 81 = .ok (.iastore, 1) := by decide +kernel
theorem dX5_act_82 : decode cX5_act 82 = .ok (.aload_n 0, 1) := by decide +kernel
theorem dX5_act_83 : decode cX5_act 83 = .ok (.getfield 25, 3) := by decide +kernel
theorem dX5_act_86 : decode cX5_act 86 = .ok (.aload_n 0, 1) := by decide +kernel
theorem dX5_act_87 : decode cX5_act 87 = .ok (.getfield 110, 3) := by decide +kernel
theorem dX5_act_90 : decode cX5_act 90 = .ok (.iload 6, 2) := by decide +kernel
theorem dX5_act_92 : decode cX5_act 92 = .ok (.iastore, 1) := by decide +kernel
theorem dX5_act_93 : decode cX5_act 93 = .ok (.aload_n 0, 1) := by decide +kernel
theorem dX5_act_94 : decode cX5_act 94 = .ok (.getfield 28, 3) := by decide +kernel
theorem dX5_act_97 : decode cX5_act 97 = .ok (.aload_n 0, 1) := by decide +kernel
theorem dX5_act_98 : decode cX5_act 98 = .ok (.getfield 110, 3) := by decide +kernel
theorem dX5_act_101 : decode cX5_act 101 = .ok (.iconst 0, 1) := by decide +kernel
theorem dX5_act_102 : decode cX5_act 102 = .ok (.bastore, 1) := by decide +kernel
theorem dX5_act_103 : decode cX5_act 103 = .ok (.aload_n 0, 1) := by decide +kernel
theorem dX5_act_104 : decode cX5_act 104 = .ok (.dup, 1) := by decide +kernel
theorem dX5_act_105 : decode cX5_act 105 = .ok (.getfield 110, 3) := by decide +kernel
theorem dX5_act_108 : decode cX5_act 108 = .ok (.iconst 1, 1) := by decide +kernel
theorem dX5_act_109 : decode cX5_act 109 = .ok (.iadd, 1) := by decide +kernel
theorem dX5_act_110 : decode cX5_act 110 = .ok (.putfield 110, 3) := by decide +kernel
theorem dX5_act_113 : decode cX5_act 113 = .ok (.aload_n 0, 1) := by decide +kernel
theorem dX5_act_114 : decode cX5_act 114 = .ok (.invokevirtual 96, 3) := by decide +kernel
theorem dX5_act_117 : decode cX5_act 117 = .ok (.aload_n 0, 1) := by decide +kernel
theorem dX5_act_118 : decode cX5_act 118 = .ok (.getfield 110, 3) := by decide +kernel
theorem dX5_act_121 : decode cX5_act 121 = .ok (.iconst 1, 1) := by decide +kernel
theorem dX5_act_122 : decode cX5_act 122 = .ok (.isub, 1) := by decide +kernel
theorem dX5_act_123 : decode cX5_act 123 = .ok (.ireturn, 1) := by decide +kernel
theorem dX5_drop_0 : decode cX5_drop 0 = .ok (.iload_n 1, 1) := by decide +kernel
theorem dX5_drop_1 : decode cX5_drop 1 = .ok (.ifCond .lt 11, 3) := by decide +kernel
theorem dX5_drop_4 : decode cX5_drop 4 = .ok (.iload_n 1, 1) := by decide +kernel
theorem dX5_drop_5 : decode cX5_drop 5 = .ok (.aload_n 0, 1) := by decide +kernel
theorem dX5_drop_6 : decode cX5_drop 6 = .ok (.getfield 110, 3) := by decide +kernel
theorem dX5_drop_9 : decode cX5_drop 9 = .ok (.if_icmp .lt 6, 3) := by decide +kernel
theorem dX5_drop_12 : decode cX5_drop 12 = .ok (.bipush (-2), 2) := by decide +kernel
theorem dX5_drop_14 : decode cX5_drop 14 = .ok (.ireturn, 1) := by decide +kernel
theorem dX5_drop_15 : decode cX5_drop 15 = .ok (.aload_n 0, 1) := by decide +kernel
theorem dX5_drop_16 : decode cX5_drop 16 = .ok (.getfield 28, 3) := by decide +kernel
theorem dX5_drop_19 : decode cX5_drop 19 = .ok (.iload_n 1, 1) := by decide +kernel
theorem dX5_drop_20 : decode cX5_drop 20 = .ok (.baload, 1) := by decide +kernel
theorem dX5_drop_21 : decode cX5_drop 21 = .ok (.ifCond .eq 5, 3) := by decide +kernel
theorem dX5_drop_24 : decode cX5_drop 24 = .ok (.iconst 0, 1) := by decide +kernel
theorem dX5_drop_25 : decode cX5_drop 25 = .ok (.ireturn, 1) := by decide +kernel
theorem dX5_drop_26 : decode cX5_drop 26 = .ok (.aload_n 0, 1) := by decide +kernel
theorem dX5_drop_27 : decode cX5_drop 27 = .ok (.getfield 28, 3) := by decide +kernel
theorem dX5_drop_30 : decode cX5_drop 30 = .ok (.iload_n 1, 1) := by decide +kernel
theorem dX5_drop_31 : decode cX5_drop 31 = .ok (.iconst 1, 1) := by decide +kernel
theorem dX5_drop_32 : decode cX5_drop 32 = .ok (.bastore, 1) := by decide +kernel
theorem dX5_drop_33 : decode cX5_drop 33 = .ok (.aload_n 0, 1) := by decide +kernel
theorem dX5_drop_34 : decode cX5_drop 34 = .ok (.invokevirtual 96, 3) := by decide +kernel
theorem dX5_drop_37 : decode cX5_drop 37 = .ok (.iconst 1, 1) := by decide +kernel
theorem dX5_drop_38 : decode cX5_drop 38 = .ok (.ireturn, 1) := by decide +kernel
theorem dX5_laneLow_0 : decode cX5_laneLow 0 = .ok (.iload_n 0, 1) := by decide +kernel
theorem dX5_laneLow_1 : decode cX5_laneLow 1 = .ok (.ifCond .ne 9, 3) := by decide +kernel
theorem dX5_laneLow_4 : decode cX5_laneLow 4 = .ok (.ldc2_w 129, 3) := by decide +kernel
theorem dX5_laneLow_7 : decode cX5_laneLow 7 = .ok (.goto 15, 3) := by decide +kernel
theorem dX5_laneLow_10 : decode cX5_laneLow 10 = .ok (.iload_n 0, 1) := by decide +kernel
theorem dX5_laneLow_11 : decode cX5_laneLow 11 = .ok (.iconst 1, 1) := by decide +kernel
theorem dX5_laneLow_12 : decode cX5_laneLow 12 = .ok (.if_icmp .ne 7, 3) := by decide +kernel
theorem dX5_laneLow_15 : decode cX5_laneLow 15 = .ok (.lconst 0, 1) := by decide +kernel
theorem dX5_laneLow_16 : decode cX5_laneLow 16 = .ok (.goto 6, 3) := by decide +kernel
theorem dX5_laneLow_19 : decode cX5_laneLow 19 = .ok (.ldc2_w 131, 3) := by decide +kernel
theorem dX5_laneLow_22 : decode cX5_laneLow 22 = .ok (.lreturn, 1) := by decide +kernel
theorem dX5_laneHigh_0 : decode cX5_laneHigh 0 = .ok (.iload_n 0, 1) := by decide +kernel
theorem dX5_laneHigh_1 : decode cX5_laneHigh 1 = .ok (.ifCond .ne 9, 3) := by decide +kernel
theorem dX5_laneHigh_4 : decode cX5_laneHigh 4 = .ok (.ldc2_w 133, 3) := by decide +kernel
theorem dX5_laneHigh_7 : decode cX5_laneHigh 7 = .ok (.goto 17, 3) := by decide +kernel
theorem dX5_laneHigh_10 : decode cX5_laneHigh 10 = .ok (.iload_n 0, 1) := by decide +kernel
theorem dX5_laneHigh_11 : decode cX5_laneHigh 11 = .ok (.iconst 1, 1) := by decide +kernel
theorem dX5_laneHigh_12 : decode cX5_laneHigh 12 = .ok (.if_icmp .ne 9, 3) := by decide +kernel
theorem dX5_laneHigh_15 : decode cX5_laneHigh 15 = .ok (.ldc2_w 135, 3) := by decide +kernel
theorem dX5_laneHigh_18 : decode cX5_laneHigh 18 = .ok (.goto 6, 3) := by decide +kernel
theorem dX5_laneHigh_21 : decode cX5_laneHigh 21 = .ok (.ldc2_w 137, 3) := by decide +kernel
theorem dX5_laneHigh_24 : decode cX5_laneHigh 24 = .ok (.lreturn, 1) := by decide +kernel
theorem dX5_castLow_0 : decode cX5_castLow 0 = .ok (.lload_n 0, 1) := by decide +kernel
theorem dX5_castLow_1 : decode cX5_castLow 1 = .ok (.iload 4, 2) := by decide +kernel
theorem dX5_castLow_3 : decode cX5_castLow 3 = .ok (.invokestatic 139, 3) := by decide +kernel
theorem dX5_castLow_6 : decode cX5_castLow 6 = .ok (.lcmp, 1) := by decide +kernel
theorem dX5_castLow_7 : decode cX5_castLow 7 = .ok (.ifCond .lt 17, 3) := by decide +kernel
theorem dX5_castLow_10 : decode cX5_castLow 10 = .ok (.lload_n 2, 1) := by decide +kernel
theorem dX5_castLow_11 : decode cX5_castLow 11 = .ok (.iload 4, 2) := by decide +kernel
theorem dX5_castLow_13 : decode cX5_castLow 13 = .ok (.invokestatic 143, 3) := by decide +kernel
theorem dX5_castLow_16 : decode cX5_castLow 16 = .ok (.lcmp, 1) := by decide +kernel
theorem dX5_castLow_17 : decode cX5_castLow 17 = .ok (.ifCond .gt 7, 3) := by decide +kernel
theorem dX5_castLow_20 : decode cX5_castLow 20 = .ok (.lload_n 0, 1) := by decide +kernel
theorem dX5_castLow_21 : decode cX5_castLow 21 = .ok (.goto 8, 3) := by decide +kernel
theorem dX5_castLow_24 : decode cX5_castLow 24 = .ok (.iload 4, 2) := by decide +kernel
theorem dX5_castLow_26 : decode cX5_castLow 26 = .ok (.invokestatic 139, 3) := by decide +kernel
theorem dX5_castLow_29 : decode cX5_castLow 29 = .ok (.lreturn, 1) := by decide +kernel
theorem dX5_castHigh_0 : decode cX5_castHigh 0 = .ok (.lload_n 0, 1) := by decide +kernel
theorem dX5_castHigh_1 : decode cX5_castHigh 1 = .ok (.iload 4, 2) := by decide +kernel
theorem dX5_castHigh_3 : decode cX5_castHigh 3 = .ok (.invokestatic 139, 3) := by decide +kernel
theorem dX5_castHigh_6 : decode cX5_castHigh 6 = .ok (.lcmp, 1) := by decide +kernel
theorem dX5_castHigh_7 : decode cX5_castHigh 7 = .ok (.ifCond .lt 17, 3) := by decide +kernel
theorem dX5_castHigh_10 : decode cX5_castHigh 10 = .ok (.lload_n 2, 1) := by decide +kernel
theorem dX5_castHigh_11 : decode cX5_castHigh 11 = .ok (.iload 4, 2) := by decide +kernel
theorem dX5_castHigh_13 : decode cX5_castHigh 13 = .ok (.invokestatic 143, 3) := by decide +kernel
theorem dX5_castHigh_16 : decode cX5_castHigh 16 = .ok (.lcmp, 1) := by decide +kernel
theorem dX5_castHigh_17 : decode cX5_castHigh 17 = .ok (.ifCond .gt 7, 3) := by decide +kernel
theorem dX5_castHigh_20 : decode cX5_castHigh 20 = .ok (.lload_n 2, 1) := by decide +kernel
theorem dX5_castHigh_21 : decode cX5_castHigh 21 = .ok (.goto 8, 3) := by decide +kernel
theorem dX5_castHigh_24 : decode cX5_castHigh 24 = .ok (.iload 4, 2) := by decide +kernel
theorem dX5_castHigh_26 : decode cX5_castHigh 26 = .ok (.invokestatic 143, 3) := by decide +kernel
theorem dX5_castHigh_29 : decode cX5_castHigh 29 = .ok (.lreturn, 1) := by decide +kernel
theorem dX5_setSpan_0 : decode cX5_setSpan 0 = .ok (.lload_n 2, 1) := by decide +kernel
theorem dX5_setSpan_1 : decode cX5_setSpan 1 = .ok (.ldc2_w 131, 3) := by decide +kernel
theorem dX5_setSpan_4 : decode cX5_setSpan 4 = .ok (.lcmp, 1) := by decide +kernel
theorem dX5_setSpan_5 : decode cX5_setSpan 5 = .ok (.ifCond .lt 12, 3) := by decide +kernel
theorem dX5_setSpan_8 : decode cX5_setSpan 8 = .ok (.lload 4, 2) := by decide +kernel
theorem dX5_setSpan_10 : decode cX5_setSpan 10 = .ok (.ldc2_w 137, 3) := by decide +kernel
theorem dX5_setSpan_13 : decode cX5_setSpan 13 = .ok (.lcmp, 1) := by decide +kernel
theorem dX5_setSpan_14 : decode cX5_setSpan 14 = .ok (.ifCond .le 7, 3) := by decide +kernel
theorem dX5_setSpan_17 : decode cX5_setSpan 17 = .ok (.iconst 1, 1) := by decide +kernel
theorem dX5_setSpan_18 : decode cX5_setSpan 18 = .ok (.goto 4, 3) := by decide +kernel
theorem dX5_setSpan_21 : decode cX5_setSpan 21 = .ok (.iconst 0, 1) := by decide +kernel
theorem dX5_setSpan_22 : decode cX5_setSpan 22 = .ok (.istore 6, 2) := by decide +kernel
theorem dX5_setSpan_24 : decode cX5_setSpan 24 = .ok (.aload_n 0, 1) := by decide +kernel
theorem dX5_setSpan_25 : decode cX5_setSpan 25 = .ok (.getfield 35, 3) := by decide +kernel
theorem dX5_setSpan_28 : decode cX5_setSpan 28 = .ok (.iload_n 1, 1) := by decide +kernel
theorem dX5_setSpan_29 : decode cX5_setSpan 29 = .ok (.iload 6, 2) := by decide +kernel
theorem dX5_setSpan_31 : decode cX5_setSpan 31 = .ok (.ifCond .eq 9, 3) := by decide +kernel
theorem dX5_setSpan_34 : decode cX5_setSpan 34 = .ok (.ldc2_w 131, 3) := by decide +kernel
theorem dX5_setSpan_37 : decode cX5_setSpan 37 = .ok (.goto 4, 3) := by decide +kernel
theorem dX5_setSpan_40 : decode cX5_setSpan 40 = .ok (.lload_n 2, 1) := by decide +kernel
theorem dX5_setSpan_41 : decode cX5_setSpan 41 = .ok (.lastore, 1) := by decide +kernel
theorem dX5_setSpan_42 : decode cX5_setSpan 42 = .ok (.aload_n 0, 1) := by decide +kernel
theorem dX5_setSpan_43 : decode cX5_setSpan 43 = .ok (.getfield 39, 3) := by decide +kernel
theorem dX5_setSpan_46 : decode cX5_setSpan 46 = .ok (.iload_n 1, 1) := by decide +kernel
theorem dX5_setSpan_47 : decode cX5_setSpan 47 = .ok (.iload 6, 2) := by decide +kernel
theorem dX5_setSpan_49 : decode cX5_setSpan 49 = .ok (.ifCond .eq 9, 3) := by decide +kernel
theorem dX5_setSpan_52 : decode cX5_setSpan 52 = .ok (.ldc2_w 137, 3) := by decide +kernel
theorem dX5_setSpan_55 : decode cX5_setSpan 55 = .ok (.goto 5, 3) := by decide +kernel
theorem dX5_setSpan_58 : decode cX5_setSpan 58 = .ok (.lload 4, 2) := by decide +kernel
theorem dX5_setSpan_60 : decode cX5_setSpan 60 = .ok (.lastore, 1) := by decide +kernel
theorem dX5_setSpan_61 : decode cX5_setSpan 61 = .ok (.return_, 1) := by decide +kernel
theorem dX5_has_0 : decode cX5_has 0 = .ok (.aload_n 0, 1) := by decide +kernel
theorem dX5_has_1 : decode cX5_has 1 = .ok (.getfield 42, 3) := by decide +kernel
theorem dX5_has_4 : decode cX5_has 4 = .ok (.iload_n 1, 1) := by decide +kernel
theorem dX5_has_5 : decode cX5_has 5 = .ok (.laload, 1) := by decide +kernel
theorem dX5_has_6 : decode cX5_has 6 = .ok (.iload_n 2, 1) := by decide +kernel
theorem dX5_has_7 : decode cX5_has 7 = .ok (.lshr, 1) := by decide +kernel
theorem dX5_has_8 : decode cX5_has 8 = .ok (.lconst 1, 1) := by decide +kernel
theorem dX5_has_9 : decode cX5_has 9 = .ok (.land, 1) := by decide +kernel
theorem dX5_has_10 : decode cX5_has 10 = .ok (.lconst 1, 1) := by decide +kernel
theorem dX5_has_11 : decode cX5_has 11 = .ok (.lcmp, 1) := by decide +kernel
theorem dX5_has_12 : decode cX5_has 12 = .ok (.ifCond .ne 7, 3) := by decide +kernel
theorem dX5_has_15 : decode cX5_has 15 = .ok (.iconst 1, 1) := by decide +kernel
theorem dX5_has_16 : decode cX5_has 16 = .ok (.goto 4, 3) := by decide +kernel
theorem dX5_has_19 : decode cX5_has 19 = .ok (.iconst 0, 1) := by decide +kernel
theorem dX5_has_20 : decode cX5_has 20 = .ok (.ireturn, 1) := by decide +kernel
theorem dX5_copyBank_0 : decode cX5_copyBank 0 = .ok (.aload_n 0, 1) := by decide +kernel
theorem dX5_copyBank_1 : decode cX5_copyBank 1 = .ok (.getfield 32, 3) := by decide +kernel
theorem dX5_copyBank_4 : decode cX5_copyBank 4 = .ok (.iload_n 2, 1) := by decide +kernel
theorem dX5_copyBank_5 : decode cX5_copyBank 5 = .ok (.aload_n 0, 1) := by decide +kernel
theorem dX5_copyBank_6 : decode cX5_copyBank 6 = .ok (.getfield 32, 3) := by decide +kernel
theorem dX5_copyBank_9 : decode cX5_copyBank 9 = .ok (.iload_n 1, 1) := by decide +kernel
theorem dX5_copyBank_10 : decode cX5_copyBank 10 = .ok (.baload, 1) := by decide +kernel
theorem dX5_copyBank_11 : decode cX5_copyBank 11 = .ok (.bastore, 1) := by decide +kernel
theorem dX5_copyBank_12 : decode cX5_copyBank 12 = .ok (.iconst 0, 1) := by decide +kernel
theorem dX5_copyBank_13 : decode cX5_copyBank 13 = .ok (.istore_n 3, 1) := by decide +kernel
theorem dX5_copyBank_14 : decode cX5_copyBank 14 = .ok (.iload_n 3, 1) := by decide +kernel
theorem dX5_copyBank_15 : decode cX5_copyBank 15 = .ok (.bipush 6, 2) := by decide +kernel
theorem dX5_copyBank_17 : decode cX5_copyBank 17 = .ok (.if_icmp .ge 97, 3) := by decide +kernel
theorem dX5_copyBank_20 : decode cX5_copyBank 20 = .ok (.aload_n 0, 1) := by decide +kernel
theorem dX5_copyBank_21 : decode cX5_copyBank 21 = .ok (.getfield 35, 3) := by decide +kernel
theorem dX5_copyBank_24 : decode cX5_copyBank 24 = .ok (.bipush 6, 2) := by decide +kernel
theorem dX5_copyBank_26 : decode cX5_copyBank 26 = .ok (.iload_n 2, 1) := by decide +kernel
theorem dX5_copyBank_27 : decode cX5_copyBank 27 = .ok (.imul, 1) := by decide +kernel
theorem dX5_copyBank_28 : decode cX5_copyBank 28 = .ok (.iload_n 3, 1) := by decide +kernel
theorem dX5_copyBank_29 : decode cX5_copyBank 29 = .ok (.iadd, 1) := by decide +kernel
theorem dX5_copyBank_30 : decode cX5_copyBank 30 = .ok (.aload_n 0, 1) := by decide +kernel
theorem dX5_copyBank_31 : decode cX5_copyBank 31 = .ok (.getfield 35, 3) := by decide +kernel
theorem dX5_copyBank_34 : decode cX5_copyBank 34 = .ok (.bipush 6, 2) := by decide +kernel
theorem dX5_copyBank_36 : decode cX5_copyBank 36 = .ok (.iload_n 1, 1) := by decide +kernel
theorem dX5_copyBank_37 : decode cX5_copyBank 37 = .ok (.imul, 1) := by decide +kernel
theorem dX5_copyBank_38 : decode cX5_copyBank 38 = .ok (.iload_n 3, 1) := by decide +kernel
theorem dX5_copyBank_39 : decode cX5_copyBank 39 = .ok (.iadd, 1) := by decide +kernel
theorem dX5_copyBank_40 : decode cX5_copyBank 40 = .ok (.laload, 1) := by decide +kernel
theorem dX5_copyBank_41 : decode cX5_copyBank 41 = .ok (.lastore, 1) := by decide +kernel
theorem dX5_copyBank_42 : decode cX5_copyBank 42 = .ok (.aload_n 0, 1) := by decide +kernel
theorem dX5_copyBank_43 : decode cX5_copyBank 43 = .ok (.getfield 39, 3) := by decide +kernel
theorem dX5_copyBank_46 : decode cX5_copyBank 46 = .ok (.bipush 6, 2) := by decide +kernel
theorem dX5_copyBank_48 : decode cX5_copyBank 48 = .ok (.iload_n 2, 1) := by decide +kernel
theorem dX5_copyBank_49 : decode cX5_copyBank 49 = .ok (.imul, 1) := by decide +kernel
theorem dX5_copyBank_50 : decode cX5_copyBank 50 = .ok (.iload_n 3, 1) := by decide +kernel
theorem dX5_copyBank_51 : decode cX5_copyBank 51 = .ok (.iadd, 1) := by decide +kernel
theorem dX5_copyBank_52 : decode cX5_copyBank 52 = .ok (.aload_n 0, 1) := by decide +kernel
theorem dX5_copyBank_53 : decode cX5_copyBank 53 = .ok (.getfield 39, 3) := by decide +kernel
theorem dX5_copyBank_56 : decode cX5_copyBank 56 = .ok (.bipush 6, 2) := by decide +kernel
theorem dX5_copyBank_58 : decode cX5_copyBank 58 = .ok (.iload_n 1, 1) := by decide +kernel
theorem dX5_copyBank_59 : decode cX5_copyBank 59 = .ok (.imul, 1) := by decide +kernel
theorem dX5_copyBank_60 : decode cX5_copyBank 60 = .ok (.iload_n 3, 1) := by decide +kernel
theorem dX5_copyBank_61 : decode cX5_copyBank 61 = .ok (.iadd, 1) := by decide +kernel
theorem dX5_copyBank_62 : decode cX5_copyBank 62 = .ok (.laload, 1) := by decide +kernel
theorem dX5_copyBank_63 : decode cX5_copyBank 63 = .ok (.lastore, 1) := by decide +kernel
theorem dX5_copyBank_64 : decode cX5_copyBank 64 = .ok (.aload_n 0, 1) := by decide +kernel
theorem dX5_copyBank_65 : decode cX5_copyBank 65 = .ok (.getfield 42, 3) := by decide +kernel
theorem dX5_copyBank_68 : decode cX5_copyBank 68 = .ok (.bipush 6, 2) := by decide +kernel
theorem dX5_copyBank_70 : decode cX5_copyBank 70 = .ok (.iload_n 2, 1) := by decide +kernel
theorem dX5_copyBank_71 : decode cX5_copyBank 71 = .ok (.imul, 1) := by decide +kernel
theorem dX5_copyBank_72 : decode cX5_copyBank 72 = .ok (.iload_n 3, 1) := by decide +kernel
theorem dX5_copyBank_73 : decode cX5_copyBank 73 = .ok (.iadd, 1) := by decide +kernel
theorem dX5_copyBank_74 : decode cX5_copyBank 74 = .ok (.aload_n 0, 1) := by decide +kernel
theorem dX5_copyBank_75 : decode cX5_copyBank 75 = .ok (.getfield 42, 3) := by decide +kernel
theorem dX5_copyBank_78 : decode cX5_copyBank 78 = .ok (.bipush 6, 2) := by decide +kernel
theorem dX5_copyBank_80 : decode cX5_copyBank 80 = .ok (.iload_n 1, 1) := by decide +kernel
theorem dX5_copyBank_81 : decode cX5_copyBank 81 = .ok (.imul, 1) := by decide +kernel
theorem dX5_copyBank_82 : decode cX5_copyBank 82 = .ok (.iload_n 3, 1) := by decide +kernel
theorem dX5_copyBank_83 : decode cX5_copyBank 83 = .ok (.iadd, 1) := by decide +kernel
theorem dX5_copyBank_84 : decode cX5_copyBank 84 = .ok (.laload, 1) := by decide +kernel
theorem dX5_copyBank_85 : decode cX5_copyBank 85 = .ok (.lastore, 1) := by decide +kernel
theorem dX5_copyBank_86 : decode cX5_copyBank 86 = .ok (.aload_n 0, 1) := by decide +kernel
theorem dX5_copyBank_87 : decode cX5_copyBank 87 = .ok (.getfield 45, 3) := by decide +kernel
theorem dX5_copyBank_90 : decode cX5_copyBank 90 = .ok (.bipush 6, 2) := by decide +kernel
theorem dX5_copyBank_92 : decode cX5_copyBank 92 = .ok (.iload_n 2, 1) := by decide +kernel
theorem dX5_copyBank_93 : decode cX5_copyBank 93 = .ok (.imul, 1) := by decide +kernel
theorem dX5_copyBank_94 : decode cX5_copyBank 94 = .ok (.iload_n 3, 1) := by decide +kernel
theorem dX5_copyBank_95 : decode cX5_copyBank 95 = .ok (.iadd, 1) := by decide +kernel
theorem dX5_copyBank_96 : decode cX5_copyBank 96 = .ok (.aload_n 0, 1) := by decide +kernel
theorem dX5_copyBank_97 : decode cX5_copyBank 97 = .ok (.getfield 45, 3) := by decide +kernel
theorem dX5_copyBank_100 : decode cX5_copyBank 100 = .ok (.bipush 6, 2) := by decide +kernel
theorem dX5_copyBank_102 : decode cX5_copyBank 102 = .ok (.iload_n 1, 1) := by decide +kernel
theorem dX5_copyBank_103 : decode cX5_copyBank 103 = .ok (.imul, 1) := by decide +kernel
theorem dX5_copyBank_104 : decode cX5_copyBank 104 = .ok (.iload_n 3, 1) := by decide +kernel
theorem dX5_copyBank_105 : decode cX5_copyBank 105 = .ok (.iadd, 1) := by decide +kernel
theorem dX5_copyBank_106 : decode cX5_copyBank 106 = .ok (.baload, 1) := by decide +kernel
theorem dX5_copyBank_107 : decode cX5_copyBank 107 = .ok (.bastore, 1) := by decide +kernel
theorem dX5_copyBank_108 : decode cX5_copyBank 108 = .ok (.iinc 3 1, 3) := by decide +kernel
theorem dX5_copyBank_111 : decode cX5_copyBank 111 = .ok (.goto (-97), 3) := by decide +kernel
theorem dX5_copyBank_114 : decode cX5_copyBank 114 = .ok (.iconst 0, 1) := by decide +kernel
theorem dX5_copyBank_115 : decode cX5_copyBank 115 = .ok (.istore_n 3, 1) := by decide +kernel
theorem dX5_copyBank_116 : decode cX5_copyBank 116 = .ok (.iload_n 3, 1) := by decide +kernel
theorem dX5_copyBank_117 : decode cX5_copyBank 117 = .ok (.bipush 40, 2) := by decide +kernel
theorem dX5_copyBank_119 : decode cX5_copyBank 119 = .ok (.if_icmp .ge 25, 3) := by decide +kernel
theorem dX5_copyBank_122 : decode cX5_copyBank 122 = .ok (.aload_n 0, 1) := by decide +kernel
theorem dX5_copyBank_123 : decode cX5_copyBank 123 = .ok (.bipush 40, 2) := by decide +kernel
theorem dX5_copyBank_125 : decode cX5_copyBank 125 = .ok (.iload_n 1, 1) := by decide +kernel
theorem dX5_copyBank_126 : decode cX5_copyBank 126 = .ok (.imul, 1) := by decide +kernel
theorem dX5_copyBank_127 : decode cX5_copyBank 127 = .ok (.iload_n 3, 1) := by decide +kernel
theorem dX5_copyBank_128 : decode cX5_copyBank 128 = .ok (.iadd, 1) := by decide +kernel
theorem dX5_copyBank_129 : decode cX5_copyBank 129 = .ok (.bipush 40, 2) := by decide +kernel
theorem dX5_copyBank_131 : decode cX5_copyBank 131 = .ok (.iload_n 2, 1) := by decide +kernel
theorem dX5_copyBank_132 : decode cX5_copyBank 132 = .ok (.imul, 1) := by decide +kernel
theorem dX5_copyBank_133 : decode cX5_copyBank 133 = .ok (.iload_n 3, 1) := by decide +kernel
theorem dX5_copyBank_134 : decode cX5_copyBank 134 = .ok (.iadd, 1) := by decide +kernel
theorem dX5_copyBank_135 : decode cX5_copyBank 135 = .ok (.invokevirtual 146, 3) := by decide +kernel
theorem dX5_copyBank_138 : decode cX5_copyBank 138 = .ok (.iinc 3 1, 3) := by decide +kernel
theorem dX5_copyBank_141 : decode cX5_copyBank 141 = .ok (.goto (-25), 3) := by decide +kernel
theorem dX5_copyBank_144 : decode cX5_copyBank 144 = .ok (.return_, 1) := by decide +kernel
theorem dX5_copySite_0 : decode cX5_copySite 0 = .ok (.aload_n 0, 1) := by decide +kernel
theorem dX5_copySite_1 : decode cX5_copySite 1 = .ok (.getfield 48, 3) := by decide +kernel
theorem dX5_copySite_4 : decode cX5_copySite 4 = .ok (.iload_n 2, 1) := by decide +kernel
theorem dX5_copySite_5 : decode cX5_copySite 5 = .ok (.aload_n 0, 1) := by decide +kernel
theorem dX5_copySite_6 : decode cX5_copySite 6 = .ok (.getfield 48, 3) := by decide +kernel
theorem dX5_copySite_9 : decode cX5_copySite 9 = .ok (.iload_n 1, 1) := by decide +kernel
theorem dX5_copySite_10 : decode cX5_copySite 10 = .ok (.baload, 1) := by decide +kernel
theorem dX5_copySite_11 : decode cX5_copySite 11 = .ok (.bastore, 1) := by decide +kernel
theorem dX5_copySite_12 : decode cX5_copySite 12 = .ok (.aload_n 0, 1) := by decide +kernel
theorem dX5_copySite_13 : decode cX5_copySite 13 = .ok (.getfield 51, 3) := by decide +kernel
theorem dX5_copySite_16 : decode cX5_copySite 16 = .ok (.iload_n 2, 1) := by decide +kernel
theorem dX5_copySite_17 : decode cX5_copySite 17 = .ok (.aload_n 0, 1) := by decide +kernel
theorem dX5_copySite_18 : decode cX5_copySite 18 = .ok (.getfield 51, 3) := by decide +kernel
theorem dX5_copySite_21 : decode cX5_copySite 21 = .ok (.iload_n 1, 1) := by decide +kernel
theorem dX5_copySite_22 : decode cX5_copySite 22 = .ok (.iaload, 1) := by decide +kernel
theorem dX5_copySite_23 : decode cX5_copySite 23 = .ok (.iastore, 1) := by decide +kernel
theorem dX5_copySite_24 : decode cX5_copySite 24 = .ok (.aload_n 0, 1) := by decide +kernel
theorem dX5_copySite_25 : decode cX5_copySite 25 = .ok (.getfield 54, 3) := by decide +kernel
theorem dX5_copySite_28 : decode cX5_copySite 28 = .ok (.iload_n 2, 1) := by decide +kernel
theorem dX5_copySite_29 : decode cX5_copySite 29 = .ok (.aload_n 0, 1) := by decide +kernel
theorem dX5_copySite_30 : decode cX5_copySite 30 = .ok (.getfield 54, 3) := by decide +kernel
theorem dX5_copySite_33 : decode cX5_copySite 33 = .ok (.iload_n 1, 1) := by decide +kernel
theorem dX5_copySite_34 : decode cX5_copySite 34 = .ok (.laload, 1) := by decide +kernel
theorem dX5_copySite_35 : decode cX5_copySite 35 = .ok (.lastore, 1) := by decide +kernel
theorem dX5_copySite_36 : decode cX5_copySite 36 = .ok (.aload_n 0, 1) := by decide +kernel
theorem dX5_copySite_37 : decode cX5_copySite 37 = .ok (.getfield 57, 3) := by decide +kernel
theorem dX5_copySite_40 : decode cX5_copySite 40 = .ok (.iload_n 2, 1) := by decide +kernel
theorem dX5_copySite_41 : decode cX5_copySite 41 = .ok (.aload_n 0, 1) := by decide +kernel
theorem dX5_copySite_42 : decode cX5_copySite 42 = .ok (.getfield 57, 3) := by decide +kernel
theorem dX5_copySite_45 : decode cX5_copySite 45 = .ok (.iload_n 1, 1) := by decide +kernel
theorem dX5_copySite_46 : decode cX5_copySite 46 = .ok (.laload, 1) := by decide +kernel
theorem dX5_copySite_47 : decode cX5_copySite 47 = .ok (.lastore, 1) := by decide +kernel
theorem dX5_copySite_48 : decode cX5_copySite 48 = .ok (.iconst 0, 1) := by decide +kernel
theorem dX5_copySite_49 : decode cX5_copySite 49 = .ok (.istore_n 3, 1) := by decide +kernel
theorem dX5_copySite_50 : decode cX5_copySite 50 = .ok (.iload_n 3, 1) := by decide +kernel
theorem dX5_copySite_51 : decode cX5_copySite 51 = .ok (.bipush 12, 2) := by decide +kernel
theorem dX5_copySite_53 : decode cX5_copySite 53 = .ok (.if_icmp .ge 53, 3) := by decide +kernel
theorem dX5_copySite_56 : decode cX5_copySite 56 = .ok (.aload_n 0, 1) := by decide +kernel
theorem dX5_copySite_57 : decode cX5_copySite 57 = .ok (.getfield 60, 3) := by decide +kernel
theorem dX5_copySite_60 : decode cX5_copySite 60 = .ok (.bipush 12, 2) := by decide +kernel
theorem dX5_copySite_62 : decode cX5_copySite 62 = .ok (.iload_n 2, 1) := by decide +kernel
theorem dX5_copySite_63 : decode cX5_copySite 63 = .ok (.imul, 1) := by decide +kernel
theorem dX5_copySite_64 : decode cX5_copySite 64 = .ok (.iload_n 3, 1) := by decide +kernel
theorem dX5_copySite_65 : decode cX5_copySite 65 = .ok (.iadd, 1) := by decide +kernel
theorem dX5_copySite_66 : decode cX5_copySite 66 = .ok (.aload_n 0, 1) := by decide +kernel
theorem dX5_copySite_67 : decode cX5_copySite 67 = .ok (.getfield 60, 3) := by decide +kernel
theorem dX5_copySite_70 : decode cX5_copySite 70 = .ok (.bipush 12, 2) := by decide +kernel
theorem dX5_copySite_72 : decode cX5_copySite 72 = .ok (.iload_n 1, 1) := by decide +kernel
theorem dX5_copySite_73 : decode cX5_copySite 73 = .ok (.imul, 1) := by decide +kernel
theorem dX5_copySite_74 : decode cX5_copySite 74 = .ok (.iload_n 3, 1) := by decide +kernel
theorem dX5_copySite_75 : decode cX5_copySite 75 = .ok (.iadd, 1) := by decide +kernel
theorem dX5_copySite_76 : decode cX5_copySite 76 = .ok (.laload, 1) := by decide +kernel
theorem dX5_copySite_77 : decode cX5_copySite 77 = .ok (.lastore, 1) := by decide +kernel
theorem dX5_copySite_78 : decode cX5_copySite 78 = .ok (.aload_n 0, 1) := by decide +kernel
theorem dX5_copySite_79 : decode cX5_copySite 79 = .ok (.getfield 63, 3) := by decide +kernel
theorem dX5_copySite_82 : decode cX5_copySite 82 = .ok (.bipush 12, 2) := by decide +kernel
theorem dX5_copySite_84 : decode cX5_copySite 84 = .ok (.iload_n 2, 1) := by decide +kernel
theorem dX5_copySite_85 : decode cX5_copySite 85 = .ok (.imul, 1) := by decide +kernel
theorem dX5_copySite_86 : decode cX5_copySite 86 = .ok (.iload_n 3, 1) := by decide +kernel
theorem dX5_copySite_87 : decode cX5_copySite 87 = .ok (.iadd, 1) := by decide +kernel
theorem dX5_copySite_88 : decode cX5_copySite 88 = .ok (.aload_n 0, 1) := by decide +kernel
theorem dX5_copySite_89 : decode cX5_copySite 89 = .ok (.getfield 63, 3) := by decide +kernel
theorem dX5_copySite_92 : decode cX5_copySite 92 = .ok (.bipush 12, 2) := by decide +kernel
theorem dX5_copySite_94 : decode cX5_copySite 94 = .ok (.iload_n 1, 1) := by decide +kernel
theorem dX5_copySite_95 : decode cX5_copySite 95 = .ok (.imul, 1) := by decide +kernel
theorem dX5_copySite_96 : decode cX5_copySite 96 = .ok (.iload_n 3, 1) := by decide +kernel
theorem dX5_copySite_97 : decode cX5_copySite 97 = .ok (.iadd, 1) := by decide +kernel
theorem dX5_copySite_98 : decode cX5_copySite 98 = .ok (.laload, 1) := by decide +kernel
theorem dX5_copySite_99 : decode cX5_copySite 99 = .ok (.lastore, 1) := by decide +kernel
theorem dX5_copySite_100 : decode cX5_copySite 100 = .ok (.iinc 3 1, 3) := by decide +kernel
theorem dX5_copySite_103 : decode cX5_copySite 103 = .ok (.goto (-53), 3) := by decide +kernel
theorem dX5_copySite_106 : decode cX5_copySite 106 = .ok (.return_, 1) := by decide +kernel
theorem dX5_joinPlace_0 : decode cX5_joinPlace 0 = .ok (.bipush 12, 2) := by decide +kernel
theorem dX5_joinPlace_2 : decode cX5_joinPlace 2 = .ok (.iload_n 1, 1) := by decide +kernel
theorem dX5_joinPlace_3 : decode cX5_joinPlace 3 = .ok (.imul, 1) := by decide +kernel
theorem dX5_joinPlace_4 : decode cX5_joinPlace 4 = .ok (.iload_n 2, 1) := by decide +kernel
theorem dX5_joinPlace_5 : decode cX5_joinPlace 5 = .ok (.iadd, 1) := by decide +kernel
theorem dX5_joinPlace_6 : decode cX5_joinPlace 6 = .ok (.istore 7, 2) := by decide +kernel
theorem dX5_joinPlace_8 : decode cX5_joinPlace 8 = .ok (.aload_n 0, 1) := by decide +kernel
theorem dX5_joinPlace_9 : decode cX5_joinPlace 9 = .ok (.getfield 60, 3) := by decide +kernel
theorem dX5_joinPlace_12 : decode cX5_joinPlace 12 = .ok (.iload 7, 2) := by decide +kernel
theorem dX5_joinPlace_14 : decode cX5_joinPlace 14 = .ok (.lload_n 3, 1) := by decide +kernel
theorem dX5_joinPlace_15 : decode cX5_joinPlace 15 = .ok (.aload_n 0, 1) := by decide +kernel
theorem dX5_joinPlace_16 : decode cX5_joinPlace 16 = .ok (.getfield 60, 3) := by decide +kernel
theorem dX5_joinPlace_19 : decode cX5_joinPlace 19 = .ok (.iload 7, 2) := by decide +kernel
theorem dX5_joinPlace_21 : decode cX5_joinPlace 21 = .ok (.laload, 1) := by decide +kernel
theorem dX5_joinPlace_22 : decode cX5_joinPlace 22 = .ok (.lcmp, 1) := by decide +kernel
theorem dX5_joinPlace_23 : decode cX5_joinPlace 23 = .ok (.ifCond .ge 7, 3) := by decide +kernel
theorem dX5_joinPlace_26 : decode cX5_joinPlace 26 = .ok (.lload_n 3, 1) := by decide +kernel
theorem dX5_joinPlace_27 : decode cX5_joinPlace 27 = .ok (.goto 10, 3) := by decide +kernel
theorem dX5_joinPlace_30 : decode cX5_joinPlace 30 = .ok (.aload_n 0, 1) := by decide +kernel
theorem dX5_joinPlace_31 : decode cX5_joinPlace 31 = .ok (.getfield 60, 3) := by decide +kernel
theorem dX5_joinPlace_34 : decode cX5_joinPlace 34 = .ok (.iload 7, 2) := by decide +kernel
theorem dX5_joinPlace_36 : decode cX5_joinPlace 36 = .ok (.laload, 1) := by decide +kernel
theorem dX5_joinPlace_37 : decode cX5_joinPlace 37 = .ok (.lastore, 1) := by decide +kernel
theorem dX5_joinPlace_38 : decode cX5_joinPlace 38 = .ok (.aload_n 0, 1) := by decide +kernel
theorem dX5_joinPlace_39 : decode cX5_joinPlace 39 = .ok (.getfield 63, 3) := by decide +kernel
theorem dX5_joinPlace_42 : decode cX5_joinPlace 42 = .ok (.iload 7, 2) := by decide +kernel
theorem dX5_joinPlace_44 : decode cX5_joinPlace 44 = .ok (.lload 5, 2) := by decide +kernel
theorem dX5_joinPlace_46 : decode cX5_joinPlace 46 = .ok (.aload_n 0, 1) := by decide +kernel
theorem dX5_joinPlace_47 : decode cX5_joinPlace 47 = .ok (.getfield 63, 3) := by decide +kernel
theorem dX5_joinPlace_50 : decode cX5_joinPlace 50 = .ok (.iload 7, 2) := by decide +kernel
theorem dX5_joinPlace_52 : decode cX5_joinPlace 52 = .ok (.laload, 1) := by decide +kernel
theorem dX5_joinPlace_53 : decode cX5_joinPlace 53 = .ok (.lcmp, 1) := by decide +kernel
theorem dX5_joinPlace_54 : decode cX5_joinPlace 54 = .ok (.ifCond .le 8, 3) := by decide +kernel
theorem dX5_joinPlace_57 : decode cX5_joinPlace 57 = .ok (.lload 5, 2) := by decide +kernel
theorem dX5_joinPlace_59 : decode cX5_joinPlace 59 = .ok (.goto 10, 3) := by decide +kernel
theorem dX5_joinPlace_62 : decode cX5_joinPlace 62 = .ok (.aload_n 0, 1) := by decide +kernel
theorem dX5_joinPlace_63 : decode cX5_joinPlace 63 = .ok (.getfield 63, 3) := by decide +kernel
theorem dX5_joinPlace_66 : decode cX5_joinPlace 66 = .ok (.iload 7, 2) := by decide +kernel
theorem dX5_joinPlace_68 : decode cX5_joinPlace 68 = .ok (.laload, 1) := by decide +kernel
theorem dX5_joinPlace_69 : decode cX5_joinPlace 69 = .ok (.lastore, 1) := by decide +kernel
theorem dX5_joinPlace_70 : decode cX5_joinPlace 70 = .ok (.return_, 1) := by decide +kernel
theorem dX5_joinSite_0 : decode cX5_joinSite 0 = .ok (.aload_n 0, 1) := by decide +kernel
theorem dX5_joinSite_1 : decode cX5_joinSite 1 = .ok (.getfield 48, 3) := by decide +kernel
theorem dX5_joinSite_4 : decode cX5_joinSite 4 = .ok (.iload_n 1, 1) := by decide +kernel
theorem dX5_joinSite_5 : decode cX5_joinSite 5 = .ok (.baload, 1) := by decide +kernel
theorem dX5_joinSite_6 : decode cX5_joinSite 6 = .ok (.ifCond .ne 4, 3) := by decide +kernel
theorem dX5_joinSite_9 : decode cX5_joinSite 9 = .ok (.return_, 1) := by decide +kernel
theorem dX5_joinSite_10 : decode cX5_joinSite 10 = .ok (.aload_n 0, 1) := by decide +kernel
theorem dX5_joinSite_11 : decode cX5_joinSite 11 = .ok (.getfield 48, 3) := by decide +kernel
theorem dX5_joinSite_14 : decode cX5_joinSite 14 = .ok (.iload_n 2, 1) := by decide +kernel
theorem dX5_joinSite_15 : decode cX5_joinSite 15 = .ok (.baload, 1) := by decide +kernel
theorem dX5_joinSite_16 : decode cX5_joinSite 16 = .ok (.ifCond .ne 10, 3) := by decide +kernel
theorem dX5_joinSite_19 : decode cX5_joinSite 19 = .ok (.aload_n 0, 1) := by decide +kernel
theorem dX5_joinSite_20 : decode cX5_joinSite 20 = .ok (.iload_n 1, 1) := by decide +kernel
theorem dX5_joinSite_21 : decode cX5_joinSite 21 = .ok (.iload_n 2, 1) := by decide +kernel
theorem dX5_joinSite_22 : decode cX5_joinSite 22 = .ok (.invokevirtual 146, 3) := by decide +kernel
theorem dX5_joinSite_25 : decode cX5_joinSite 25 = .ok (.return_, 1) := by decide +kernel
theorem dX5_joinSite_26 : decode cX5_joinSite 26 = .ok (.aload_n 0, 1) := by decide +kernel
theorem dX5_joinSite_27 : decode cX5_joinSite 27 = .ok (.getfield 51, 3) := by decide +kernel
theorem dX5_joinSite_30 : decode cX5_joinSite 30 = .ok (.iload_n 2, 1) := by decide +kernel
theorem dX5_joinSite_31 : decode cX5_joinSite 31 = .ok (.dup2, 1) := by decide +kernel
theorem dX5_joinSite_32 : decode cX5_joinSite 32 = .ok (.iaload, 1) := by decide +kernel
theorem dX5_joinSite_33 : decode cX5_joinSite 33 = .ok (.aload_n 0, 1) := by decide +kernel
theorem dX5_joinSite_34 : decode cX5_joinSite 34 = .ok (.getfield 51, 3) := by decide +kernel
theorem dX5_joinSite_37 : decode cX5_joinSite 37 = .ok (.iload_n 1, 1) := by decide +kernel
theorem dX5_joinSite_38 : decode cX5_joinSite 38 = .ok (.iaload, 1) := by decide +kernel
theorem dX5_joinSite_39 : decode cX5_joinSite 39 = .ok (.ior, 1) := by decide +kernel
theorem dX5_joinSite_40 : decode cX5_joinSite 40 = .ok (.iastore, 1) := by decide +kernel
theorem dX5_joinSite_41 : decode cX5_joinSite 41 = .ok (.aload_n 0, 1) := by decide +kernel
theorem dX5_joinSite_42 : decode cX5_joinSite 42 = .ok (.getfield 54, 3) := by decide +kernel
theorem dX5_joinSite_45 : decode cX5_joinSite 45 = .ok (.iload_n 2, 1) := by decide +kernel
theorem dX5_joinSite_46 : decode cX5_joinSite 46 = .ok (.aload_n 0, 1) := by decide +kernel
theorem dX5_joinSite_47 : decode cX5_joinSite 47 = .ok (.getfield 54, 3) := by decide +kernel
theorem dX5_joinSite_50 : decode cX5_joinSite 50 = .ok (.iload_n 1, 1) := by decide +kernel
theorem dX5_joinSite_51 : decode cX5_joinSite 51 = .ok (.laload, 1) := by decide +kernel
theorem dX5_joinSite_52 : decode cX5_joinSite 52 = .ok (.aload_n 0, 1) := by decide +kernel
theorem dX5_joinSite_53 : decode cX5_joinSite 53 = .ok (.getfield 54, 3) := by decide +kernel
theorem dX5_joinSite_56 : decode cX5_joinSite 56 = .ok (.iload_n 2, 1) := by decide +kernel
theorem dX5_joinSite_57 : decode cX5_joinSite 57 = .ok (.laload, 1) := by decide +kernel
theorem dX5_joinSite_58 : decode cX5_joinSite 58 = .ok (.lcmp, 1) := by decide +kernel
theorem dX5_joinSite_59 : decode cX5_joinSite 59 = .ok (.ifCond .ge 12, 3) := by decide +kernel
theorem dX5_joinSite_62 : decode cX5_joinSite 62 = .ok (.aload_n 0, 1) := by decide +kernel
theorem dX5_joinSite_63 : decode cX5_joinSite 63 = .ok (.getfield 54, 3) := by decide +kernel
theorem dX5_joinSite_66 : decode cX5_joinSite 66 = .ok (.iload_n 1, 1) := by decide +kernel
theorem dX5_joinSite_67 : decode cX5_joinSite 67 = .ok (.laload, 1) := by decide +kernel
theorem dX5_joinSite_68 : decode cX5_joinSite 68 = .ok (.goto 9, 3) := by decide +kernel
theorem dX5_joinSite_71 : decode cX5_joinSite 71 = .ok (.aload_n 0, 1) := by decide +kernel
theorem dX5_joinSite_72 : decode cX5_joinSite 72 = .ok (.getfield 54, 3) := by decide +kernel
theorem dX5_joinSite_75 : decode cX5_joinSite 75 = .ok (.iload_n 2, 1) := by decide +kernel
theorem dX5_joinSite_76 : decode cX5_joinSite 76 = .ok (.laload, 1) := by decide +kernel
theorem dX5_joinSite_77 : decode cX5_joinSite 77 = .ok (.lastore, 1) := by decide +kernel
theorem dX5_joinSite_78 : decode cX5_joinSite 78 = .ok (.aload_n 0, 1) := by decide +kernel
theorem dX5_joinSite_79 : decode cX5_joinSite 79 = .ok (.getfield 57, 3) := by decide +kernel
theorem dX5_joinSite_82 : decode cX5_joinSite 82 = .ok (.iload_n 2, 1) := by decide +kernel
theorem dX5_joinSite_83 : decode cX5_joinSite 83 = .ok (.aload_n 0, 1) := by decide +kernel
theorem dX5_joinSite_84 : decode cX5_joinSite 84 = .ok (.getfield 57, 3) := by decide +kernel
theorem dX5_joinSite_87 : decode cX5_joinSite 87 = .ok (.iload_n 1, 1) := by decide +kernel
theorem dX5_joinSite_88 : decode cX5_joinSite 88 = .ok (.laload, 1) := by decide +kernel
theorem dX5_joinSite_89 : decode cX5_joinSite 89 = .ok (.aload_n 0, 1) := by decide +kernel
theorem dX5_joinSite_90 : decode cX5_joinSite 90 = .ok (.getfield 57, 3) := by decide +kernel
theorem dX5_joinSite_93 : decode cX5_joinSite 93 = .ok (.iload_n 2, 1) := by decide +kernel
theorem dX5_joinSite_94 : decode cX5_joinSite 94 = .ok (.laload, 1) := by decide +kernel
theorem dX5_joinSite_95 : decode cX5_joinSite 95 = .ok (.lcmp, 1) := by decide +kernel
theorem dX5_joinSite_96 : decode cX5_joinSite 96 = .ok (.ifCond .le 12, 3) := by decide +kernel
theorem dX5_joinSite_99 : decode cX5_joinSite 99 = .ok (.aload_n 0, 1) := by decide +kernel
theorem dX5_joinSite_100 : decode cX5_joinSite 100 = .ok (.getfield 57, 3) := by decide +kernel
theorem dX5_joinSite_103 : decode cX5_joinSite 103 = .ok (.iload_n 1, 1) := by decide +kernel
theorem dX5_joinSite_104 : decode cX5_joinSite 104 = .ok (.laload, 1) := by decide +kernel
theorem dX5_joinSite_105 : decode cX5_joinSite 105 = .ok (.goto 9, 3) := by decide +kernel
theorem dX5_joinSite_108 : decode cX5_joinSite 108 = .ok (.aload_n 0, 1) := by decide +kernel
theorem dX5_joinSite_109 : decode cX5_joinSite 109 = .ok (.getfield 57, 3) := by decide +kernel
theorem dX5_joinSite_112 : decode cX5_joinSite 112 = .ok (.iload_n 2, 1) := by decide +kernel
theorem dX5_joinSite_113 : decode cX5_joinSite 113 = .ok (.laload, 1) := by decide +kernel
theorem dX5_joinSite_114 : decode cX5_joinSite 114 = .ok (.lastore, 1) := by decide +kernel
theorem dX5_joinSite_115 : decode cX5_joinSite 115 = .ok (.iconst 0, 1) := by decide +kernel
theorem dX5_joinSite_116 : decode cX5_joinSite 116 = .ok (.istore_n 3, 1) := by decide +kernel
theorem dX5_joinSite_117 : decode cX5_joinSite 117 = .ok (.iload_n 3, 1) := by decide +kernel
theorem dX5_joinSite_118 : decode cX5_joinSite 118 = .ok (.bipush 12, 2) := by decide +kernel
theorem dX5_joinSite_120 : decode cX5_joinSite 120 = .ok (.if_icmp .ge 37, 3) := by decide +kernel
theorem dX5_joinSite_123 : decode cX5_joinSite 123 = .ok (.aload_n 0, 1) := by decide +kernel
theorem dX5_joinSite_124 : decode cX5_joinSite 124 = .ok (.iload_n 2, 1) := by decide +kernel
theorem dX5_joinSite_125 : decode cX5_joinSite 125 = .ok (.iload_n 3, 1) := by decide +kernel
theorem dX5_joinSite_126 : decode cX5_joinSite 126 = .ok (.aload_n 0, 1) := by decide +kernel
theorem dX5_joinSite_127 : decode cX5_joinSite 127 = .ok (.getfield 60, 3) := by decide +kernel
theorem dX5_joinSite_130 : decode cX5_joinSite 130 = .ok (.bipush 12, 2) := by decide +kernel
theorem dX5_joinSite_132 : decode cX5_joinSite 132 = .ok (.iload_n 1, 1) := by decide +kernel
theorem dX5_joinSite_133 : decode cX5_joinSite 133 = .ok (.imul, 1) := by decide +kernel
theorem dX5_joinSite_134 : decode cX5_joinSite 134 = .ok (.iload_n 3, 1) := by decide +kernel
theorem dX5_joinSite_135 : decode cX5_joinSite 135 = .ok (.iadd, 1) := by decide +kernel
theorem dX5_joinSite_136 : decode cX5_joinSite 136 = .ok (.laload, 1) := by decide +kernel
theorem dX5_joinSite_137 : decode cX5_joinSite 137 = .ok (.aload_n 0, 1) := by decide +kernel
theorem dX5_joinSite_138 : decode cX5_joinSite 138 = .ok (.getfield 63, 3) := by decide +kernel
theorem dX5_joinSite_141 : decode cX5_joinSite 141 = .ok (.bipush 12, 2) := by decide +kernel
theorem dX5_joinSite_143 : decode cX5_joinSite 143 = .ok (.iload_n 1, 1) := by decide +kernel
theorem dX5_joinSite_144 : decode cX5_joinSite 144 = .ok (.imul, 1) := by decide +kernel
theorem dX5_joinSite_145 : decode cX5_joinSite 145 = .ok (.iload_n 3, 1) := by decide +kernel
theorem dX5_joinSite_146 : decode cX5_joinSite 146 = .ok (.iadd, 1) := by decide +kernel
theorem dX5_joinSite_147 : decode cX5_joinSite 147 = .ok (.laload, 1) := by decide +kernel
theorem dX5_joinSite_148 : decode cX5_joinSite 148 = .ok (.invokevirtual 150, 3) := by decide +kernel
theorem dX5_joinSite_151 : decode cX5_joinSite 151 = .ok (.iinc 3 1, 3) := by decide +kernel
theorem dX5_joinSite_154 : decode cX5_joinSite 154 = .ok (.goto (-37), 3) := by decide +kernel
theorem dX5_joinSite_157 : decode cX5_joinSite 157 = .ok (.return_, 1) := by decide +kernel
theorem dX5_join_0 : decode cX5_join 0 = .ok (.aload_n 0, 1) := by decide +kernel
theorem dX5_join_1 : decode cX5_join 1 = .ok (.getfield 32, 3) := by decide +kernel
theorem dX5_join_4 : decode cX5_join 4 = .ok (.iconst 1, 1) := by decide +kernel
theorem dX5_join_5 : decode cX5_join 5 = .ok (.baload, 1) := by decide +kernel
theorem dX5_join_6 : decode cX5_join 6 = .ok (.ifCond .ne 4, 3) := by decide +kernel
theorem dX5_join_9 : decode cX5_join 9 = .ok (.return_, 1) := by decide +kernel
theorem dX5_join_10 : decode cX5_join 10 = .ok (.aload_n 0, 1) := by decide +kernel
theorem dX5_join_11 : decode cX5_join 11 = .ok (.getfield 32, 3) := by decide +kernel
theorem dX5_join_14 : decode cX5_join 14 = .ok (.iconst 0, 1) := by decide +kernel
theorem dX5_join_15 : decode cX5_join 15 = .ok (.baload, 1) := by decide +kernel
theorem dX5_join_16 : decode cX5_join 16 = .ok (.ifCond .ne 10, 3) := by decide +kernel
theorem dX5_join_19 : decode cX5_join 19 = .ok (.aload_n 0, 1) := by decide +kernel
theorem dX5_join_20 : decode cX5_join 20 = .ok (.iconst 1, 1) := by decide +kernel
theorem dX5_join_21 : decode cX5_join 21 = .ok (.iconst 0, 1) := by decide +kernel
theorem dX5_join_22 : decode cX5_join 22 = .ok (.invokevirtual 154, 3) := by decide +kernel
theorem dX5_join_25 : decode cX5_join 25 = .ok (.return_, 1) := by decide +kernel
theorem dX5_join_26 : decode cX5_join 26 = .ok (.iconst 0, 1) := by decide +kernel
theorem dX5_join_27 : decode cX5_join 27 = .ok (.istore_n 1, 1) := by decide +kernel
theorem dX5_join_28 : decode cX5_join 28 = .ok (.iload_n 1, 1) := by decide +kernel
theorem dX5_join_29 : decode cX5_join 29 = .ok (.bipush 6, 2) := by decide +kernel
theorem dX5_join_31 : decode cX5_join 31 = .ok (.if_icmp .ge 131, 3) := by decide +kernel
theorem dX5_join_34 : decode cX5_join 34 = .ok (.aload_n 0, 1) := by decide +kernel
theorem dX5_join_35 : decode cX5_join 35 = .ok (.getfield 35, 3) := by decide +kernel
theorem dX5_join_38 : decode cX5_join 38 = .ok (.iload_n 1, 1) := by decide +kernel
theorem dX5_join_39 : decode cX5_join 39 = .ok (.aload_n 0, 1) := by decide +kernel
theorem dX5_join_40 : decode cX5_join 40 = .ok (.getfield 35, 3) := by decide +kernel
theorem dX5_join_43 : decode cX5_join 43 = .ok (.bipush 6, 2) := by decide +kernel
theorem dX5_join_45 : decode cX5_join 45 = .ok (.iload_n 1, 1) := by decide +kernel
theorem dX5_join_46 : decode cX5_join 46 = .ok (.iadd, 1) := by decide +kernel
theorem dX5_join_47 : decode cX5_join 47 = .ok (.laload, 1) := by decide +kernel
theorem dX5_join_48 : decode cX5_join 48 = .ok (.aload_n 0, 1) := by decide +kernel
theorem dX5_join_49 : decode cX5_join 49 = .ok (.getfield 35, 3) := by decide +kernel
theorem dX5_join_52 : decode cX5_join 52 = .ok (.iload_n 1, 1) := by decide +kernel
theorem dX5_join_53 : decode cX5_join 53 = .ok (.laload, 1) := by decide +kernel
theorem dX5_join_54 : decode cX5_join 54 = .ok (.lcmp, 1) := by decide +kernel
theorem dX5_join_55 : decode cX5_join 55 = .ok (.ifCond .ge 15, 3) := by decide +kernel
theorem dX5_join_58 : decode cX5_join 58 = .ok (.aload_n 0, 1) := by decide +kernel
theorem dX5_join_59 : decode cX5_join 59 = .ok (.getfield 35, 3) := by decide +kernel
theorem dX5_join_62 : decode cX5_join 62 = .ok (.bipush 6, 2) := by decide +kernel
theorem dX5_join_64 : decode cX5_join 64 = .ok (.iload_n 1, 1) := by decide +kernel
theorem dX5_join_65 : decode cX5_join 65 = .ok (.iadd, 1) := by decide +kernel
theorem dX5_join_66 : decode cX5_join 66 = .ok (.laload, 1) := by decide +kernel
theorem dX5_join_67 : decode cX5_join 67 = .ok (.goto 9, 3) := by decide +kernel
theorem dX5_join_70 : decode cX5_join 70 = .ok (.aload_n 0, 1) := by decide +kernel
theorem dX5_join_71 : decode cX5_join 71 = .ok (.getfield 35, 3) := by decide +kernel
theorem dX5_join_74 : decode cX5_join 74 = .ok (.iload_n 1, 1) := by decide +kernel
theorem dX5_join_75 : decode cX5_join 75 = .ok (.laload, 1) := by decide +kernel
theorem dX5_join_76 : decode cX5_join 76 = .ok (.lastore, 1) := by decide +kernel
theorem dX5_join_77 : decode cX5_join 77 = .ok (.aload_n 0, 1) := by decide +kernel
theorem dX5_join_78 : decode cX5_join 78 = .ok (.getfield 39, 3) := by decide +kernel
theorem dX5_join_81 : decode cX5_join 81 = .ok (.iload_n 1, 1) := by decide +kernel
theorem dX5_join_82 : decode cX5_join 82 = .ok (.aload_n 0, 1) := by decide +kernel
theorem dX5_join_83 : decode cX5_join 83 = .ok (.getfield 39, 3) := by decide +kernel
theorem dX5_join_86 : decode cX5_join 86 = .ok (.bipush 6, 2) := by decide +kernel
theorem dX5_join_88 : decode cX5_join 88 = .ok (.iload_n 1, 1) := by decide +kernel
theorem dX5_join_89 : decode cX5_join 89 = .ok (.iadd, 1) := by decide +kernel
theorem dX5_join_90 : decode cX5_join 90 = .ok (.laload, 1) := by decide +kernel
theorem dX5_join_91 : decode cX5_join 91 = .ok (.aload_n 0, 1) := by decide +kernel
theorem dX5_join_92 : decode cX5_join 92 = .ok (.getfield 39, 3) := by decide +kernel
theorem dX5_join_95 : decode cX5_join 95 = .ok (.iload_n 1, 1) := by decide +kernel
theorem dX5_join_96 : decode cX5_join 96 = .ok (.laload, 1) := by decide +kernel
theorem dX5_join_97 : decode cX5_join 97 = .ok (.lcmp, 1) := by decide +kernel
theorem dX5_join_98 : decode cX5_join 98 = .ok (.ifCond .le 15, 3) := by decide +kernel
theorem dX5_join_101 : decode cX5_join 101 = .ok (.aload_n 0, 1) := by decide +kernel
theorem dX5_join_102 : decode cX5_join 102 = .ok (.getfield 39, 3) := by decide +kernel
theorem dX5_join_105 : decode cX5_join 105 = .ok (.bipush 6, 2) := by decide +kernel
theorem dX5_join_107 : decode cX5_join 107 = .ok (.iload_n 1, 1) := by decide +kernel
theorem dX5_join_108 : decode cX5_join 108 = .ok (.iadd, 1) := by decide +kernel
theorem dX5_join_109 : decode cX5_join 109 = .ok (.laload, 1) := by decide +kernel
theorem dX5_join_110 : decode cX5_join 110 = .ok (.goto 9, 3) := by decide +kernel
theorem dX5_join_113 : decode cX5_join 113 = .ok (.aload_n 0, 1) := by decide +kernel
theorem dX5_join_114 : decode cX5_join 114 = .ok (.getfield 39, 3) := by decide +kernel
theorem dX5_join_117 : decode cX5_join 117 = .ok (.iload_n 1, 1) := by decide +kernel
theorem dX5_join_118 : decode cX5_join 118 = .ok (.laload, 1) := by decide +kernel
theorem dX5_join_119 : decode cX5_join 119 = .ok (.lastore, 1) := by decide +kernel
theorem dX5_join_120 : decode cX5_join 120 = .ok (.aload_n 0, 1) := by decide +kernel
theorem dX5_join_121 : decode cX5_join 121 = .ok (.getfield 42, 3) := by decide +kernel
theorem dX5_join_124 : decode cX5_join 124 = .ok (.iload_n 1, 1) := by decide +kernel
theorem dX5_join_125 : decode cX5_join 125 = .ok (.dup2, 1) := by decide +kernel
theorem dX5_join_126 : decode cX5_join 126 = .ok (.laload, 1) := by decide +kernel
theorem dX5_join_127 : decode cX5_join 127 = .ok (.aload_n 0, 1) := by decide +kernel
theorem dX5_join_128 : decode cX5_join 128 = .ok (.getfield 42, 3) := by decide +kernel
theorem dX5_join_131 : decode cX5_join 131 = .ok (.bipush 6, 2) := by decide +kernel
theorem dX5_join_133 : decode cX5_join 133 = .ok (.iload_n 1, 1) := by decide +kernel
theorem dX5_join_134 : decode cX5_join 134 = .ok (.iadd, 1) := by decide +kernel
theorem dX5_join_135 : decode cX5_join 135 = .ok (.laload, 1) := by decide +kernel
theorem dX5_join_136 : decode cX5_join 136 = .ok (.lor, 1) := by decide +kernel
theorem dX5_join_137 : decode cX5_join 137 = .ok (.lastore, 1) := by decide +kernel
theorem dX5_join_138 : decode cX5_join 138 = .ok (.aload_n 0, 1) := by decide +kernel
theorem dX5_join_139 : decode cX5_join 139 = .ok (.getfield 45, 3) := by decide +kernel
theorem dX5_join_142 : decode cX5_join 142 = .ok (.iload_n 1, 1) := by decide +kernel
theorem dX5_join_143 : decode cX5_join 143 = .ok (.dup2, 1) := by decide +kernel
theorem dX5_join_144 : decode cX5_join 144 = .ok (.baload, 1) := by decide +kernel
theorem dX5_join_145 : decode cX5_join 145 = .ok (.aload_n 0, 1) := by decide +kernel
theorem dX5_join_146 : decode cX5_join 146 = .ok (.getfield 45, 3) := by decide +kernel
theorem dX5_join_149 : decode cX5_join 149 = .ok (.bipush 6, 2) := by decide +kernel
theorem dX5_join_151 : decode cX5_join 151 = .ok (.iload_n 1, 1) := by decide +kernel
theorem dX5_join_152 : decode cX5_join 152 = .ok (.iadd, 1) := by decide +kernel
theorem dX5_join_153 : decode cX5_join 153 = .ok (.baload, 1) := by decide +kernel
theorem dX5_join_154 : decode cX5_join 154 = .ok (.ior, 1) := by decide +kernel
theorem dX5_join_155 : decode cX5_join 155 = .ok (.bastore, 1) := by decide +kernel
theorem dX5_join_156 : decode cX5_join 156 = .ok (.iinc 1 1, 3) := by decide +kernel
theorem dX5_join_159 : decode cX5_join 159 = .ok (.goto (-131), 3) := by decide +kernel
theorem dX5_join_162 : decode cX5_join 162 = .ok (.iconst 0, 1) := by decide +kernel
theorem dX5_join_163 : decode cX5_join 163 = .ok (.istore_n 1, 1) := by decide +kernel
theorem dX5_join_164 : decode cX5_join 164 = .ok (.iload_n 1, 1) := by decide +kernel
theorem dX5_join_165 : decode cX5_join 165 = .ok (.bipush 40, 2) := by decide +kernel
theorem dX5_join_167 : decode cX5_join 167 = .ok (.if_icmp .ge 18, 3) := by decide +kernel
theorem dX5_join_170 : decode cX5_join 170 = .ok (.aload_n 0, 1) := by decide +kernel
theorem dX5_join_171 : decode cX5_join 171 = .ok (.bipush 40, 2) := by decide +kernel
theorem dX5_join_173 : decode cX5_join 173 = .ok (.iload_n 1, 1) := by decide +kernel
theorem dX5_join_174 : decode cX5_join 174 = .ok (.iadd, 1) := by decide +kernel
theorem dX5_join_175 : decode cX5_join 175 = .ok (.iload_n 1, 1) := by decide +kernel
theorem dX5_join_176 : decode cX5_join 176 = .ok (.invokevirtual 157, 3) := by decide +kernel
theorem dX5_join_179 : decode cX5_join 179 = .ok (.iinc 1 1, 3) := by decide +kernel
theorem dX5_join_182 : decode cX5_join 182 = .ok (.goto (-18), 3) := by decide +kernel
theorem dX5_join_185 : decode cX5_join 185 = .ok (.return_, 1) := by decide +kernel
theorem dX5_flow_0 : decode cX5_flow 0 = .ok (.aload_n 0, 1) := by decide +kernel
theorem dX5_flow_1 : decode cX5_flow 1 = .ok (.getfield 32, 3) := by decide +kernel
theorem dX5_flow_4 : decode cX5_flow 4 = .ok (.iconst 0, 1) := by decide +kernel
theorem dX5_flow_5 : decode cX5_flow 5 = .ok (.iconst 1, 1) := by decide +kernel
theorem dX5_flow_6 : decode cX5_flow 6 = .ok (.bastore, 1) := by decide +kernel
theorem dX5_flow_7 : decode cX5_flow 7 = .ok (.aload_n 0, 1) := by decide +kernel
theorem dX5_flow_8 : decode cX5_flow 8 = .ok (.getfield 32, 3) := by decide +kernel
theorem dX5_flow_11 : decode cX5_flow 11 = .ok (.iconst 1, 1) := by decide +kernel
theorem dX5_flow_12 : decode cX5_flow 12 = .ok (.iconst 0, 1) := by decide +kernel
theorem dX5_flow_13 : decode cX5_flow 13 = .ok (.bastore, 1) := by decide +kernel
theorem dX5_flow_14 : decode cX5_flow 14 = .ok (.iconst 0, 1) := by decide +kernel
theorem dX5_flow_15 : decode cX5_flow 15 = .ok (.istore_n 1, 1) := by decide +kernel
theorem dX5_flow_16 : decode cX5_flow 16 = .ok (.iload_n 1, 1) := by decide +kernel
theorem dX5_flow_17 : decode cX5_flow 17 = .ok (.bipush 6, 2) := by decide +kernel
theorem dX5_flow_19 : decode cX5_flow 19 = .ok (.if_icmp .ge 37, 3) := by decide +kernel
theorem dX5_flow_22 : decode cX5_flow 22 = .ok (.aload_n 0, 1) := by decide +kernel
theorem dX5_flow_23 : decode cX5_flow 23 = .ok (.getfield 35, 3) := by decide +kernel
theorem dX5_flow_26 : decode cX5_flow 26 = .ok (.iload_n 1, 1) := by decide +kernel
theorem dX5_flow_27 : decode cX5_flow 27 = .ok (.lconst 0, 1) := by decide +kernel
theorem dX5_flow_28 : decode cX5_flow 28 = .ok (.lastore, 1) := by decide +kernel
theorem dX5_flow_29 : decode cX5_flow 29 = .ok (.aload_n 0, 1) := by decide +kernel
theorem dX5_flow_30 : decode cX5_flow 30 = .ok (.getfield 39, 3) := by decide +kernel
theorem dX5_flow_33 : decode cX5_flow 33 = .ok (.iload_n 1, 1) := by decide +kernel
theorem dX5_flow_34 : decode cX5_flow 34 = .ok (.lconst 0, 1) := by decide +kernel
theorem dX5_flow_35 : decode cX5_flow 35 = .ok (.lastore, 1) := by decide +kernel
theorem dX5_flow_36 : decode cX5_flow 36 = .ok (.aload_n 0, 1) := by decide +kernel
theorem dX5_flow_37 : decode cX5_flow 37 = .ok (.getfield 42, 3) := by decide +kernel
theorem dX5_flow_40 : decode cX5_flow 40 = .ok (.iload_n 1, 1) := by decide +kernel
theorem dX5_flow_41 : decode cX5_flow 41 = .ok (.lconst 0, 1) := by decide +kernel
theorem dX5_flow_42 : decode cX5_flow 42 = .ok (.lastore, 1) := by decide +kernel
theorem dX5_flow_43 : decode cX5_flow 43 = .ok (.aload_n 0, 1) := by decide +kernel
theorem dX5_flow_44 : decode cX5_flow 44 = .ok (.getfield 45, 3) := by decide +kernel
theorem dX5_flow_47 : decode cX5_flow 47 = .ok (.iload_n 1, 1) := by decide +kernel
theorem dX5_flow_48 : decode cX5_flow 48 = .ok (.iconst 1, 1) := by decide +kernel
theorem dX5_flow_49 : decode cX5_flow 49 = .ok (.bastore, 1) := by decide +kernel
theorem dX5_flow_50 : decode cX5_flow 50 = .ok (.iinc 1 1, 3) := by decide +kernel
theorem dX5_flow_53 : decode cX5_flow 53 = .ok (.goto (-37), 3) := by decide +kernel
theorem dX5_flow_56 : decode cX5_flow 56 = .ok (.iconst 0, 1) := by decide +kernel
theorem dX5_flow_57 : decode cX5_flow 57 = .ok (.istore_n 1, 1) := by decide +kernel
theorem dX5_flow_58 : decode cX5_flow 58 = .ok (.iload_n 1, 1) := by decide +kernel
theorem dX5_flow_59 : decode cX5_flow 59 = .ok (.bipush 40, 2) := by decide +kernel
theorem dX5_flow_61 : decode cX5_flow 61 = .ok (.if_icmp .ge 30, 3) := by decide +kernel
theorem dX5_flow_64 : decode cX5_flow 64 = .ok (.aload_n 0, 1) := by decide +kernel
theorem dX5_flow_65 : decode cX5_flow 65 = .ok (.getfield 48, 3) := by decide +kernel
theorem dX5_flow_68 : decode cX5_flow 68 = .ok (.iload_n 1, 1) := by decide +kernel
theorem dX5_flow_69 : decode cX5_flow 69 = .ok (.iconst 0, 1) := by decide +kernel
theorem dX5_flow_70 : decode cX5_flow 70 = .ok (.bastore, 1) := by decide +kernel
theorem dX5_flow_71 : decode cX5_flow 71 = .ok (.aload_n 0, 1) := by decide +kernel
theorem dX5_flow_72 : decode cX5_flow 72 = .ok (.getfield 66, 3) := by decide +kernel
theorem dX5_flow_75 : decode cX5_flow 75 = .ok (.iload_n 1, 1) := by decide +kernel
theorem dX5_flow_76 : decode cX5_flow 76 = .ok (.iconst 0, 1) := by decide +kernel
theorem dX5_flow_77 : decode cX5_flow 77 = .ok (.bastore, 1) := by decide +kernel
theorem dX5_flow_78 : decode cX5_flow 78 = .ok (.aload_n 0, 1) := by decide +kernel
theorem dX5_flow_79 : decode cX5_flow 79 = .ok (.getfield 69, 3) := by decide +kernel
theorem dX5_flow_82 : decode cX5_flow 82 = .ok (.iload_n 1, 1) := by decide +kernel
theorem dX5_flow_83 : decode cX5_flow 83 = .ok (.iconst 0, 1) := by decide +kernel
theorem dX5_flow_84 : decode cX5_flow 84 = .ok (.iastore, 1) := by decide +kernel
theorem dX5_flow_85 : decode cX5_flow 85 = .ok (.iinc 1 1, 3) := by decide +kernel
theorem dX5_flow_88 : decode cX5_flow 88 = .ok (.goto (-30), 3) := by decide +kernel
theorem dX5_flow_91 : decode cX5_flow 91 = .ok (.iconst (-1), 1) := by decide +kernel
theorem dX5_flow_92 : decode cX5_flow 92 = .ok (.istore_n 1, 1) := by decide +kernel
theorem dX5_flow_93 : decode cX5_flow 93 = .ok (.iconst 0, 1) := by decide +kernel
theorem dX5_flow_94 : decode cX5_flow 94 = .ok (.istore_n 2, 1) := by decide +kernel
theorem dX5_flow_95 : decode cX5_flow 95 = .ok (.iload_n 2, 1) := by decide +kernel
theorem dX5_flow_96 : decode cX5_flow 96 = .ok (.aload_n 0, 1) := by decide +kernel
theorem dX5_flow_97 : decode cX5_flow 97 = .ok (.getfield 110, 3) := by decide +kernel
theorem dX5_flow_100 : decode cX5_flow 100 = .ok (.if_icmp .ge 129, 3) := by decide +kernel
theorem dX5_flow_103 : decode cX5_flow 103 = .ok (.iload_n 2, 1) := by decide +kernel
theorem dX5_flow_104 : decode cX5_flow 104 = .ok (.iload_n 1, 1) := by decide +kernel
theorem dX5_flow_105 : decode cX5_flow 105 = .ok (.if_icmp .ne 9, 3) := by decide +kernel
theorem dX5_flow_108 : decode cX5_flow 108 = .ok (.aload_n 0, 1) := by decide +kernel
theorem dX5_flow_109 : decode cX5_flow 109 = .ok (.invokevirtual 160, 3) := by decide +kernel
theorem dX5_flow_112 : decode cX5_flow 112 = .ok (.iconst (-1), 1) := by decide +kernel
theorem dX5_flow_113 : decode cX5_flow 113 = .ok (.istore_n 1, 1) := by decide +kernel
theorem dX5_flow_114 : decode cX5_flow 114 = .ok (.aload_n 0, 1) := by decide +kernel
theorem dX5_flow_115 : decode cX5_flow 115 = .ok (.getfield 28, 3) := by decide +kernel
theorem dX5_flow_118 : decode cX5_flow 118 = .ok (.iload_n 2, 1) := by decide +kernel
theorem dX5_flow_119 : decode cX5_flow 119 = .ok (.baload, 1) := by decide +kernel
theorem dX5_flow_120 : decode cX5_flow 120 = .ok (.ifCond .ne 103, 3) := by decide +kernel
theorem dX5_flow_123 : decode cX5_flow 123 = .ok (.aload_n 0, 1) := by decide +kernel
theorem dX5_flow_124 : decode cX5_flow 124 = .ok (.getfield 66, 3) := by decide +kernel
theorem dX5_flow_127 : decode cX5_flow 127 = .ok (.iload_n 2, 1) := by decide +kernel
theorem dX5_flow_128 : decode cX5_flow 128 = .ok (.aload_n 0, 1) := by decide +kernel
theorem dX5_flow_129 : decode cX5_flow 129 = .ok (.getfield 32, 3) := by decide +kernel
theorem dX5_flow_132 : decode cX5_flow 132 = .ok (.iconst 0, 1) := by decide +kernel
theorem dX5_flow_133 : decode cX5_flow 133 = .ok (.baload, 1) := by decide +kernel
theorem dX5_flow_134 : decode cX5_flow 134 = .ok (.bastore, 1) := by decide +kernel
theorem dX5_flow_135 : decode cX5_flow 135 = .ok (.aload_n 0, 1) := by decide +kernel
theorem dX5_flow_136 : decode cX5_flow 136 = .ok (.getfield 7, 3) := by decide +kernel
theorem dX5_flow_139 : decode cX5_flow 139 = .ok (.iload_n 2, 1) := by decide +kernel
theorem dX5_flow_140 : decode cX5_flow 140 = .ok (.iaload, 1) := by decide +kernel
theorem dX5_flow_141 : decode cX5_flow 141 = .ok (.bipush 14, 2) := by decide +kernel
theorem dX5_flow_143 : decode cX5_flow 143 = .ok (.if_icmp .ne 66, 3) := by decide +kernel
theorem dX5_flow_146 : decode cX5_flow 146 = .ok (.iload_n 1, 1) := by decide +kernel
theorem dX5_flow_147 : decode cX5_flow 147 = .ok (.ifCond .ge 76, 3) := by decide +kernel
theorem dX5_flow_150 : decode cX5_flow 150 = .ok (.aload_n 0, 1) := by decide +kernel
theorem dX5_flow_151 : decode cX5_flow 151 = .ok (.iconst 0, 1) := by decide +kernel
theorem dX5_flow_152 : decode cX5_flow 152 = .ok (.iconst 1, 1) := by decide +kernel
theorem dX5_flow_153 : decode cX5_flow 153 = .ok (.invokevirtual 154, 3) := by decide +kernel
theorem dX5_flow_156 : decode cX5_flow 156 = .ok (.iload_n 2, 1) := by decide +kernel
theorem dX5_flow_157 : decode cX5_flow 157 = .ok (.aload_n 0, 1) := by decide +kernel
theorem dX5_flow_158 : decode cX5_flow 158 = .ok (.getfield 16, 3) := by decide +kernel
theorem dX5_flow_161 : decode cX5_flow 161 = .ok (.iload_n 2, 1) := by decide +kernel
theorem dX5_flow_162 : decode cX5_flow 162 = .ok (.iaload, 1) := by decide +kernel
theorem dX5_flow_163 : decode cX5_flow 163 = .ok (.iadd, 1) := by decide +kernel
theorem dX5_flow_164 : decode cX5_flow 164 = .ok (.aload_n 0, 1) := by decide +kernel
theorem dX5_flow_165 : decode cX5_flow 165 = .ok (.getfield 110, 3) := by decide +kernel
theorem dX5_flow_168 : decode cX5_flow 168 = .ok (.if_icmp .ge 16, 3) := by decide +kernel
theorem dX5_flow_171 : decode cX5_flow 171 = .ok (.iload_n 2, 1) := by decide +kernel
theorem dX5_flow_172 : decode cX5_flow 172 = .ok (.aload_n 0, 1) := by decide +kernel
theorem dX5_flow_173 : decode cX5_flow 173 = .ok (.getfield 16, 3) := by decide +kernel
theorem dX5_flow_176 : decode cX5_flow 176 = .ok (.iload_n 2, 1) := by decide +kernel
theorem dX5_flow_177 : decode cX5_flow 177 = .ok (.iaload, 1) := by decide +kernel
theorem dX5_flow_178 : decode cX5_flow 178 = .ok (.iadd, 1) := by decide +kernel
theorem dX5_flow_179 : decode cX5_flow 179 = .ok (.iconst 1, 1) := by decide +kernel
theorem dX5_flow_180 : decode cX5_flow 180 = .ok (.iadd, 1) := by decide +kernel
theorem dX5_flow_181 : decode cX5_flow 181 = .ok (.goto 7, 3) := by decide +kernel
theorem dX5_flow_184 : decode cX5_flow 184 = .ok (.aload_n 0, 1) := by decide +kernel
theorem dX5_flow_185 : decode cX5_flow 185 = .ok (.getfield 110, 3) := by decide +kernel
theorem dX5_flow_188 : decode cX5_flow 188 = .ok (.istore_n 1, 1) := by decide +kernel
theorem dX5_flow_189 : decode cX5_flow 189 = .ok (.iload_n 1, 1) := by decide +kernel
theorem dX5_flow_190 : decode cX5_flow 190 = .ok (.aload_n 0, 1) := by decide +kernel
theorem dX5_flow_191 : decode cX5_flow 191 = .ok (.getfield 110, 3) := by decide +kernel
theorem dX5_flow_194 : decode cX5_flow 194 = .ok (.if_icmp .le 10, 3) := by decide +kernel
theorem dX5_flow_197 : decode cX5_flow 197 = .ok (.aload_n 0, 1) := by decide +kernel
theorem dX5_flow_198 : decode cX5_flow 198 = .ok (.getfield 110, 3) := by decide +kernel
theorem dX5_flow_201 : decode cX5_flow 201 = .ok (.goto 4, 3) := by decide +kernel
theorem dX5_flow_204 : decode cX5_flow 204 = .ok (.iload_n 1, 1) := by decide +kernel
theorem dX5_flow_205 : decode cX5_flow 205 = .ok (.istore_n 1, 1) := by decide +kernel
theorem dX5_flow_206 : decode cX5_flow 206 = .ok (.goto 17, 3) := by decide +kernel
theorem dX5_flow_209 : decode cX5_flow 209 = .ok (.aload_n 0, 1) := by decide +kernel
theorem dX5_flow_210 : decode cX5_flow 210 = .ok (.getfield 32, 3) := by decide +kernel
theorem dX5_flow_213 : decode cX5_flow 213 = .ok (.iconst 0, 1) := by decide +kernel
theorem dX5_flow_214 : decode cX5_flow 214 = .ok (.baload, 1) := by decide +kernel
theorem dX5_flow_215 : decode cX5_flow 215 = .ok (.ifCond .eq 8, 3) := by decide +kernel
theorem dX5_flow_218 : decode cX5_flow 218 = .ok (.aload_n 0, 1) := by decide +kernel
theorem dX5_flow_219 : decode cX5_flow 219 = .ok (.iload_n 2, 1) := by decide +kernel
theorem dX5_flow_220 : decode cX5_flow 220 = .ok (.invokevirtual 163, 3) := by decide +kernel
theorem dX5_flow_223 : decode cX5_flow 223 = .ok (.iinc 2 1, 3) := by decide +kernel
theorem dX5_flow_226 : decode cX5_flow 226 = .ok (.goto (-131), 3) := by decide +kernel
theorem dX5_flow_229 : decode cX5_flow 229 = .ok (.iload_n 1, 1) := by decide +kernel
theorem dX5_flow_230 : decode cX5_flow 230 = .ok (.ifCond .lt 7, 3) := by decide +kernel
theorem dX5_flow_233 : decode cX5_flow 233 = .ok (.aload_n 0, 1) := by decide +kernel
theorem dX5_flow_234 : decode cX5_flow 234 = .ok (.invokevirtual 160, 3) := by decide +kernel
theorem dX5_flow_237 : decode cX5_flow 237 = .ok (.return_, 1) := by decide +kernel
theorem dX5_mark_0 : decode cX5_mark 0 = .ok (.aload_n 0, 1) := by decide +kernel
theorem dX5_mark_1 : decode cX5_mark 1 = .ok (.getfield 69, 3) := by decide +kernel
theorem dX5_mark_4 : decode cX5_mark 4 = .ok (.iload_n 1, 1) := by decide +kernel
theorem dX5_mark_5 : decode cX5_mark 5 = .ok (.dup2, 1) := by decide +kernel
theorem dX5_mark_6 : decode cX5_mark 6 = .ok (.iaload, 1) := by decide +kernel
theorem dX5_mark_7 : decode cX5_mark 7 = .ok (.iload_n 3, 1) := by decide +kernel
theorem dX5_mark_8 : decode cX5_mark 8 = .ok (.ifCond .eq 9, 3) := by decide +kernel
theorem dX5_mark_11 : decode cX5_mark 11 = .ok (.iconst 1, 1) := by decide +kernel
theorem dX5_mark_12 : decode cX5_mark 12 = .ok (.iload_n 2, 1) := by decide +kernel
theorem dX5_mark_13 : decode cX5_mark 13 = .ok (.ishl, 1) := by decide +kernel
theorem dX5_mark_14 : decode cX5_mark 14 = .ok (.goto 4, 3) := by decide +kernel
theorem dX5_mark_17 : decode cX5_mark 17 = .ok (.iconst 0, 1) := by decide +kernel
theorem dX5_mark_18 : decode cX5_mark 18 = .ok (.ior, 1) := by decide +kernel
theorem dX5_mark_19 : decode cX5_mark 19 = .ok (.iastore, 1) := by decide +kernel
theorem dX5_mark_20 : decode cX5_mark 20 = .ok (.return_, 1) := by decide +kernel
theorem dX5_use_0 : decode cX5_use 0 = .ok (.aload_n 0, 1) := by decide +kernel
theorem dX5_use_1 : decode cX5_use 1 = .ok (.getfield 45, 3) := by decide +kernel
theorem dX5_use_4 : decode cX5_use 4 = .ok (.iload_n 1, 1) := by decide +kernel
theorem dX5_use_5 : decode cX5_use 5 = .ok (.iconst 0, 1) := by decide +kernel
theorem dX5_use_6 : decode cX5_use 6 = .ok (.bastore, 1) := by decide +kernel
theorem dX5_use_7 : decode cX5_use 7 = .ok (.aload_n 0, 1) := by decide +kernel
theorem dX5_use_8 : decode cX5_use 8 = .ok (.getfield 32, 3) := by decide +kernel
theorem dX5_use_11 : decode cX5_use 11 = .ok (.iconst 0, 1) := by decide +kernel
theorem dX5_use_12 : decode cX5_use 12 = .ok (.dup2, 1) := by decide +kernel
theorem dX5_use_13 : decode cX5_use 13 = .ok (.baload, 1) := by decide +kernel
theorem dX5_use_14 : decode cX5_use 14 = .ok (.aload_n 0, 1) := by decide +kernel
theorem dX5_use_15 : decode cX5_use 15 = .ok (.getfield 42, 3) := by decide +kernel
theorem dX5_use_18 : decode cX5_use 18 = .ok (.iload_n 1, 1) := by decide +kernel
theorem dX5_use_19 : decode cX5_use 19 = .ok (.laload, 1) := by decide +kernel
theorem dX5_use_20 : decode cX5_use 20 = .ok (.lconst 0, 1) := by decide +kernel
theorem dX5_use_21 : decode cX5_use 21 = .ok (.lcmp, 1) := by decide +kernel
theorem dX5_use_22 : decode cX5_use 22 = .ok (.ifCond .eq 7, 3) := by decide +kernel
theorem dX5_use_25 : decode cX5_use 25 = .ok (.iconst 1, 1) := by decide +kernel
theorem dX5_use_26 : decode cX5_use 26 = .ok (.goto 4, 3) := by decide +kernel
theorem dX5_use_29 : decode cX5_use 29 = .ok (.iconst 0, 1) := by decide +kernel
theorem dX5_use_30 : decode cX5_use 30 = .ok (.iand, 1) := by decide +kernel
theorem dX5_use_31 : decode cX5_use 31 = .ok (.bastore, 1) := by decide +kernel
theorem dX5_use_32 : decode cX5_use 32 = .ok (.return_, 1) := by decide +kernel
theorem dX5_narrow_0 : decode cX5_narrow 0 = .ok (.aload_n 0, 1) := by decide +kernel
theorem dX5_narrow_1 : decode cX5_narrow 1 = .ok (.getfield 35, 3) := by decide +kernel
theorem dX5_narrow_4 : decode cX5_narrow 4 = .ok (.iload_n 1, 1) := by decide +kernel
theorem dX5_narrow_5 : decode cX5_narrow 5 = .ok (.aload_n 0, 1) := by decide +kernel
theorem dX5_narrow_6 : decode cX5_narrow 6 = .ok (.getfield 35, 3) := by decide +kernel
theorem dX5_narrow_9 : decode cX5_narrow 9 = .ok (.iload_n 1, 1) := by decide +kernel
theorem dX5_narrow_10 : decode cX5_narrow 10 = .ok (.laload, 1) := by decide +kernel
theorem dX5_narrow_11 : decode cX5_narrow 11 = .ok (.lload_n 2, 1) := by decide +kernel
theorem dX5_narrow_12 : decode cX5_narrow 12 = .ok (.lcmp, 1) := by decide +kernel
theorem dX5_narrow_13 : decode cX5_narrow 13 = .ok (.ifCond .ge 7, 3) := by decide +kernel
theorem dX5_narrow_16 : decode cX5_narrow 16 = .ok (.lload_n 2, 1) := by decide +kernel
theorem dX5_narrow_17 : decode cX5_narrow 17 = .ok (.goto 9, 3) := by decide +kernel
theorem dX5_narrow_20 : decode cX5_narrow 20 = .ok (.aload_n 0, 1) := by decide +kernel
theorem dX5_narrow_21 : decode cX5_narrow 21 = .ok (.getfield 35, 3) := by decide +kernel
theorem dX5_narrow_24 : decode cX5_narrow 24 = .ok (.iload_n 1, 1) := by decide +kernel
theorem dX5_narrow_25 : decode cX5_narrow 25 = .ok (.laload, 1) := by decide +kernel
theorem dX5_narrow_26 : decode cX5_narrow 26 = .ok (.lastore, 1) := by decide +kernel
theorem dX5_narrow_27 : decode cX5_narrow 27 = .ok (.aload_n 0, 1) := by decide +kernel
theorem dX5_narrow_28 : decode cX5_narrow 28 = .ok (.getfield 39, 3) := by decide +kernel
theorem dX5_narrow_31 : decode cX5_narrow 31 = .ok (.iload_n 1, 1) := by decide +kernel
theorem dX5_narrow_32 : decode cX5_narrow 32 = .ok (.aload_n 0, 1) := by decide +kernel
theorem dX5_narrow_33 : decode cX5_narrow 33 = .ok (.getfield 39, 3) := by decide +kernel
theorem dX5_narrow_36 : decode cX5_narrow 36 = .ok (.iload_n 1, 1) := by decide +kernel
theorem dX5_narrow_37 : decode cX5_narrow 37 = .ok (.laload, 1) := by decide +kernel
theorem dX5_narrow_38 : decode cX5_narrow 38 = .ok (.lload 4, 2) := by decide +kernel
theorem dX5_narrow_40 : decode cX5_narrow 40 = .ok (.lcmp, 1) := by decide +kernel
theorem dX5_narrow_41 : decode cX5_narrow 41 = .ok (.ifCond .le 8, 3) := by decide +kernel
theorem dX5_narrow_44 : decode cX5_narrow 44 = .ok (.lload 4, 2) := by decide +kernel
theorem dX5_narrow_46 : decode cX5_narrow 46 = .ok (.goto 9, 3) := by decide +kernel
theorem dX5_narrow_49 : decode cX5_narrow 49 = .ok (.aload_n 0, 1) := by decide +kernel
theorem dX5_narrow_50 : decode cX5_narrow 50 = .ok (.getfield 39, 3) := by decide +kernel
theorem dX5_narrow_53 : decode cX5_narrow 53 = .ok (.iload_n 1, 1) := by decide +kernel
theorem dX5_narrow_54 : decode cX5_narrow 54 = .ok (.laload, 1) := by decide +kernel
theorem dX5_narrow_55 : decode cX5_narrow 55 = .ok (.lastore, 1) := by decide +kernel
theorem dX5_narrow_56 : decode cX5_narrow 56 = .ok (.aload_n 0, 1) := by decide +kernel
theorem dX5_narrow_57 : decode cX5_narrow 57 = .ok (.getfield 32, 3) := by decide +kernel
theorem dX5_narrow_60 : decode cX5_narrow 60 = .ok (.iconst 0, 1) := by decide +kernel
theorem dX5_narrow_61 : decode cX5_narrow 61 = .ok (.dup2, 1) := by decide +kernel
theorem dX5_narrow_62 : decode cX5_narrow 62 = .ok (.baload, 1) := by decide +kernel
theorem dX5_narrow_63 : decode cX5_narrow 63 = .ok (.aload_n 0, 1) := by decide +kernel
theorem dX5_narrow_64 : decode cX5_narrow 64 = .ok (.getfield 35, 3) := by decide +kernel
theorem dX5_narrow_67 : decode cX5_narrow 67 = .ok (.iload_n 1, 1) := by decide +kernel
theorem dX5_narrow_68 : decode cX5_narrow 68 = .ok (.laload, 1) := by decide +kernel
theorem dX5_narrow_69 : decode cX5_narrow 69 = .ok (.aload_n 0, 1) := by decide +kernel
theorem dX5_narrow_70 : decode cX5_narrow 70 = .ok (.getfield 39, 3) := by decide +kernel
theorem dX5_narrow_73 : decode cX5_narrow 73 = .ok (.iload_n 1, 1) := by decide +kernel
theorem dX5_narrow_74 : decode cX5_narrow 74 = .ok (.laload, 1) := by decide +kernel
theorem dX5_narrow_75 : decode cX5_narrow 75 = .ok (.lcmp, 1) := by decide +kernel
theorem dX5_narrow_76 : decode cX5_narrow 76 = .ok (.ifCond .gt 7, 3) := by decide +kernel
theorem dX5_narrow_79 : decode cX5_narrow 79 = .ok (.iconst 1, 1) := by decide +kernel
theorem dX5_narrow_80 : decode cX5_narrow 80 = .ok (.goto 4, 3) := by decide +kernel
theorem dX5_narrow_83 : decode cX5_narrow 83 = .ok (.iconst 0, 1) := by decide +kernel
theorem dX5_narrow_84 : decode cX5_narrow 84 = .ok (.iand, 1) := by decide +kernel
theorem dX5_narrow_85 : decode cX5_narrow 85 = .ok (.bastore, 1) := by decide +kernel
theorem dX5_narrow_86 : decode cX5_narrow 86 = .ok (.return_, 1) := by decide +kernel
theorem dX5_leastLength_0 : decode cX5_leastLength 0 = .ok (.ldc2_w 167, 3) := by decide +kernel
theorem dX5_leastLength_3 : decode cX5_leastLength 3 = .ok (.lstore_n 2, 1) := by decide +kernel
theorem dX5_leastLength_4 : decode cX5_leastLength 4 = .ok (.iconst 0, 1) := by decide +kernel
theorem dX5_leastLength_5 : decode cX5_leastLength 5 = .ok (.istore 4, 2) := by decide +kernel
theorem dX5_leastLength_7 : decode cX5_leastLength 7 = .ok (.iload 4, 2) := by decide +kernel
theorem dX5_leastLength_9 : decode cX5_leastLength 9 = .ok (.bipush 40, 2) := by decide +kernel
theorem dX5_leastLength_11 : decode cX5_leastLength 11 = .ok (.if_icmp .ge 43, 3) := by decide +kernel
theorem dX5_leastLength_14 : decode cX5_leastLength 14 = .ok (.aload_n 0, 1) := by decide +kernel
theorem dX5_leastLength_15 : decode cX5_leastLength 15 = .ok (.iload_n 1, 1) := by decide +kernel
theorem dX5_leastLength_16 : decode cX5_leastLength 16 = .ok (.iload 4, 2) := by decide +kernel
theorem dX5_leastLength_18 : decode cX5_leastLength 18 = .ok (.invokevirtual 169, 3) := by decide +kernel
theorem dX5_leastLength_21 : decode cX5_leastLength 21 = .ok (.ifCond .eq 25, 3) := by decide +kernel
theorem dX5_leastLength_24 : decode cX5_leastLength 24 = .ok (.aload_n 0, 1) := by decide +kernel
theorem dX5_leastLength_25 : decode cX5_leastLength 25 = .ok (.getfield 54, 3) := by decide +kernel
theorem dX5_leastLength_28 : decode cX5_leastLength 28 = .ok (.iload 4, 2) := by decide +kernel
theorem dX5_leastLength_30 : decode cX5_leastLength 30 = .ok (.laload, 1) := by decide +kernel
theorem dX5_leastLength_31 : decode cX5_leastLength 31 = .ok (.lload_n 2, 1) := by decide +kernel
theorem dX5_leastLength_32 : decode cX5_leastLength 32 = .ok (.lcmp, 1) := by decide +kernel
theorem dX5_leastLength_33 : decode cX5_leastLength 33 = .ok (.ifCond .ge 13, 3) := by decide +kernel
theorem dX5_leastLength_36 : decode cX5_leastLength 36 = .ok (.aload_n 0, 1) := by decide +kernel
theorem dX5_leastLength_37 : decode cX5_leastLength 37 = .ok (.getfield 54, 3) := by decide +kernel
theorem dX5_leastLength_40 : decode cX5_leastLength 40 = .ok (.iload 4, 2) := by decide +kernel
theorem dX5_leastLength_42 : decode cX5_leastLength 42 = .ok (.laload, 1) := by decide +kernel
theorem dX5_leastLength_43 : decode cX5_leastLength 43 = .ok (.goto 4, 3) := by decide +kernel
theorem dX5_leastLength_46 : decode cX5_leastLength 46 = .ok (.lload_n 2, 1) := by decide +kernel
theorem dX5_leastLength_47 : decode cX5_leastLength 47 = .ok (.lstore_n 2, 1) := by decide +kernel
theorem dX5_leastLength_48 : decode cX5_leastLength 48 = .ok (.iinc 4 1, 3) := by decide +kernel
theorem dX5_leastLength_51 : decode cX5_leastLength 51 = .ok (.goto (-44), 3) := by decide +kernel
theorem dX5_leastLength_54 : decode cX5_leastLength 54 = .ok (.lload_n 2, 1) := by decide +kernel
theorem dX5_leastLength_55 : decode cX5_leastLength 55 = .ok (.lreturn, 1) := by decide +kernel
theorem dX5_mostLength_0 : decode cX5_mostLength 0 = .ok (.lconst 0, 1) := by decide +kernel
theorem dX5_mostLength_1 : decode cX5_mostLength 1 = .ok (.lstore_n 2, 1) := by decide +kernel
theorem dX5_mostLength_2 : decode cX5_mostLength 2 = .ok (.iconst 0, 1) := by decide +kernel
theorem dX5_mostLength_3 : decode cX5_mostLength 3 = .ok (.istore 4, 2) := by decide +kernel
theorem dX5_mostLength_5 : decode cX5_mostLength 5 = .ok (.iload 4, 2) := by decide +kernel
theorem dX5_mostLength_7 : decode cX5_mostLength 7 = .ok (.bipush 40, 2) := by decide +kernel
theorem dX5_mostLength_9 : decode cX5_mostLength 9 = .ok (.if_icmp .ge 43, 3) := by decide +kernel
theorem dX5_mostLength_12 : decode cX5_mostLength 12 = .ok (.aload_n 0, 1) := by decide +kernel
theorem dX5_mostLength_13 : decode cX5_mostLength 13 = .ok (.iload_n 1, 1) := by decide +kernel
theorem dX5_mostLength_14 : decode cX5_mostLength 14 = .ok (.iload 4, 2) := by decide +kernel
theorem dX5_mostLength_16 : decode cX5_mostLength 16 = .ok (.invokevirtual 169, 3) := by decide +kernel
theorem dX5_mostLength_19 : decode cX5_mostLength 19 = .ok (.ifCond .eq 25, 3) := by decide +kernel
theorem dX5_mostLength_22 : decode cX5_mostLength 22 = .ok (.aload_n 0, 1) := by decide +kernel
theorem dX5_mostLength_23 : decode cX5_mostLength 23 = .ok (.getfield 57, 3) := by decide +kernel
theorem dX5_mostLength_26 : decode cX5_mostLength 26 = .ok (.iload 4, 2) := by decide +kernel
theorem dX5_mostLength_28 : decode cX5_mostLength 28 = .ok (.laload, 1) := by decide +kernel
theorem dX5_mostLength_29 : decode cX5_mostLength 29 = .ok (.lload_n 2, 1) := by decide +kernel
theorem dX5_mostLength_30 : decode cX5_mostLength 30 = .ok (.lcmp, 1) := by decide +kernel
theorem dX5_mostLength_31 : decode cX5_mostLength 31 = .ok (.ifCond .le 13, 3) := by decide +kernel
theorem dX5_mostLength_34 : decode cX5_mostLength 34 = .ok (.aload_n 0, 1) := by decide +kernel
theorem dX5_mostLength_35 : decode cX5_mostLength 35 = .ok (.getfield 57, 3) := by decide +kernel
theorem dX5_mostLength_38 : decode cX5_mostLength 38 = .ok (.iload 4, 2) := by decide +kernel
theorem dX5_mostLength_40 : decode cX5_mostLength 40 = .ok (.laload, 1) := by decide +kernel
theorem dX5_mostLength_41 : decode cX5_mostLength 41 = .ok (.goto 4, 3) := by decide +kernel
theorem dX5_mostLength_44 : decode cX5_mostLength 44 = .ok (.lload_n 2, 1) := by decide +kernel
theorem dX5_mostLength_45 : decode cX5_mostLength 45 = .ok (.lstore_n 2, 1) := by decide +kernel
theorem dX5_mostLength_46 : decode cX5_mostLength 46 = .ok (.iinc 4 1, 3) := by decide +kernel
theorem dX5_mostLength_49 : decode cX5_mostLength 49 = .ok (.goto (-44), 3) := by decide +kernel
theorem dX5_mostLength_52 : decode cX5_mostLength 52 = .ok (.lload_n 2, 1) := by decide +kernel
theorem dX5_mostLength_53 : decode cX5_mostLength 53 = .ok (.lreturn, 1) := by decide +kernel
theorem dX5_lanesOf_0 : decode cX5_lanesOf 0 = .ok (.iconst 0, 1) := by decide +kernel
theorem dX5_lanesOf_1 : decode cX5_lanesOf 1 = .ok (.istore_n 2, 1) := by decide +kernel
theorem dX5_lanesOf_2 : decode cX5_lanesOf 2 = .ok (.iconst 0, 1) := by decide +kernel
theorem dX5_lanesOf_3 : decode cX5_lanesOf 3 = .ok (.istore_n 3, 1) := by decide +kernel
theorem dX5_lanesOf_4 : decode cX5_lanesOf 4 = .ok (.iload_n 3, 1) := by decide +kernel
theorem dX5_lanesOf_5 : decode cX5_lanesOf 5 = .ok (.bipush 40, 2) := by decide +kernel
theorem dX5_lanesOf_7 : decode cX5_lanesOf 7 = .ok (.if_icmp .ge 31, 3) := by decide +kernel
theorem dX5_lanesOf_10 : decode cX5_lanesOf 10 = .ok (.iload_n 2, 1) := by decide +kernel
theorem dX5_lanesOf_11 : decode cX5_lanesOf 11 = .ok (.aload_n 0, 1) := by decide +kernel
theorem dX5_lanesOf_12 : decode cX5_lanesOf 12 = .ok (.iload_n 1, 1) := by decide +kernel
theorem dX5_lanesOf_13 : decode cX5_lanesOf 13 = .ok (.iload_n 3, 1) := by decide +kernel
theorem dX5_lanesOf_14 : decode cX5_lanesOf 14 = .ok (.invokevirtual 169, 3) := by decide +kernel
theorem dX5_lanesOf_17 : decode cX5_lanesOf 17 = .ok (.ifCond .eq 12, 3) := by decide +kernel
theorem dX5_lanesOf_20 : decode cX5_lanesOf 20 = .ok (.aload_n 0, 1) := by decide +kernel
theorem dX5_lanesOf_21 : decode cX5_lanesOf 21 = .ok (.getfield 51, 3) := by decide +kernel
theorem dX5_lanesOf_24 : decode cX5_lanesOf 24 = .ok (.iload_n 3, 1) := by decide +kernel
theorem dX5_lanesOf_25 : decode cX5_lanesOf 25 = .ok (.iaload, 1) := by decide +kernel
theorem dX5_lanesOf_26 : decode cX5_lanesOf 26 = .ok (.goto 4, 3) := by decide +kernel
theorem dX5_lanesOf_29 : decode cX5_lanesOf 29 = .ok (.iconst 0, 1) := by decide +kernel
theorem dX5_lanesOf_30 : decode cX5_lanesOf 30 = .ok (.ior, 1) := by decide +kernel
theorem dX5_lanesOf_31 : decode cX5_lanesOf 31 = .ok (.istore_n 2, 1) := by decide +kernel
theorem dX5_lanesOf_32 : decode cX5_lanesOf 32 = .ok (.iinc 3 1, 3) := by decide +kernel
theorem dX5_lanesOf_35 : decode cX5_lanesOf 35 = .ok (.goto (-31), 3) := by decide +kernel
theorem dX5_lanesOf_38 : decode cX5_lanesOf 38 = .ok (.iload_n 2, 1) := by decide +kernel
theorem dX5_lanesOf_39 : decode cX5_lanesOf 39 = .ok (.ireturn, 1) := by decide +kernel
theorem dX5_only_0 : decode cX5_only 0 = .ok (.iconst (-1), 1) := by decide +kernel
theorem dX5_only_1 : decode cX5_only 1 = .ok (.istore_n 2, 1) := by decide +kernel
theorem dX5_only_2 : decode cX5_only 2 = .ok (.iconst 0, 1) := by decide +kernel
theorem dX5_only_3 : decode cX5_only 3 = .ok (.istore_n 3, 1) := by decide +kernel
theorem dX5_only_4 : decode cX5_only 4 = .ok (.iconst 0, 1) := by decide +kernel
theorem dX5_only_5 : decode cX5_only 5 = .ok (.istore 4, 2) := by decide +kernel
theorem dX5_only_7 : decode cX5_only 7 = .ok (.iload 4, 2) := by decide +kernel
theorem dX5_only_9 : decode cX5_only 9 = .ok (.bipush 40, 2) := by decide +kernel
theorem dX5_only_11 : decode cX5_only 11 = .ok (.if_icmp .ge 25, 3) := by decide +kernel
theorem dX5_only_14 : decode cX5_only 14 = .ok (.aload_n 0, 1) := by decide +kernel
theorem dX5_only_15 : decode cX5_only 15 = .ok (.iload_n 1, 1) := by decide +kernel
theorem dX5_only_16 : decode cX5_only 16 = .ok (.iload 4, 2) := by decide +kernel
theorem dX5_only_18 : decode cX5_only 18 = .ok (.invokevirtual 169, 3) := by decide +kernel
theorem dX5_only_21 : decode cX5_only 21 = .ok (.ifCond .eq 9, 3) := by decide +kernel
theorem dX5_only_24 : decode cX5_only 24 = .ok (.iload 4, 2) := by decide +kernel
theorem dX5_only_26 : decode cX5_only 26 = .ok (.istore_n 2, 1) := by decide +kernel
theorem dX5_only_27 : decode cX5_only 27 = .ok (.iinc 3 1, 3) := by decide +kernel
theorem dX5_only_30 : decode cX5_only 30 = .ok (.iinc 4 1, 3) := by decide +kernel
theorem dX5_only_33 : decode cX5_only 33 = .ok (.goto (-26), 3) := by decide +kernel
theorem dX5_only_36 : decode cX5_only 36 = .ok (.iload_n 3, 1) := by decide +kernel
theorem dX5_only_37 : decode cX5_only 37 = .ok (.iconst 1, 1) := by decide +kernel
theorem dX5_only_38 : decode cX5_only 38 = .ok (.if_icmp .ne 7, 3) := by decide +kernel
theorem dX5_only_41 : decode cX5_only 41 = .ok (.iload_n 2, 1) := by decide +kernel
theorem dX5_only_42 : decode cX5_only 42 = .ok (.goto 4, 3) := by decide +kernel
theorem dX5_only_45 : decode cX5_only 45 = .ok (.iconst (-1), 1) := by decide +kernel
theorem dX5_only_46 : decode cX5_only 46 = .ok (.ireturn, 1) := by decide +kernel
theorem dX5_step_0 : decode cX5_step 0 = .ok (.aload_n 0, 1) := by decide +kernel
theorem dX5_step_1 : decode cX5_step 1 = .ok (.getfield 13, 3) := by decide +kernel
theorem dX5_step_4 : decode cX5_step 4 = .ok (.iload_n 1, 1) := by decide +kernel
theorem dX5_step_5 : decode cX5_step 5 = .ok (.iaload, 1) := by decide +kernel
theorem dX5_step_6 : decode cX5_step 6 = .ok (.istore_n 2, 1) := by decide +kernel
theorem dX5_step_7 : decode cX5_step 7 = .ok (.aload_n 0, 1) := by decide +kernel
theorem dX5_step_8 : decode cX5_step 8 = .ok (.getfield 16, 3) := by decide +kernel
theorem dX5_step_11 : decode cX5_step 11 = .ok (.iload_n 1, 1) := by decide +kernel
theorem dX5_step_12 : decode cX5_step 12 = .ok (.iaload, 1) := by decide +kernel
theorem dX5_step_13 : decode cX5_step 13 = .ok (.istore_n 3, 1) := by decide +kernel
theorem dX5_step_14 : decode cX5_step 14 = .ok (.aload_n 0, 1) := by decide +kernel
theorem dX5_step_15 : decode cX5_step 15 = .ok (.getfield 19, 3) := by decide +kernel
theorem dX5_step_18 : decode cX5_step 18 = .ok (.iload_n 1, 1) := by decide +kernel
theorem dX5_step_19 : decode cX5_step 19 = .ok (.iaload, 1) := by decide +kernel
theorem dX5_step_20 : decode cX5_step 20 = .ok (.istore 4, 2) := by decide +kernel
theorem dX5_step_22 : decode cX5_step 22 = .ok (.aload_n 0, 1) := by decide +kernel
theorem dX5_step_23 : decode cX5_step 23 = .ok (.getfield 7, 3) := by decide +kernel
theorem dX5_step_26 : decode cX5_step 26 = .ok (.iload_n 1, 1) := by decide +kernel
theorem dX5_step_27 : decode cX5_step 27 = .ok (.iaload, 1) := by decide +kernel
theorem dX5_step_28 : decode cX5_step 28 = .ok (.tableswitch 314 0 12 #[68, 80, 93, 129, 165, 173, 190, 217, 274, 282, 290, 298, 306], 68) := by decide +kernel
theorem dX5_step_96 : decode cX5_step 96 = .ok (.aload_n 0, 1) := by decide +kernel
theorem dX5_step_97 : decode cX5_step 97 = .ok (.iload_n 2, 1) := by decide +kernel
theorem dX5_step_98 : decode cX5_step 98 = .ok (.iload_n 3, 1) := by decide +kernel
theorem dX5_step_99 : decode cX5_step 99 = .ok (.i2l, 1) := by decide +kernel
theorem dX5_step_100 : decode cX5_step 100 = .ok (.iload_n 3, 1) := by decide +kernel
theorem dX5_step_101 : decode cX5_step 101 = .ok (.i2l, 1) := by decide +kernel
theorem dX5_step_102 : decode cX5_step 102 = .ok (.invokevirtual 173, 3) := by decide +kernel
theorem dX5_step_105 : decode cX5_step 105 = .ok (.goto 242, 3) := by decide +kernel
theorem dX5_step_108 : decode cX5_step 108 = .ok (.aload_n 0, 1) := by decide +kernel
theorem dX5_step_109 : decode cX5_step 109 = .ok (.iload_n 2, 1) := by decide +kernel
theorem dX5_step_110 : decode cX5_step 110 = .ok (.iload_n 3, 1) := by decide +kernel
theorem dX5_step_111 : decode cX5_step 111 = .ok (.i2l, 1) := by decide +kernel
theorem dX5_step_112 : decode cX5_step 112 = .ok (.iload 4, 2) := by decide +kernel
theorem dX5_step_114 : decode cX5_step 114 = .ok (.i2l, 1) := by decide +kernel
theorem dX5_step_115 : decode cX5_step 115 = .ok (.invokevirtual 173, 3) := by decide +kernel
theorem dX5_step_118 : decode cX5_step 118 = .ok (.goto 229, 3) := by decide +kernel
theorem dX5_step_121 : decode cX5_step 121 = .ok (.aload_n 0, 1) := by decide +kernel
theorem dX5_step_122 : decode cX5_step 122 = .ok (.iload_n 2, 1) := by decide +kernel
theorem dX5_step_123 : decode cX5_step 123 = .ok (.aload_n 0, 1) := by decide +kernel
theorem dX5_step_124 : decode cX5_step 124 = .ok (.getfield 35, 3) := by decide +kernel
theorem dX5_step_127 : decode cX5_step 127 = .ok (.iload_n 3, 1) := by decide +kernel
theorem dX5_step_128 : decode cX5_step 128 = .ok (.laload, 1) := by decide +kernel
theorem dX5_step_129 : decode cX5_step 129 = .ok (.aload_n 0, 1) := by decide +kernel
theorem dX5_step_130 : decode cX5_step 130 = .ok (.getfield 35, 3) := by decide +kernel
theorem dX5_step_133 : decode cX5_step 133 = .ok (.iload 4, 2) := by decide +kernel
theorem dX5_step_135 : decode cX5_step 135 = .ok (.laload, 1) := by decide +kernel
theorem dX5_step_136 : decode cX5_step 136 = .ok (.ladd, 1) := by decide +kernel
theorem dX5_step_137 : decode cX5_step 137 = .ok (.aload_n 0, 1) := by decide +kernel
theorem dX5_step_138 : decode cX5_step 138 = .ok (.getfield 39, 3) := by decide +kernel
theorem dX5_step_141 : decode cX5_step 141 = .ok (.iload_n 3, 1) := by decide +kernel
theorem dX5_step_142 : decode cX5_step 142 = .ok (.laload, 1) := by decide +kernel
theorem dX5_step_143 : decode cX5_step 143 = .ok (.aload_n 0, 1) := by decide +kernel
theorem dX5_step_144 : decode cX5_step 144 = .ok (.getfield 39, 3) := by decide +kernel
theorem dX5_step_147 : decode cX5_step 147 = .ok (.iload 4, 2) := by decide +kernel
theorem dX5_step_149 : decode cX5_step 149 = .ok (.laload, 1) := by decide +kernel
theorem dX5_step_150 : decode cX5_step 150 = .ok (.ladd, 1) := by decide +kernel
theorem dX5_step_151 : decode cX5_step 151 = .ok (.invokevirtual 173, 3) := by decide +kernel
theorem dX5_step_154 : decode cX5_step 154 = .ok (.goto 193, 3) := by decide +kernel
theorem dX5_step_157 : decode cX5_step 157 = .ok (.aload_n 0, 1) := by decide +kernel
theorem dX5_step_158 : decode cX5_step 158 = .ok (.iload_n 2, 1) := by decide +kernel
theorem dX5_step_159 : decode cX5_step 159 = .ok (.aload_n 0, 1) := by decide +kernel
theorem dX5_step_160 : decode cX5_step 160 = .ok (.getfield 35, 3) := by decide +kernel
theorem dX5_step_163 : decode cX5_step 163 = .ok (.iload_n 3, 1) := by decide +kernel
theorem dX5_step_164 : decode cX5_step 164 = .ok (.laload, 1) := by decide +kernel
theorem dX5_step_165 : decode cX5_step 165 = .ok (.aload_n 0, 1) := by decide +kernel
theorem dX5_step_166 : decode cX5_step 166 = .ok (.getfield 39, 3) := by decide +kernel
theorem dX5_step_169 : decode cX5_step 169 = .ok (.iload 4, 2) := by decide +kernel
theorem dX5_step_171 : decode cX5_step 171 = .ok (.laload, 1) := by decide +kernel
theorem dX5_step_172 : decode cX5_step 172 = .ok (.lsub, 1) := by decide +kernel
theorem dX5_step_173 : decode cX5_step 173 = .ok (.aload_n 0, 1) := by decide +kernel
theorem dX5_step_174 : decode cX5_step 174 = .ok (.getfield 39, 3) := by decide +kernel
theorem dX5_step_177 : decode cX5_step 177 = .ok (.iload_n 3, 1) := by decide +kernel
theorem dX5_step_178 : decode cX5_step 178 = .ok (.laload, 1) := by decide +kernel
theorem dX5_step_179 : decode cX5_step 179 = .ok (.aload_n 0, 1) := by decide +kernel
theorem dX5_step_180 : decode cX5_step 180 = .ok (.getfield 35, 3) := by decide +kernel
theorem dX5_step_183 : decode cX5_step 183 = .ok (.iload 4, 2) := by decide +kernel
theorem dX5_step_185 : decode cX5_step 185 = .ok (.laload, 1) := by decide +kernel
theorem dX5_step_186 : decode cX5_step 186 = .ok (.lsub, 1) := by decide +kernel
theorem dX5_step_187 : decode cX5_step 187 = .ok (.invokevirtual 173, 3) := by decide +kernel
theorem dX5_step_190 : decode cX5_step 190 = .ok (.goto 157, 3) := by decide +kernel
theorem dX5_step_193 : decode cX5_step 193 = .ok (.aload_n 0, 1) := by decide +kernel
theorem dX5_step_194 : decode cX5_step 194 = .ok (.iload_n 1, 1) := by decide +kernel
theorem dX5_step_195 : decode cX5_step 195 = .ok (.invokevirtual 177, 3) := by decide +kernel
theorem dX5_step_198 : decode cX5_step 198 = .ok (.goto 149, 3) := by decide +kernel
theorem dX5_step_201 : decode cX5_step 201 = .ok (.aload_n 0, 1) := by decide +kernel
theorem dX5_step_202 : decode cX5_step 202 = .ok (.getfield 42, 3) := by decide +kernel
theorem dX5_step_205 : decode cX5_step 205 = .ok (.iload_n 2, 1) := by decide +kernel
theorem dX5_step_206 : decode cX5_step 206 = .ok (.lconst 0, 1) := by decide +kernel
theorem dX5_step_207 : decode cX5_step 207 = .ok (.lastore, 1) := by decide +kernel
theorem dX5_step_208 : decode cX5_step 208 = .ok (.aload_n 0, 1) := by decide +kernel
theorem dX5_step_209 : decode cX5_step 209 = .ok (.getfield 45, 3) := by decide +kernel
theorem dX5_step_212 : decode cX5_step 212 = .ok (.iload_n 2, 1) := by decide +kernel
theorem dX5_step_213 : decode cX5_step 213 = .ok (.iconst 1, 1) := by decide +kernel
theorem dX5_step_214 : decode cX5_step 214 = .ok (.bastore, 1) := by decide +kernel
theorem dX5_step_215 : decode cX5_step 215 = .ok (.goto 132, 3) := by decide +kernel
theorem dX5_step_218 : decode cX5_step 218 = .ok (.aload_n 0, 1) := by decide +kernel
theorem dX5_step_219 : decode cX5_step 219 = .ok (.getfield 42, 3) := by decide +kernel
theorem dX5_step_222 : decode cX5_step 222 = .ok (.iload_n 2, 1) := by decide +kernel
theorem dX5_step_223 : decode cX5_step 223 = .ok (.aload_n 0, 1) := by decide +kernel
theorem dX5_step_224 : decode cX5_step 224 = .ok (.getfield 42, 3) := by decide +kernel
theorem dX5_step_227 : decode cX5_step 227 = .ok (.iload_n 3, 1) := by decide +kernel
theorem dX5_step_228 : decode cX5_step 228 = .ok (.laload, 1) := by decide +kernel
theorem dX5_step_229 : decode cX5_step 229 = .ok (.lastore, 1) := by decide +kernel
theorem dX5_step_230 : decode cX5_step 230 = .ok (.aload_n 0, 1) := by decide +kernel
theorem dX5_step_231 : decode cX5_step 231 = .ok (.getfield 45, 3) := by decide +kernel
theorem dX5_step_234 : decode cX5_step 234 = .ok (.iload_n 2, 1) := by decide +kernel
theorem dX5_step_235 : decode cX5_step 235 = .ok (.aload_n 0, 1) := by decide +kernel
theorem dX5_step_236 : decode cX5_step 236 = .ok (.getfield 45, 3) := by decide +kernel
theorem dX5_step_239 : decode cX5_step 239 = .ok (.iload_n 3, 1) := by decide +kernel
theorem dX5_step_240 : decode cX5_step 240 = .ok (.baload, 1) := by decide +kernel
theorem dX5_step_241 : decode cX5_step 241 = .ok (.bastore, 1) := by decide +kernel
theorem dX5_step_242 : decode cX5_step 242 = .ok (.goto 105, 3) := by decide +kernel
theorem dX5_step_245 : decode cX5_step 245 = .ok (.aload_n 0, 1) := by decide +kernel
theorem dX5_step_246 : decode cX5_step 246 = .ok (.getfield 42, 3) := by decide +kernel
theorem dX5_step_249 : decode cX5_step 249 = .ok (.iload_n 3, 1) := by decide +kernel
theorem dX5_step_250 : decode cX5_step 250 = .ok (.laload, 1) := by decide +kernel
theorem dX5_step_251 : decode cX5_step 251 = .ok (.aload_n 0, 1) := by decide +kernel
theorem dX5_step_252 : decode cX5_step 252 = .ok (.getfield 42, 3) := by decide +kernel
theorem dX5_step_255 : decode cX5_step 255 = .ok (.iload 4, 2) := by decide +kernel
theorem dX5_step_257 : decode cX5_step 257 = .ok (.laload, 1) := by decide +kernel
theorem dX5_step_258 : decode cX5_step 258 = .ok (.lor, 1) := by decide +kernel
theorem dX5_step_259 : decode cX5_step 259 = .ok (.lstore 5, 2) := by decide +kernel
theorem dX5_step_261 : decode cX5_step 261 = .ok (.aload_n 0, 1) := by decide +kernel
theorem dX5_step_262 : decode cX5_step 262 = .ok (.getfield 45, 3) := by decide +kernel
theorem dX5_step_265 : decode cX5_step 265 = .ok (.iload_n 2, 1) := by decide +kernel
theorem dX5_step_266 : decode cX5_step 266 = .ok (.aload_n 0, 1) := by decide +kernel
theorem dX5_step_267 : decode cX5_step 267 = .ok (.getfield 45, 3) := by decide +kernel
theorem dX5_step_270 : decode cX5_step 270 = .ok (.iload_n 3, 1) := by decide +kernel
theorem dX5_step_271 : decode cX5_step 271 = .ok (.baload, 1) := by decide +kernel
theorem dX5_step_272 : decode cX5_step 272 = .ok (.ifCond .ne 13, 3) := by decide +kernel
theorem dX5_step_275 : decode cX5_step 275 = .ok (.aload_n 0, 1) := by decide +kernel
theorem dX5_step_276 : decode cX5_step 276 = .ok (.getfield 45, 3) := by decide +kernel
theorem dX5_step_279 : decode cX5_step 279 = .ok (.iload 4, 2) := by decide +kernel
theorem dX5_step_281 : decode cX5_step 281 = .ok (.baload, 1) := by decide +kernel
theorem dX5_step_282 : decode cX5_step 282 = .ok (.ifCond .eq 7, 3) := by decide +kernel
theorem dX5_step_285 : decode cX5_step 285 = .ok (.iconst 1, 1) := by decide +kernel
theorem dX5_step_286 : decode cX5_step 286 = .ok (.goto 4, 3) := by decide +kernel
theorem dX5_step_289 : decode cX5_step 289 = .ok (.iconst 0, 1) := by decide +kernel
theorem dX5_step_290 : decode cX5_step 290 = .ok (.bastore, 1) := by decide +kernel
theorem dX5_step_291 : decode cX5_step 291 = .ok (.aload_n 0, 1) := by decide +kernel
theorem dX5_step_292 : decode cX5_step 292 = .ok (.getfield 42, 3) := by decide +kernel
theorem dX5_step_295 : decode cX5_step 295 = .ok (.iload_n 2, 1) := by decide +kernel
theorem dX5_step_296 : decode cX5_step 296 = .ok (.lload 5, 2) := by decide +kernel
theorem dX5_step_298 : decode cX5_step 298 = .ok (.lastore, 1) := by decide +kernel
theorem dX5_step_299 : decode cX5_step 299 = .ok (.goto 48, 3) := by decide +kernel
theorem dX5_step_302 : decode cX5_step 302 = .ok (.aload_n 0, 1) := by decide +kernel
theorem dX5_step_303 : decode cX5_step 303 = .ok (.iload_n 1, 1) := by decide +kernel
theorem dX5_step_304 : decode cX5_step 304 = .ok (.invokevirtual 180, 3) := by decide +kernel
theorem dX5_step_307 : decode cX5_step 307 = .ok (.goto 40, 3) := by decide +kernel
theorem dX5_step_310 : decode cX5_step 310 = .ok (.aload_n 0, 1) := by decide +kernel
theorem dX5_step_311 : decode cX5_step 311 = .ok (.iload_n 1, 1) := by decide +kernel
theorem dX5_step_312 : decode cX5_step 312 = .ok (.invokevirtual 183, 3) := by decide +kernel
theorem dX5_step_315 : decode cX5_step 315 = .ok (.goto 32, 3) := by decide +kernel
theorem dX5_step_318 : decode cX5_step 318 = .ok (.aload_n 0, 1) := by decide +kernel
theorem dX5_step_319 : decode cX5_step 319 = .ok (.iload_n 1, 1) := by decide +kernel
theorem dX5_step_320 : decode cX5_step 320 = .ok (.invokevirtual 186, 3) := by decide +kernel
theorem dX5_step_323 : decode cX5_step 323 = .ok (.goto 24, 3) := by decide +kernel
theorem dX5_step_326 : decode cX5_step 326 = .ok (.aload_n 0, 1) := by decide +kernel
theorem dX5_step_327 : decode cX5_step 327 = .ok (.iload_n 1, 1) := by decide +kernel
theorem dX5_step_328 : decode cX5_step 328 = .ok (.invokevirtual 189, 3) := by decide +kernel
theorem dX5_step_331 : decode cX5_step 331 = .ok (.goto 16, 3) := by decide +kernel
theorem dX5_step_334 : decode cX5_step 334 = .ok (.aload_n 0, 1) := by decide +kernel
theorem dX5_step_335 : decode cX5_step 335 = .ok (.iload_n 1, 1) := by decide +kernel
theorem dX5_step_336 : decode cX5_step 336 = .ok (.invokevirtual 192, 3) := by decide +kernel
theorem dX5_step_339 : decode cX5_step 339 = .ok (.goto 8, 3) := by decide +kernel
theorem dX5_step_342 : decode cX5_step 342 = .ok (.aload_n 0, 1) := by decide +kernel
theorem dX5_step_343 : decode cX5_step 343 = .ok (.iload_n 1, 1) := by decide +kernel
theorem dX5_step_344 : decode cX5_step 344 = .ok (.invokevirtual 195, 3) := by decide +kernel
theorem dX5_step_347 : decode cX5_step 347 = .ok (.return_, 1) := by decide +kernel
theorem dX5_mean_0 : decode cX5_mean 0 = .ok (.aload_n 0, 1) := by decide +kernel
theorem dX5_mean_1 : decode cX5_mean 1 = .ok (.getfield 42, 3) := by decide +kernel
theorem dX5_mean_4 : decode cX5_mean 4 = .ok (.iload_n 1, 1) := by decide +kernel
theorem dX5_mean_5 : decode cX5_mean 5 = .ok (.lconst 1, 1) := by decide +kernel
theorem dX5_mean_6 : decode cX5_mean 6 = .ok (.iload_n 2, 1) := by decide +kernel
theorem dX5_mean_7 : decode cX5_mean 7 = .ok (.lshl, 1) := by decide +kernel
theorem dX5_mean_8 : decode cX5_mean 8 = .ok (.lastore, 1) := by decide +kernel
theorem dX5_mean_9 : decode cX5_mean 9 = .ok (.aload_n 0, 1) := by decide +kernel
theorem dX5_mean_10 : decode cX5_mean 10 = .ok (.getfield 45, 3) := by decide +kernel
theorem dX5_mean_13 : decode cX5_mean 13 = .ok (.iload_n 1, 1) := by decide +kernel
theorem dX5_mean_14 : decode cX5_mean 14 = .ok (.iconst 0, 1) := by decide +kernel
theorem dX5_mean_15 : decode cX5_mean 15 = .ok (.bastore, 1) := by decide +kernel
theorem dX5_mean_16 : decode cX5_mean 16 = .ok (.return_, 1) := by decide +kernel
theorem dX5_made_0 : decode cX5_made 0 = .ok (.aload_n 0, 1) := by decide +kernel
theorem dX5_made_1 : decode cX5_made 1 = .ok (.getfield 19, 3) := by decide +kernel
theorem dX5_made_4 : decode cX5_made 4 = .ok (.iload_n 1, 1) := by decide +kernel
theorem dX5_made_5 : decode cX5_made 5 = .ok (.iaload, 1) := by decide +kernel
theorem dX5_made_6 : decode cX5_made 6 = .ok (.istore_n 2, 1) := by decide +kernel
theorem dX5_made_7 : decode cX5_made 7 = .ok (.aload_n 0, 1) := by decide +kernel
theorem dX5_made_8 : decode cX5_made 8 = .ok (.iload_n 1, 1) := by decide +kernel
theorem dX5_made_9 : decode cX5_made 9 = .ok (.iconst 3, 1) := by decide +kernel
theorem dX5_made_10 : decode cX5_made 10 = .ok (.aload_n 0, 1) := by decide +kernel
theorem dX5_made_11 : decode cX5_made 11 = .ok (.getfield 35, 3) := by decide +kernel
theorem dX5_made_14 : decode cX5_made 14 = .ok (.iload_n 2, 1) := by decide +kernel
theorem dX5_made_15 : decode cX5_made 15 = .ok (.laload, 1) := by decide +kernel
theorem dX5_made_16 : decode cX5_made 16 = .ok (.lconst 0, 1) := by decide +kernel
theorem dX5_made_17 : decode cX5_made 17 = .ok (.lcmp, 1) := by decide +kernel
theorem dX5_made_18 : decode cX5_made 18 = .ok (.ifCond .ge 7, 3) := by decide +kernel
