theorem dX5_isSorted_45 : decode cX5_isSorted 45 = .ok (.iconst 1, 1) := by decide +kernel
theorem dX5_isSorted_46 : decode cX5_isSorted 46 = .ok (.goto 4, 3) := by decide +kernel
theorem dX5_isSorted_49 : decode cX5_isSorted 49 = .ok (.iconst 0, 1) := by decide +kernel
theorem dX5_isSorted_50 : decode cX5_isSorted 50 = .ok (.iand, 1) := by decide +kernel
theorem dX5_isSorted_51 : decode cX5_isSorted 51 = .ok (.istore_n 2, 1) := by decide +kernel
theorem dX5_isSorted_52 : decode cX5_isSorted 52 = .ok (.iinc 3 1, 3) := by decide +kernel
theorem dX5_isSorted_55 : decode cX5_isSorted 55 = .ok (.goto (-51), 3) := by decide +kernel
theorem dX5_isSorted_58 : decode cX5_isSorted 58 = .ok (.iload_n 2, 1) := by decide +kernel
theorem dX5_isSorted_59 : decode cX5_isSorted 59 = .ok (.ireturn, 1) := by decide +kernel
theorem dX5_array_0 : decode cX5_array 0 = .ok (.iload_n 1, 1) := by decide +kernel
theorem dX5_array_1 : decode cX5_array 1 = .ok (.ifCond .lt 20, 3) := by decide +kernel
theorem dX5_array_4 : decode cX5_array 4 = .ok (.iload_n 1, 1) := by decide +kernel
theorem dX5_array_5 : decode cX5_array 5 = .ok (.aload_n 0, 1) := by decide +kernel
theorem dX5_array_6 : decode cX5_array 6 = .ok (.getfield 110, 3) := by decide +kernel
theorem dX5_array_9 : decode cX5_array 9 = .ok (.if_icmp .ge 12, 3) := by decide +kernel
theorem dX5_array_12 : decode cX5_array 12 = .ok (.iload_n 2, 1) := by decide +kernel
theorem dX5_array_13 : decode cX5_array 13 = .ok (.ifCond .lt 8, 3) := by decide +kernel
theorem dX5_array_16 : decode cX5_array 16 = .ok (.iload_n 2, 1) := by decide +kernel
theorem dX5_array_17 : decode cX5_array 17 = .ok (.iconst 4, 1) := by decide +kernel
theorem dX5_array_18 : decode cX5_array 18 = .ok (.if_icmp .le 6, 3) := by decide +kernel
theorem dX5_array_21 : decode cX5_array 21 = .ok (.bipush (-2), 2) := by decide +kernel
theorem dX5_array_23 : decode cX5_array 23 = .ok (.ireturn, 1) := by decide +kernel
theorem dX5_array_24 : decode cX5_array 24 = .ok (.aload_n 0, 1) := by decide +kernel
theorem dX5_array_25 : decode cX5_array 25 = .ok (.iload_n 1, 1) := by decide +kernel
theorem dX5_array_26 : decode cX5_array 26 = .ok (.invokevirtual 269, 3) := by decide +kernel
theorem dX5_array_29 : decode cX5_array 29 = .ok (.istore_n 3, 1) := by decide +kernel
theorem dX5_array_30 : decode cX5_array 30 = .ok (.iload_n 3, 1) := by decide +kernel
theorem dX5_array_31 : decode cX5_array 31 = .ok (.ifCond .eq 5, 3) := by decide +kernel
theorem dX5_array_34 : decode cX5_array 34 = .ok (.iload_n 3, 1) := by decide +kernel
theorem dX5_array_35 : decode cX5_array 35 = .ok (.ireturn, 1) := by decide +kernel
theorem dX5_array_36 : decode cX5_array 36 = .ok (.iload_n 2, 1) := by decide +kernel
theorem dX5_array_37 : decode cX5_array 37 = .ok (.ifCond .ne 12, 3) := by decide +kernel
theorem dX5_array_40 : decode cX5_array 40 = .ok (.aload_n 0, 1) := by decide +kernel
theorem dX5_array_41 : decode cX5_array 41 = .ok (.getfield 51, 3) := by decide +kernel
theorem dX5_array_44 : decode cX5_array 44 = .ok (.iload_n 1, 1) := by decide +kernel
theorem dX5_array_45 : decode cX5_array 45 = .ok (.iaload, 1) := by decide +kernel
theorem dX5_array_46 : decode cX5_array 46 = .ok (.goto 59, 3) := by decide +kernel
theorem dX5_array_49 : decode cX5_array 49 = .ok (.iload_n 2, 1) := by decide +kernel
theorem dX5_array_50 : decode cX5_array 50 = .ok (.iconst 1, 1) := by decide +kernel
theorem dX5_array_51 : decode cX5_array 51 = .ok (.if_icmp .ne 13, 3) := by decide +kernel
theorem dX5_array_54 : decode cX5_array 54 = .ok (.aload_n 0, 1) := by decide +kernel
theorem dX5_array_55 : decode cX5_array 55 = .ok (.getfield 54, 3) := by decide +kernel
theorem dX5_array_58 : decode cX5_array 58 = .ok (.iload_n 1, 1) := by decide +kernel
theorem dX5_array_59 : decode cX5_array 59 = .ok (.laload, 1) := by decide +kernel
theorem dX5_array_60 : decode cX5_array 60 = .ok (.l2i, 1) := by decide +kernel
theorem dX5_array_61 : decode cX5_array 61 = .ok (.goto 44, 3) := by decide +kernel
theorem dX5_array_64 : decode cX5_array 64 = .ok (.iload_n 2, 1) := by decide +kernel
theorem dX5_array_65 : decode cX5_array 65 = .ok (.iconst 2, 1) := by decide +kernel
theorem dX5_array_66 : decode cX5_array 66 = .ok (.if_icmp .ne 13, 3) := by decide +kernel
theorem dX5_array_69 : decode cX5_array 69 = .ok (.aload_n 0, 1) := by decide +kernel
theorem dX5_array_70 : decode cX5_array 70 = .ok (.getfield 57, 3) := by decide +kernel
theorem dX5_array_73 : decode cX5_array 73 = .ok (.iload_n 1, 1) := by decide +kernel
theorem dX5_array_74 : decode cX5_array 74 = .ok (.laload, 1) := by decide +kernel
theorem dX5_array_75 : decode cX5_array 75 = .ok (.l2i, 1) := by decide +kernel
theorem dX5_array_76 : decode cX5_array 76 = .ok (.goto 29, 3) := by decide +kernel
theorem dX5_array_79 : decode cX5_array 79 = .ok (.iload_n 2, 1) := by decide +kernel
theorem dX5_array_80 : decode cX5_array 80 = .ok (.iconst 3, 1) := by decide +kernel
theorem dX5_array_81 : decode cX5_array 81 = .ok (.if_icmp .ne 11, 3) := by decide +kernel
theorem dX5_array_84 : decode cX5_array 84 = .ok (.aload_n 0, 1) := by decide +kernel
theorem dX5_array_85 : decode cX5_array 85 = .ok (.iload_n 1, 1) := by decide +kernel
theorem dX5_array_86 : decode cX5_array 86 = .ok (.invokevirtual 272, 3) := by decide +kernel
theorem dX5_array_89 : decode cX5_array 89 = .ok (.goto 16, 3) := by decide +kernel
theorem dX5_array_92 : decode cX5_array 92 = .ok (.aload_n 0, 1) := by decide +kernel
theorem dX5_array_93 : decode cX5_array 93 = .ok (.iload_n 1, 1) := by decide +kernel
theorem dX5_array_94 : decode cX5_array 94 = .ok (.invokevirtual 275, 3) := by decide +kernel
theorem dX5_array_97 : decode cX5_array 97 = .ok (.ifCond .eq 7, 3) := by decide +kernel
theorem dX5_array_100 : decode cX5_array 100 = .ok (.iconst 1, 1) := by decide +kernel
theorem dX5_array_101 : decode cX5_array 101 = .ok (.goto 4, 3) := by decide +kernel
theorem dX5_array_104 : decode cX5_array 104 = .ok (.iconst 0, 1) := by decide +kernel
theorem dX5_array_105 : decode cX5_array 105 = .ok (.ireturn, 1) := by decide +kernel
theorem dX5_segment_0 : decode cX5_segment 0 = .ok (.iload_n 1, 1) := by decide +kernel
theorem dX5_segment_1 : decode cX5_segment 1 = .ok (.ifCond .lt 24, 3) := by decide +kernel
theorem dX5_segment_4 : decode cX5_segment 4 = .ok (.iload_n 1, 1) := by decide +kernel
theorem dX5_segment_5 : decode cX5_segment 5 = .ok (.aload_n 0, 1) := by decide +kernel
theorem dX5_segment_6 : decode cX5_segment 6 = .ok (.getfield 110, 3) := by decide +kernel
theorem dX5_segment_9 : decode cX5_segment 9 = .ok (.if_icmp .ge 16, 3) := by decide +kernel
theorem dX5_segment_12 : decode cX5_segment 12 = .ok (.iload_n 3, 1) := by decide +kernel
theorem dX5_segment_13 : decode cX5_segment 13 = .ok (.ifCond .lt 12, 3) := by decide +kernel
theorem dX5_segment_16 : decode cX5_segment 16 = .ok (.iload_n 3, 1) := by decide +kernel
theorem dX5_segment_17 : decode cX5_segment 17 = .ok (.iconst 3, 1) := by decide +kernel
theorem dX5_segment_18 : decode cX5_segment 18 = .ok (.if_icmp .gt 7, 3) := by decide +kernel
theorem dX5_segment_21 : decode cX5_segment 21 = .ok (.iload_n 2, 1) := by decide +kernel
theorem dX5_segment_22 : decode cX5_segment 22 = .ok (.ifCond .ge 10, 3) := by decide +kernel
theorem dX5_segment_25 : decode cX5_segment 25 = .ok (.aload_n 0, 1) := by decide +kernel
theorem dX5_segment_26 : decode cX5_segment 26 = .ok (.bipush (-2), 2) := by decide +kernel
theorem dX5_segment_28 : decode cX5_segment 28 = .ok (.invokevirtual 259, 3) := by decide +kernel
theorem dX5_segment_31 : decode cX5_segment 31 = .ok (.ireturn, 1) := by decide +kernel
theorem dX5_segment_32 : decode cX5_segment 32 = .ok (.aload_n 0, 1) := by decide +kernel
theorem dX5_segment_33 : decode cX5_segment 33 = .ok (.iload_n 1, 1) := by decide +kernel
theorem dX5_segment_34 : decode cX5_segment 34 = .ok (.invokevirtual 269, 3) := by decide +kernel
theorem dX5_segment_37 : decode cX5_segment 37 = .ok (.istore 4, 2) := by decide +kernel
theorem dX5_segment_39 : decode cX5_segment 39 = .ok (.iload 4, 2) := by decide +kernel
theorem dX5_segment_41 : decode cX5_segment 41 = .ok (.ifCond .eq 10, 3) := by decide +kernel
theorem dX5_segment_44 : decode cX5_segment 44 = .ok (.aload_n 0, 1) := by decide +kernel
theorem dX5_segment_45 : decode cX5_segment 45 = .ok (.iload 4, 2) := by decide +kernel
theorem dX5_segment_47 : decode cX5_segment 47 = .ok (.invokevirtual 259, 3) := by decide +kernel
theorem dX5_segment_50 : decode cX5_segment 50 = .ok (.ireturn, 1) := by decide +kernel
theorem dX5_segment_51 : decode cX5_segment 51 = .ok (.iload_n 2, 1) := by decide +kernel
theorem dX5_segment_52 : decode cX5_segment 52 = .ok (.aload_n 0, 1) := by decide +kernel
theorem dX5_segment_53 : decode cX5_segment 53 = .ok (.iload_n 1, 1) := by decide +kernel
theorem dX5_segment_54 : decode cX5_segment 54 = .ok (.invokevirtual 272, 3) := by decide +kernel
theorem dX5_segment_57 : decode cX5_segment 57 = .ok (.if_icmp .lt 10, 3) := by decide +kernel
theorem dX5_segment_60 : decode cX5_segment 60 = .ok (.aload_n 0, 1) := by decide +kernel
theorem dX5_segment_61 : decode cX5_segment 61 = .ok (.bipush (-2), 2) := by decide +kernel
theorem dX5_segment_63 : decode cX5_segment 63 = .ok (.invokevirtual 259, 3) := by decide +kernel
theorem dX5_segment_66 : decode cX5_segment 66 = .ok (.ireturn, 1) := by decide +kernel
theorem dX5_segment_67 : decode cX5_segment 67 = .ok (.iconst 0, 1) := by decide +kernel
theorem dX5_segment_68 : decode cX5_segment 68 = .ok (.istore 5, 2) := by decide +kernel
theorem dX5_segment_70 : decode cX5_segment 70 = .ok (.iconst 0, 1) := by decide +kernel
theorem dX5_segment_71 : decode cX5_segment 71 = .ok (.istore 6, 2) := by decide +kernel
theorem dX5_segment_73 : decode cX5_segment 73 = .ok (.iload 6, 2) := by decide +kernel
theorem dX5_segment_75 : decode cX5_segment 75 = .ok (.iload_n 2, 1) := by decide +kernel
theorem dX5_segment_76 : decode cX5_segment 76 = .ok (.if_icmp .ge 28, 3) := by decide +kernel
theorem dX5_segment_79 : decode cX5_segment 79 = .ok (.iinc 5 1, 3) := by decide +kernel
theorem dX5_segment_82 : decode cX5_segment 82 = .ok (.aload_n 0, 1) := by decide +kernel
theorem dX5_segment_83 : decode cX5_segment 83 = .ok (.iload_n 1, 1) := by decide +kernel
theorem dX5_segment_84 : decode cX5_segment 84 = .ok (.iload 5, 2) := by decide +kernel
theorem dX5_segment_86 : decode cX5_segment 86 = .ok (.invokevirtual 266, 3) := by decide +kernel
theorem dX5_segment_89 : decode cX5_segment 89 = .ok (.ifCond .eq 9, 3) := by decide +kernel
theorem dX5_segment_92 : decode cX5_segment 92 = .ok (.iinc 5 1, 3) := by decide +kernel
theorem dX5_segment_95 : decode cX5_segment 95 = .ok (.goto (-13), 3) := by decide +kernel
theorem dX5_segment_98 : decode cX5_segment 98 = .ok (.iinc 6 1, 3) := by decide +kernel
theorem dX5_segment_101 : decode cX5_segment 101 = .ok (.goto (-28), 3) := by decide +kernel
theorem dX5_segment_104 : decode cX5_segment 104 = .ok (.iload 5, 2) := by decide +kernel
theorem dX5_segment_106 : decode cX5_segment 106 = .ok (.iconst 1, 1) := by decide +kernel
theorem dX5_segment_107 : decode cX5_segment 107 = .ok (.iadd, 1) := by decide +kernel
theorem dX5_segment_108 : decode cX5_segment 108 = .ok (.istore 6, 2) := by decide +kernel
theorem dX5_segment_110 : decode cX5_segment 110 = .ok (.iload 6, 2) := by decide +kernel
theorem dX5_segment_112 : decode cX5_segment 112 = .ok (.i2l, 1) := by decide +kernel
theorem dX5_segment_113 : decode cX5_segment 113 = .ok (.aload_n 0, 1) := by decide +kernel
theorem dX5_segment_114 : decode cX5_segment 114 = .ok (.getfield 57, 3) := by decide +kernel
theorem dX5_segment_117 : decode cX5_segment 117 = .ok (.iload_n 1, 1) := by decide +kernel
theorem dX5_segment_118 : decode cX5_segment 118 = .ok (.laload, 1) := by decide +kernel
theorem dX5_segment_119 : decode cX5_segment 119 = .ok (.lcmp, 1) := by decide +kernel
theorem dX5_segment_120 : decode cX5_segment 120 = .ok (.ifCond .ge 19, 3) := by decide +kernel
theorem dX5_segment_123 : decode cX5_segment 123 = .ok (.aload_n 0, 1) := by decide +kernel
theorem dX5_segment_124 : decode cX5_segment 124 = .ok (.iload_n 1, 1) := by decide +kernel
theorem dX5_segment_125 : decode cX5_segment 125 = .ok (.iload 6, 2) := by decide +kernel
theorem dX5_segment_127 : decode cX5_segment 127 = .ok (.invokevirtual 266, 3) := by decide +kernel
theorem dX5_segment_130 : decode cX5_segment 130 = .ok (.ifCond .eq 9, 3) := by decide +kernel
theorem dX5_segment_133 : decode cX5_segment 133 = .ok (.iinc 6 1, 3) := by decide +kernel
theorem dX5_segment_136 : decode cX5_segment 136 = .ok (.goto (-26), 3) := by decide +kernel
theorem dX5_segment_139 : decode cX5_segment 139 = .ok (.aload_n 0, 1) := by decide +kernel
theorem dX5_segment_140 : decode cX5_segment 140 = .ok (.iload_n 3, 1) := by decide +kernel
theorem dX5_segment_141 : decode cX5_segment 141 = .ok (.ifCond .ne 9, 3) := by decide +kernel
theorem dX5_segment_144 : decode cX5_segment 144 = .ok (.iload 5, 2) := by decide +kernel
theorem dX5_segment_146 : decode cX5_segment 146 = .ok (.i2l, 1) := by decide +kernel
theorem dX5_segment_147 : decode cX5_segment 147 = .ok (.goto 46, 3) := by decide +kernel
theorem dX5_segment_150 : decode cX5_segment 150 = .ok (.iload_n 3, 1) := by decide +kernel
theorem dX5_segment_151 : decode cX5_segment 151 = .ok (.iconst 1, 1) := by decide +kernel
theorem dX5_segment_152 : decode cX5_segment 152 = .ok (.if_icmp .ne 9, 3) := by decide +kernel
theorem dX5_segment_155 : decode cX5_segment 155 = .ok (.iload 6, 2) := by decide +kernel
theorem dX5_segment_157 : decode cX5_segment 157 = .ok (.i2l, 1) := by decide +kernel
theorem dX5_segment_158 : decode cX5_segment 158 = .ok (.goto 35, 3) := by decide +kernel
theorem dX5_segment_161 : decode cX5_segment 161 = .ok (.iload_n 3, 1) := by decide +kernel
theorem dX5_segment_162 : decode cX5_segment 162 = .ok (.iconst 2, 1) := by decide +kernel
theorem dX5_segment_163 : decode cX5_segment 163 = .ok (.if_icmp .ne 18, 3) := by decide +kernel
theorem dX5_segment_166 : decode cX5_segment 166 = .ok (.aload_n 0, 1) := by decide +kernel
theorem dX5_segment_167 : decode cX5_segment 167 = .ok (.getfield 60, 3) := by decide +kernel
theorem dX5_segment_170 : decode cX5_segment 170 = .ok (.bipush 12, 2) := by decide +kernel
theorem dX5_segment_172 : decode cX5_segment 172 = .ok (.iload_n 1, 1) := by decide +kernel
theorem dX5_segment_173 : decode cX5_segment 173 = .ok (.imul, 1) := by decide +kernel
theorem dX5_segment_174 : decode cX5_segment 174 = .ok (.iload 5, 2) := by decide +kernel
theorem dX5_segment_176 : decode cX5_segment 176 = .ok (.iadd, 1) := by decide +kernel
theorem dX5_segment_177 : decode cX5_segment 177 = .ok (.laload, 1) := by decide +kernel
theorem dX5_segment_178 : decode cX5_segment 178 = .ok (.goto 15, 3) := by decide +kernel
theorem dX5_segment_181 : decode cX5_segment 181 = .ok (.aload_n 0, 1) := by decide +kernel
theorem dX5_segment_182 : decode cX5_segment 182 = .ok (.getfield 63, 3) := by decide +kernel
theorem dX5_segment_185 : decode cX5_segment 185 = .ok (.bipush 12, 2) := by decide +kernel
theorem dX5_segment_187 : decode cX5_segment 187 = .ok (.iload_n 1, 1) := by decide +kernel
theorem dX5_segment_188 : decode cX5_segment 188 = .ok (.imul, 1) := by decide +kernel
theorem dX5_segment_189 : decode cX5_segment 189 = .ok (.iload 5, 2) := by decide +kernel
theorem dX5_segment_191 : decode cX5_segment 191 = .ok (.iadd, 1) := by decide +kernel
theorem dX5_segment_192 : decode cX5_segment 192 = .ok (.laload, 1) := by decide +kernel
theorem dX5_segment_193 : decode cX5_segment 193 = .ok (.invokevirtual 262, 3) := by decide +kernel
theorem dX5_segment_196 : decode cX5_segment 196 = .ok (.ireturn, 1) := by decide +kernel
theorem dX5_status_0 : decode cX5_status 0 = .ok (.aload_n 0, 1) := by decide +kernel
theorem dX5_status_1 : decode cX5_status 1 = .ok (.getfield 256, 3) := by decide +kernel
theorem dX5_status_4 : decode cX5_status 4 = .ok (.ireturn, 1) := by decide +kernel
theorem dX5_draw_0 : decode cX5_draw 0 = .ok (.aload_n 0, 1) := by decide +kernel
theorem dX5_draw_1 : decode cX5_draw 1 = .ok (.dup, 1) := by decide +kernel
theorem dX5_draw_2 : decode cX5_draw 2 = .ok (.getfield 278, 3) := by decide +kernel
theorem dX5_draw_5 : decode cX5_draw 5 = .ok (.ldc2_w 281, 3) := by decide +kernel
theorem dX5_draw_8 : decode cX5_draw 8 = .ok (.ladd, 1) := by decide +kernel
theorem dX5_draw_9 : decode cX5_draw 9 = .ok (.putfield 278, 3) := by decide +kernel
theorem dX5_draw_12 : decode cX5_draw 12 = .ok (.aload_n 0, 1) := by decide +kernel
theorem dX5_draw_13 : decode cX5_draw 13 = .ok (.getfield 278, 3) := by decide +kernel
theorem dX5_draw_16 : decode cX5_draw 16 = .ok (.lstore_n 1, 1) := by decide +kernel
theorem dX5_draw_17 : decode cX5_draw 17 = .ok (.lload_n 1, 1) := by decide +kernel
theorem dX5_draw_18 : decode cX5_draw 18 = .ok (.lload_n 1, 1) := by decide +kernel
theorem dX5_draw_19 : decode cX5_draw 19 = .ok (.bipush 30, 2) := by decide +kernel
theorem dX5_draw_21 : decode cX5_draw 21 = .ok (.lushr, 1) := by decide +kernel
theorem dX5_draw_22 : decode cX5_draw 22 = .ok (.lxor, 1) := by decide +kernel
theorem dX5_draw_23 : decode cX5_draw 23 = .ok (.ldc2_w 283, 3) := by decide +kernel
theorem dX5_draw_26 : decode cX5_draw 26 = .ok (.lmul, 1) := by decide +kernel
theorem dX5_draw_27 : decode cX5_draw 27 = .ok (.lstore_n 1, 1) := by decide +kernel
theorem dX5_draw_28 : decode cX5_draw 28 = .ok (.lload_n 1, 1) := by decide +kernel
theorem dX5_draw_29 : decode cX5_draw 29 = .ok (.lload_n 1, 1) := by decide +kernel
theorem dX5_draw_30 : decode cX5_draw 30 = .ok (.bipush 27, 2) := by decide +kernel
theorem dX5_draw_32 : decode cX5_draw 32 = .ok (.lushr, 1) := by decide +kernel
theorem dX5_draw_33 : decode cX5_draw 33 = .ok (.lxor, 1) := by decide +kernel
theorem dX5_draw_34 : decode cX5_draw 34 = .ok (.ldc2_w 285, 3) := by decide +kernel
theorem dX5_draw_37 : decode cX5_draw 37 = .ok (.lmul, 1) := by decide +kernel
theorem dX5_draw_38 : decode cX5_draw 38 = .ok (.lstore_n 1, 1) := by decide +kernel
theorem dX5_draw_39 : decode cX5_draw 39 = .ok (.lload_n 1, 1) := by decide +kernel
theorem dX5_draw_40 : decode cX5_draw 40 = .ok (.lload_n 1, 1) := by decide +kernel
theorem dX5_draw_41 : decode cX5_draw 41 = .ok (.bipush 31, 2) := by decide +kernel
theorem dX5_draw_43 : decode cX5_draw 43 = .ok (.lushr, 1) := by decide +kernel
theorem dX5_draw_44 : decode cX5_draw 44 = .ok (.lxor, 1) := by decide +kernel
theorem dX5_draw_45 : decode cX5_draw 45 = .ok (.lreturn, 1) := by decide +kernel
theorem dX5_cast_0 : decode cX5_cast 0 = .ok (.iload_n 1, 1) := by decide +kernel
theorem dX5_cast_1 : decode cX5_cast 1 = .ok (.ifCond .ne 8, 3) := by decide +kernel
theorem dX5_cast_4 : decode cX5_cast 4 = .ok (.iload_n 0, 1) := by decide +kernel
theorem dX5_cast_5 : decode cX5_cast 5 = .ok (.i2b, 1) := by decide +kernel
theorem dX5_cast_6 : decode cX5_cast 6 = .ok (.goto 17, 3) := by decide +kernel
theorem dX5_cast_9 : decode cX5_cast 9 = .ok (.iload_n 1, 1) := by decide +kernel
theorem dX5_cast_10 : decode cX5_cast 10 = .ok (.iconst 1, 1) := by decide +kernel
theorem dX5_cast_11 : decode cX5_cast 11 = .ok (.if_icmp .ne 11, 3) := by decide +kernel
theorem dX5_cast_14 : decode cX5_cast 14 = .ok (.iload_n 0, 1) := by decide +kernel
theorem dX5_cast_15 : decode cX5_cast 15 = .ok (.ldc_w 287, 3) := by decide +kernel
theorem dX5_cast_18 : decode cX5_cast 18 = .ok (.iand, 1) := by decide +kernel
theorem dX5_cast_19 : decode cX5_cast 19 = .ok (.goto 4, 3) := by decide +kernel
theorem dX5_cast_22 : decode cX5_cast 22 = .ok (.iload_n 0, 1) := by decide +kernel
theorem dX5_cast_23 : decode cX5_cast 23 = .ok (.ireturn, 1) := by decide +kernel
theorem dX5_fail_0 : decode cX5_fail 0 = .ok (.aload_n 0, 1) := by decide +kernel
theorem dX5_fail_1 : decode cX5_fail 1 = .ok (.iload_n 2, 1) := by decide +kernel
theorem dX5_fail_2 : decode cX5_fail 2 = .ok (.putfield 103, 3) := by decide +kernel
theorem dX5_fail_5 : decode cX5_fail 5 = .ok (.aload_n 0, 1) := by decide +kernel
theorem dX5_fail_6 : decode cX5_fail 6 = .ok (.iload_n 1, 1) := by decide +kernel
theorem dX5_fail_7 : decode cX5_fail 7 = .ok (.putfield 107, 3) := by decide +kernel
theorem dX5_fail_10 : decode cX5_fail 10 = .ok (.return_, 1) := by decide +kernel
theorem dX5_isPlace_0 : decode cX5_isPlace 0 = .ok (.aload_n 0, 1) := by decide +kernel
theorem dX5_isPlace_1 : decode cX5_isPlace 1 = .ok (.getfield 75, 3) := by decide +kernel
theorem dX5_isPlace_4 : decode cX5_isPlace 4 = .ok (.iload_n 2, 1) := by decide +kernel
theorem dX5_isPlace_5 : decode cX5_isPlace 5 = .ok (.iaload, 1) := by decide +kernel
theorem dX5_isPlace_6 : decode cX5_isPlace 6 = .ok (.istore 5, 2) := by decide +kernel
theorem dX5_isPlace_8 : decode cX5_isPlace 8 = .ok (.iload 5, 2) := by decide +kernel
theorem dX5_isPlace_10 : decode cX5_isPlace 10 = .ok (.ifCond .ge 7, 3) := by decide +kernel
theorem dX5_isPlace_13 : decode cX5_isPlace 13 = .ok (.iconst 1, 1) := by decide +kernel
theorem dX5_isPlace_14 : decode cX5_isPlace 14 = .ok (.goto 40, 3) := by decide +kernel
theorem dX5_isPlace_17 : decode cX5_isPlace 17 = .ok (.aload_n 0, 1) := by decide +kernel
theorem dX5_isPlace_18 : decode cX5_isPlace 18 = .ok (.getfield 78, 3) := by decide +kernel
theorem dX5_isPlace_21 : decode cX5_isPlace 21 = .ok (.iload 5, 2) := by decide +kernel
theorem dX5_isPlace_23 : decode cX5_isPlace 23 = .ok (.iaload, 1) := by decide +kernel
theorem dX5_isPlace_24 : decode cX5_isPlace 24 = .ok (.iload_n 3, 1) := by decide +kernel
theorem dX5_isPlace_25 : decode cX5_isPlace 25 = .ok (.if_icmp .eq 7, 3) := by decide +kernel
theorem dX5_isPlace_28 : decode cX5_isPlace 28 = .ok (.iconst 2, 1) := by decide +kernel
theorem dX5_isPlace_29 : decode cX5_isPlace 29 = .ok (.goto 25, 3) := by decide +kernel
theorem dX5_isPlace_32 : decode cX5_isPlace 32 = .ok (.iload 4, 2) := by decide +kernel
theorem dX5_isPlace_34 : decode cX5_isPlace 34 = .ok (.ifCond .lt 15, 3) := by decide +kernel
theorem dX5_isPlace_37 : decode cX5_isPlace 37 = .ok (.iload 4, 2) := by decide +kernel
theorem dX5_isPlace_39 : decode cX5_isPlace 39 = .ok (.aload_n 0, 1) := by decide +kernel
theorem dX5_isPlace_40 : decode cX5_isPlace 40 = .ok (.getfield 81, 3) := by decide +kernel
theorem dX5_isPlace_43 : decode cX5_isPlace 43 = .ok (.iload 5, 2) := by decide +kernel
theorem dX5_isPlace_45 : decode cX5_isPlace 45 = .ok (.iaload, 1) := by decide +kernel
theorem dX5_isPlace_46 : decode cX5_isPlace 46 = .ok (.if_icmp .lt 7, 3) := by decide +kernel
theorem dX5_isPlace_49 : decode cX5_isPlace 49 = .ok (.iconst 5, 1) := by decide +kernel
theorem dX5_isPlace_50 : decode cX5_isPlace 50 = .ok (.goto 4, 3) := by decide +kernel
theorem dX5_isPlace_53 : decode cX5_isPlace 53 = .ok (.iconst 0, 1) := by decide +kernel
theorem dX5_isPlace_54 : decode cX5_isPlace 54 = .ok (.istore 6, 2) := by decide +kernel
theorem dX5_isPlace_56 : decode cX5_isPlace 56 = .ok (.iload 6, 2) := by decide +kernel
theorem dX5_isPlace_58 : decode cX5_isPlace 58 = .ok (.ifCond .le 10, 3) := by decide +kernel
theorem dX5_isPlace_61 : decode cX5_isPlace 61 = .ok (.aload_n 0, 1) := by decide +kernel
theorem dX5_isPlace_62 : decode cX5_isPlace 62 = .ok (.iload_n 1, 1) := by decide +kernel
theorem dX5_isPlace_63 : decode cX5_isPlace 63 = .ok (.iload 6, 2) := by decide +kernel
theorem dX5_isPlace_65 : decode cX5_isPlace 65 = .ok (.invokevirtual 288, 3) := by decide +kernel
theorem dX5_isPlace_68 : decode cX5_isPlace 68 = .ok (.iload 6, 2) := by decide +kernel
theorem dX5_isPlace_70 : decode cX5_isPlace 70 = .ok (.ifCond .ne 7, 3) := by decide +kernel
theorem dX5_isPlace_73 : decode cX5_isPlace 73 = .ok (.iconst 1, 1) := by decide +kernel
theorem dX5_isPlace_74 : decode cX5_isPlace 74 = .ok (.goto 4, 3) := by decide +kernel
theorem dX5_isPlace_77 : decode cX5_isPlace 77 = .ok (.iconst 0, 1) := by decide +kernel
theorem dX5_isPlace_78 : decode cX5_isPlace 78 = .ok (.ireturn, 1) := by decide +kernel
theorem dX5_newArray_0 : decode cX5_newArray 0 = .ok (.aload_n 0, 1) := by decide +kernel
theorem dX5_newArray_1 : decode cX5_newArray 1 = .ok (.getfield 78, 3) := by decide +kernel
theorem dX5_newArray_4 : decode cX5_newArray 4 = .ok (.iload_n 1, 1) := by decide +kernel
theorem dX5_newArray_5 : decode cX5_newArray 5 = .ok (.iload_n 3, 1) := by decide +kernel
theorem dX5_newArray_6 : decode cX5_newArray 6 = .ok (.iastore, 1) := by decide +kernel
theorem dX5_newArray_7 : decode cX5_newArray 7 = .ok (.aload_n 0, 1) := by decide +kernel
theorem dX5_newArray_8 : decode cX5_newArray 8 = .ok (.getfield 81, 3) := by decide +kernel
theorem dX5_newArray_11 : decode cX5_newArray 11 = .ok (.iload_n 1, 1) := by decide +kernel
theorem dX5_newArray_12 : decode cX5_newArray 12 = .ok (.iload 4, 2) := by decide +kernel
theorem dX5_newArray_14 : decode cX5_newArray 14 = .ok (.iastore, 1) := by decide +kernel
theorem dX5_newArray_15 : decode cX5_newArray 15 = .ok (.iconst 0, 1) := by decide +kernel
theorem dX5_newArray_16 : decode cX5_newArray 16 = .ok (.istore 5, 2) := by decide +kernel
theorem dX5_newArray_18 : decode cX5_newArray 18 = .ok (.iload 5, 2) := by decide +kernel
theorem dX5_newArray_20 : decode cX5_newArray 20 = .ok (.bipush 12, 2) := by decide +kernel
theorem dX5_newArray_22 : decode cX5_newArray 22 = .ok (.if_icmp .ge 22, 3) := by decide +kernel
theorem dX5_newArray_25 : decode cX5_newArray 25 = .ok (.aload_n 0, 1) := by decide +kernel
theorem dX5_newArray_26 : decode cX5_newArray 26 = .ok (.getfield 84, 3) := by decide +kernel
theorem dX5_newArray_29 : decode cX5_newArray 29 = .ok (.bipush 12, 2) := by decide +kernel
theorem dX5_newArray_31 : decode cX5_newArray 31 = .ok (.iload_n 1, 1) := by decide +kernel
theorem dX5_newArray_32 : decode cX5_newArray 32 = .ok (.imul, 1) := by decide +kernel
theorem dX5_newArray_33 : decode cX5_newArray 33 = .ok (.iload 5, 2) := by decide +kernel
theorem dX5_newArray_35 : decode cX5_newArray 35 = .ok (.iadd, 1) := by decide +kernel
theorem dX5_newArray_36 : decode cX5_newArray 36 = .ok (.iconst 0, 1) := by decide +kernel
theorem dX5_newArray_37 : decode cX5_newArray 37 = .ok (.iastore, 1) := by decide +kernel
theorem dX5_newArray_38 : decode cX5_newArray 38 = .ok (.iinc 5 1, 3) := by decide +kernel
theorem dX5_newArray_41 : decode cX5_newArray 41 = .ok (.goto (-23), 3) := by decide +kernel
theorem dX5_newArray_44 : decode cX5_newArray 44 = .ok (.aload_n 0, 1) := by decide +kernel
theorem dX5_newArray_45 : decode cX5_newArray 45 = .ok (.getfield 75, 3) := by decide +kernel
theorem dX5_newArray_48 : decode cX5_newArray 48 = .ok (.iload_n 2, 1) := by decide +kernel
theorem dX5_newArray_49 : decode cX5_newArray 49 = .ok (.iload_n 1, 1) := by decide +kernel
theorem dX5_newArray_50 : decode cX5_newArray 50 = .ok (.iastore, 1) := by decide +kernel
theorem dX5_newArray_51 : decode cX5_newArray 51 = .ok (.return_, 1) := by decide +kernel
theorem dX5_run_0 : decode cX5_run 0 = .ok (.aload_n 0, 1) := by decide +kernel
theorem dX5_run_1 : decode cX5_run 1 = .ok (.invokevirtual 96, 3) := by decide +kernel
theorem dX5_run_4 : decode cX5_run 4 = .ok (.aload_n 0, 1) := by decide +kernel
theorem dX5_run_5 : decode cX5_run 5 = .ok (.iconst 1, 1) := by decide +kernel
theorem dX5_run_6 : decode cX5_run 6 = .ok (.putfield 99, 3) := by decide +kernel
theorem dX5_run_9 : decode cX5_run 9 = .ok (.aload_n 0, 1) := by decide +kernel
theorem dX5_run_10 : decode cX5_run 10 = .ok (.lload_n 1, 1) := by decide +kernel
theorem dX5_run_11 : decode cX5_run 11 = .ok (.putfield 278, 3) := by decide +kernel
theorem dX5_run_14 : decode cX5_run 14 = .ok (.iconst 0, 1) := by decide +kernel
theorem dX5_run_15 : decode cX5_run 15 = .ok (.istore_n 3, 1) := by decide +kernel
theorem dX5_run_16 : decode cX5_run 16 = .ok (.iconst 0, 1) := by decide +kernel
theorem dX5_run_17 : decode cX5_run 17 = .ok (.istore 4, 2) := by decide +kernel
theorem dX5_run_19 : decode cX5_run 19 = .ok (.iload 4, 2) := by decide +kernel
theorem dX5_run_21 : decode cX5_run 21 = .ok (.aload_n 0, 1) := by decide +kernel
theorem dX5_run_22 : decode cX5_run 22 = .ok (.getfield 110, 3) := by decide +kernel
theorem dX5_run_25 : decode cX5_run 25 = .ok (.if_icmp .ge 87, 3) := by decide +kernel
theorem dX5_run_28 : decode cX5_run 28 = .ok (.aload_n 0, 1) := by decide +kernel
theorem dX5_run_29 : decode cX5_run 29 = .ok (.getfield 103, 3) := by decide +kernel
theorem dX5_run_32 : decode cX5_run 32 = .ok (.ifCond .ne 80, 3) := by decide +kernel
theorem dX5_run_35 : decode cX5_run 35 = .ok (.aload_n 0, 1) := by decide +kernel
theorem dX5_run_36 : decode cX5_run 36 = .ok (.getfield 28, 3) := by decide +kernel
theorem dX5_run_39 : decode cX5_run 39 = .ok (.iload 4, 2) := by decide +kernel
theorem dX5_run_41 : decode cX5_run 41 = .ok (.baload, 1) := by decide +kernel
theorem dX5_run_42 : decode cX5_run 42 = .ok (.ifCond .ne 64, 3) := by decide +kernel
theorem dX5_run_45 : decode cX5_run 45 = .ok (.aload_n 0, 1) := by decide +kernel
theorem dX5_run_46 : decode cX5_run 46 = .ok (.getfield 7, 3) := by decide +kernel
theorem dX5_run_49 : decode cX5_run 49 = .ok (.iload 4, 2) := by decide +kernel
theorem dX5_run_51 : decode cX5_run 51 = .ok (.iaload, 1) := by decide +kernel
theorem dX5_run_52 : decode cX5_run 52 = .ok (.bipush 14, 2) := by decide +kernel
theorem dX5_run_54 : decode cX5_run 54 = .ok (.if_icmp .ne 46, 3) := by decide +kernel
theorem dX5_run_57 : decode cX5_run 57 = .ok (.iload 4, 2) := by decide +kernel
theorem dX5_run_59 : decode cX5_run 59 = .ok (.iload_n 3, 1) := by decide +kernel
theorem dX5_run_60 : decode cX5_run 60 = .ok (.if_icmp .lt 46, 3) := by decide +kernel
theorem dX5_run_63 : decode cX5_run 63 = .ok (.iload 4, 2) := by decide +kernel
theorem dX5_run_65 : decode cX5_run 65 = .ok (.aload_n 0, 1) := by decide +kernel
theorem dX5_run_66 : decode cX5_run 66 = .ok (.getfield 16, 3) := by decide +kernel
theorem dX5_run_69 : decode cX5_run 69 = .ok (.iload 4, 2) := by decide +kernel
theorem dX5_run_71 : decode cX5_run 71 = .ok (.iaload, 1) := by decide +kernel
theorem dX5_run_72 : decode cX5_run 72 = .ok (.iadd, 1) := by decide +kernel
theorem dX5_run_73 : decode cX5_run 73 = .ok (.iconst 1, 1) := by decide +kernel
theorem dX5_run_74 : decode cX5_run 74 = .ok (.iadd, 1) := by decide +kernel
theorem dX5_run_75 : decode cX5_run 75 = .ok (.istore_n 3, 1) := by decide +kernel
theorem dX5_run_76 : decode cX5_run 76 = .ok (.aload_n 0, 1) := by decide +kernel
theorem dX5_run_77 : decode cX5_run 77 = .ok (.invokevirtual 291, 3) := by decide +kernel
theorem dX5_run_80 : decode cX5_run 80 = .ok (.lconst 1, 1) := by decide +kernel
theorem dX5_run_81 : decode cX5_run 81 = .ok (.land, 1) := by decide +kernel
theorem dX5_run_82 : decode cX5_run 82 = .ok (.lconst 0, 1) := by decide +kernel
theorem dX5_run_83 : decode cX5_run 83 = .ok (.lcmp, 1) := by decide +kernel
theorem dX5_run_84 : decode cX5_run 84 = .ok (.ifCond .ne 8, 3) := by decide +kernel
theorem dX5_run_87 : decode cX5_run 87 = .ok (.iload 4, 2) := by decide +kernel
theorem dX5_run_89 : decode cX5_run 89 = .ok (.goto 6, 3) := by decide +kernel
theorem dX5_run_92 : decode cX5_run 92 = .ok (.iload_n 3, 1) := by decide +kernel
theorem dX5_run_93 : decode cX5_run 93 = .ok (.iconst 1, 1) := by decide +kernel
theorem dX5_run_94 : decode cX5_run 94 = .ok (.isub, 1) := by decide +kernel
theorem dX5_run_95 : decode cX5_run 95 = .ok (.istore 4, 2) := by decide +kernel
theorem dX5_run_97 : decode cX5_run 97 = .ok (.goto 9, 3) := by decide +kernel
theorem dX5_run_100 : decode cX5_run 100 = .ok (.aload_n 0, 1) := by decide +kernel
theorem dX5_run_101 : decode cX5_run 101 = .ok (.iload 4, 2) := by decide +kernel
theorem dX5_run_103 : decode cX5_run 103 = .ok (.invokevirtual 295, 3) := by decide +kernel
theorem dX5_run_106 : decode cX5_run 106 = .ok (.iinc 4 1, 3) := by decide +kernel
theorem dX5_run_109 : decode cX5_run 109 = .ok (.goto (-90), 3) := by decide +kernel
theorem dX5_run_112 : decode cX5_run 112 = .ok (.aload_n 0, 1) := by decide +kernel
theorem dX5_run_113 : decode cX5_run 113 = .ok (.getfield 103, 3) := by decide +kernel
theorem dX5_run_116 : decode cX5_run 116 = .ok (.ireturn, 1) := by decide +kernel
theorem dX5_work_0 : decode cX5_work 0 = .ok (.aload_n 0, 1) := by decide +kernel
theorem dX5_work_1 : decode cX5_work 1 = .ok (.getfield 13, 3) := by decide +kernel
theorem dX5_work_4 : decode cX5_work 4 = .ok (.iload_n 1, 1) := by decide +kernel
theorem dX5_work_5 : decode cX5_work 5 = .ok (.iaload, 1) := by decide +kernel
theorem dX5_work_6 : decode cX5_work 6 = .ok (.istore_n 2, 1) := by decide +kernel
theorem dX5_work_7 : decode cX5_work 7 = .ok (.aload_n 0, 1) := by decide +kernel
theorem dX5_work_8 : decode cX5_work 8 = .ok (.getfield 16, 3) := by decide +kernel
theorem dX5_work_11 : decode cX5_work 11 = .ok (.iload_n 1, 1) := by decide +kernel
theorem dX5_work_12 : decode cX5_work 12 = .ok (.iaload, 1) := by decide +kernel
theorem dX5_work_13 : decode cX5_work 13 = .ok (.istore_n 3, 1) := by decide +kernel
theorem dX5_work_14 : decode cX5_work 14 = .ok (.aload_n 0, 1) := by decide +kernel
theorem dX5_work_15 : decode cX5_work 15 = .ok (.getfield 19, 3) := by decide +kernel
theorem dX5_work_18 : decode cX5_work 18 = .ok (.iload_n 1, 1) := by decide +kernel
theorem dX5_work_19 : decode cX5_work 19 = .ok (.iaload, 1) := by decide +kernel
theorem dX5_work_20 : decode cX5_work 20 = .ok (.istore 4, 2) := by decide +kernel
theorem dX5_work_22 : decode cX5_work 22 = .ok (.aload_n 0, 1) := by decide +kernel
theorem dX5_work_23 : decode cX5_work 23 = .ok (.getfield 22, 3) := by decide +kernel
theorem dX5_work_26 : decode cX5_work 26 = .ok (.iload_n 1, 1) := by decide +kernel
theorem dX5_work_27 : decode cX5_work 27 = .ok (.iaload, 1) := by decide +kernel
theorem dX5_work_28 : decode cX5_work 28 = .ok (.istore 5, 2) := by decide +kernel
theorem dX5_work_30 : decode cX5_work 30 = .ok (.aload_n 0, 1) := by decide +kernel
theorem dX5_work_31 : decode cX5_work 31 = .ok (.getfield 7, 3) := by decide +kernel
theorem dX5_work_34 : decode cX5_work 34 = .ok (.iload_n 1, 1) := by decide +kernel
theorem dX5_work_35 : decode cX5_work 35 = .ok (.iaload, 1) := by decide +kernel
theorem dX5_work_36 : decode cX5_work 36 = .ok (.tableswitch 403 0 12 #[68, 78, 107, 130, 153, 216, 226, 241, 277, 285, 338, 387, 395], 68) := by decide +kernel
theorem dX5_work_104 : decode cX5_work 104 = .ok (.aload_n 0, 1) := by decide +kernel
theorem dX5_work_105 : decode cX5_work 105 = .ok (.getfield 72, 3) := by decide +kernel
theorem dX5_work_108 : decode cX5_work 108 = .ok (.iload_n 2, 1) := by decide +kernel
theorem dX5_work_109 : decode cX5_work 109 = .ok (.iload_n 3, 1) := by decide +kernel
theorem dX5_work_110 : decode cX5_work 110 = .ok (.iastore, 1) := by decide +kernel
theorem dX5_work_111 : decode cX5_work 111 = .ok (.goto 363, 3) := by decide +kernel
theorem dX5_work_114 : decode cX5_work 114 = .ok (.aload_n 0, 1) := by decide +kernel
theorem dX5_work_115 : decode cX5_work 115 = .ok (.getfield 72, 3) := by decide +kernel
theorem dX5_work_118 : decode cX5_work 118 = .ok (.iload_n 2, 1) := by decide +kernel
theorem dX5_work_119 : decode cX5_work 119 = .ok (.iload_n 3, 1) := by decide +kernel
theorem dX5_work_120 : decode cX5_work 120 = .ok (.i2l, 1) := by decide +kernel
theorem dX5_work_121 : decode cX5_work 121 = .ok (.aload_n 0, 1) := by decide +kernel
theorem dX5_work_122 : decode cX5_work 122 = .ok (.invokevirtual 291, 3) := by decide +kernel
theorem dX5_work_125 : decode cX5_work 125 = .ok (.bipush 33, 2) := by decide +kernel
theorem dX5_work_127 : decode cX5_work 127 = .ok (.lushr, 1) := by decide +kernel
theorem dX5_work_128 : decode cX5_work 128 = .ok (.iload 4, 2) := by decide +kernel
theorem dX5_work_130 : decode cX5_work 130 = .ok (.i2l, 1) := by decide +kernel
theorem dX5_work_131 : decode cX5_work 131 = .ok (.iload_n 3, 1) := by decide +kernel
theorem dX5_work_132 : decode cX5_work 132 = .ok (.i2l, 1) := by decide +kernel
theorem dX5_work_133 : decode cX5_work 133 = .ok (.lsub, 1) := by decide +kernel
theorem dX5_work_134 : decode cX5_work 134 = .ok (.lconst 1, 1) := by decide +kernel
theorem dX5_work_135 : decode cX5_work 135 = .ok (.ladd, 1) := by decide +kernel
theorem dX5_work_136 : decode cX5_work 136 = .ok (.lrem, 1) := by decide +kernel
theorem dX5_work_137 : decode cX5_work 137 = .ok (.ladd, 1) := by decide +kernel
theorem dX5_work_138 : decode cX5_work 138 = .ok (.l2i, 1) := by decide +kernel
theorem dX5_work_139 : decode cX5_work 139 = .ok (.iastore, 1) := by decide +kernel
theorem dX5_work_140 : decode cX5_work 140 = .ok (.goto 334, 3) := by decide +kernel
theorem dX5_work_143 : decode cX5_work 143 = .ok (.aload_n 0, 1) := by decide +kernel
theorem dX5_work_144 : decode cX5_work 144 = .ok (.getfield 72, 3) := by decide +kernel
theorem dX5_work_147 : decode cX5_work 147 = .ok (.iload_n 2, 1) := by decide +kernel
theorem dX5_work_148 : decode cX5_work 148 = .ok (.aload_n 0, 1) := by decide +kernel
theorem dX5_work_149 : decode cX5_work 149 = .ok (.getfield 72, 3) := by decide +kernel
theorem dX5_work_152 : decode cX5_work 152 = .ok (.iload_n 3, 1) := by decide +kernel
theorem dX5_work_153 : decode cX5_work 153 = .ok (.iaload, 1) := by decide +kernel
theorem dX5_work_154 : decode cX5_work 154 = .ok (.aload_n 0, 1) := by decide +kernel
theorem dX5_work_155 : decode cX5_work 155 = .ok (.getfield 72, 3) := by decide +kernel
theorem dX5_work_158 : decode cX5_work 158 = .ok (.iload 4, 2) := by decide +kernel
theorem dX5_work_160 : decode cX5_work 160 = .ok (.iaload, 1) := by decide +kernel
theorem dX5_work_161 : decode cX5_work 161 = .ok (.iadd, 1) := by decide +kernel
theorem dX5_work_162 : decode cX5_work 162 = .ok (.iastore, 1) := by decide +kernel
theorem dX5_work_163 : decode cX5_work 163 = .ok (.goto 311, 3) := by decide +kernel
theorem dX5_work_166 : decode cX5_work 166 = .ok (.aload_n 0, 1) := by decide +kernel
theorem dX5_work_167 : decode cX5_work 167 = .ok (.getfield 72, 3) := by decide +kernel
theorem dX5_work_170 : decode cX5_work 170 = .ok (.iload_n 2, 1) := by decide +kernel
theorem dX5_work_171 : decode cX5_work 171 = .ok (.aload_n 0, 1) := by decide +kernel
theorem dX5_work_172 : decode cX5_work 172 = .ok (.getfield 72, 3) := by decide +kernel
theorem dX5_work_175 : decode cX5_work 175 = .ok (.iload_n 3, 1) := by decide +kernel
theorem dX5_work_176 : decode cX5_work 176 = .ok (.iaload, 1) := by decide +kernel
theorem dX5_work_177 : decode cX5_work 177 = .ok (.aload_n 0, 1) := by decide +kernel
theorem dX5_work_178 : decode cX5_work 178 = .ok (.getfield 72, 3) := by decide +kernel
theorem dX5_work_181 : decode cX5_work 181 = .ok (.iload 4, 2) := by decide +kernel
theorem dX5_work_183 : decode cX5_work 183 = .ok (.iaload, 1) := by decide +kernel
theorem dX5_work_184 : decode cX5_work 184 = .ok (.isub, 1) := by decide +kernel
theorem dX5_work_185 : decode cX5_work 185 = .ok (.iastore, 1) := by decide +kernel
theorem dX5_work_186 : decode cX5_work 186 = .ok (.goto 288, 3) := by decide +kernel
theorem dX5_work_189 : decode cX5_work 189 = .ok (.aload_n 0, 1) := by decide +kernel
theorem dX5_work_190 : decode cX5_work 190 = .ok (.getfield 72, 3) := by decide +kernel
theorem dX5_work_193 : decode cX5_work 193 = .ok (.iload 4, 2) := by decide +kernel
theorem dX5_work_195 : decode cX5_work 195 = .ok (.iaload, 1) := by decide +kernel
theorem dX5_work_196 : decode cX5_work 196 = .ok (.ifCond .lt 15, 3) := by decide +kernel
theorem dX5_work_199 : decode cX5_work 199 = .ok (.aload_n 0, 1) := by decide +kernel
theorem dX5_work_200 : decode cX5_work 200 = .ok (.getfield 72, 3) := by decide +kernel
theorem dX5_work_203 : decode cX5_work 203 = .ok (.iload 4, 2) := by decide +kernel
theorem dX5_work_205 : decode cX5_work 205 = .ok (.iaload, 1) := by decide +kernel
theorem dX5_work_206 : decode cX5_work 206 = .ok (.bipush 12, 2) := by decide +kernel
theorem dX5_work_208 : decode cX5_work 208 = .ok (.if_icmp .le 27, 3) := by decide +kernel
theorem dX5_work_211 : decode cX5_work 211 = .ok (.aload_n 0, 1) := by decide +kernel
theorem dX5_work_212 : decode cX5_work 212 = .ok (.iload_n 1, 1) := by decide +kernel
theorem dX5_work_213 : decode cX5_work 213 = .ok (.aload_n 0, 1) := by decide +kernel
theorem dX5_work_214 : decode cX5_work 214 = .ok (.getfield 72, 3) := by decide +kernel
theorem dX5_work_217 : decode cX5_work 217 = .ok (.iload 4, 2) := by decide +kernel
theorem dX5_work_219 : decode cX5_work 219 = .ok (.iaload, 1) := by decide +kernel
theorem dX5_work_220 : decode cX5_work 220 = .ok (.ifCond .ge 7, 3) := by decide +kernel
theorem dX5_work_223 : decode cX5_work 223 = .ok (.iconst 3, 1) := by decide +kernel
theorem dX5_work_224 : decode cX5_work 224 = .ok (.goto 5, 3) := by decide +kernel
theorem dX5_work_227 : decode cX5_work 227 = .ok (.bipush 7, 2) := by decide +kernel
theorem dX5_work_229 : decode cX5_work 229 = .ok (.invokevirtual 288, 3) := by decide +kernel
theorem dX5_work_232 : decode cX5_work 232 = .ok (.goto 242, 3) := by decide +kernel
theorem dX5_work_235 : decode cX5_work 235 = .ok (.aload_n 0, 1) := by decide +kernel
theorem dX5_work_236 : decode cX5_work 236 = .ok (.iload_n 1, 1) := by decide +kernel
theorem dX5_work_237 : decode cX5_work 237 = .ok (.iload_n 2, 1) := by decide +kernel
theorem dX5_work_238 : decode cX5_work 238 = .ok (.iload_n 3, 1) := by decide +kernel
theorem dX5_work_239 : decode cX5_work 239 = .ok (.aload_n 0, 1) := by decide +kernel
theorem dX5_work_240 : decode cX5_work 240 = .ok (.getfield 72, 3) := by decide +kernel
theorem dX5_work_243 : decode cX5_work 243 = .ok (.iload 4, 2) := by decide +kernel
theorem dX5_work_245 : decode cX5_work 245 = .ok (.iaload, 1) := by decide +kernel
theorem dX5_work_246 : decode cX5_work 246 = .ok (.invokevirtual 298, 3) := by decide +kernel
theorem dX5_work_249 : decode cX5_work 249 = .ok (.goto 225, 3) := by decide +kernel
theorem dX5_work_252 : decode cX5_work 252 = .ok (.aload_n 0, 1) := by decide +kernel
theorem dX5_work_253 : decode cX5_work 253 = .ok (.getfield 75, 3) := by decide +kernel
theorem dX5_work_256 : decode cX5_work 256 = .ok (.iload_n 2, 1) := by decide +kernel
theorem dX5_work_257 : decode cX5_work 257 = .ok (.iconst (-1), 1) := by decide +kernel
theorem dX5_work_258 : decode cX5_work 258 = .ok (.iastore, 1) := by decide +kernel
theorem dX5_work_259 : decode cX5_work 259 = .ok (.goto 215, 3) := by decide +kernel
theorem dX5_work_262 : decode cX5_work 262 = .ok (.aload_n 0, 1) := by decide +kernel
theorem dX5_work_263 : decode cX5_work 263 = .ok (.getfield 75, 3) := by decide +kernel
theorem dX5_work_266 : decode cX5_work 266 = .ok (.iload_n 2, 1) := by decide +kernel
theorem dX5_work_267 : decode cX5_work 267 = .ok (.aload_n 0, 1) := by decide +kernel
theorem dX5_work_268 : decode cX5_work 268 = .ok (.getfield 75, 3) := by decide +kernel
theorem dX5_work_271 : decode cX5_work 271 = .ok (.iload_n 3, 1) := by decide +kernel
theorem dX5_work_272 : decode cX5_work 272 = .ok (.iaload, 1) := by decide +kernel
theorem dX5_work_273 : decode cX5_work 273 = .ok (.iastore, 1) := by decide +kernel
theorem dX5_work_274 : decode cX5_work 274 = .ok (.goto 200, 3) := by decide +kernel
theorem dX5_work_277 : decode cX5_work 277 = .ok (.aload_n 0, 1) := by decide +kernel
theorem dX5_work_278 : decode cX5_work 278 = .ok (.getfield 75, 3) := by decide +kernel
theorem dX5_work_281 : decode cX5_work 281 = .ok (.iload_n 2, 1) := by decide +kernel
theorem dX5_work_282 : decode cX5_work 282 = .ok (.aload_n 0, 1) := by decide +kernel
theorem dX5_work_283 : decode cX5_work 283 = .ok (.invokevirtual 291, 3) := by decide +kernel
theorem dX5_work_286 : decode cX5_work 286 = .ok (.lconst 1, 1) := by decide +kernel
theorem dX5_work_287 : decode cX5_work 287 = .ok (.land, 1) := by decide +kernel
theorem dX5_work_288 : decode cX5_work 288 = .ok (.lconst 0, 1) := by decide +kernel
theorem dX5_work_289 : decode cX5_work 289 = .ok (.lcmp, 1) := by decide +kernel
theorem dX5_work_290 : decode cX5_work 290 = .ok (.ifCond .ne 12, 3) := by decide +kernel
theorem dX5_work_293 : decode cX5_work 293 = .ok (.aload_n 0, 1) := by decide +kernel
theorem dX5_work_294 : decode cX5_work 294 = .ok (.getfield 75, 3) := by decide +kernel
theorem dX5_work_297 : decode cX5_work 297 = .ok (.iload_n 3, 1) := by decide +kernel
theorem dX5_work_298 : decode cX5_work 298 = .ok (.iaload, 1) := by decide +kernel
theorem dX5_work_299 : decode cX5_work 299 = .ok (.goto 10, 3) := by decide +kernel
theorem dX5_work_302 : decode cX5_work 302 = .ok (.aload_n 0, 1) := by decide +kernel
theorem dX5_work_303 : decode cX5_work 303 = .ok (.getfield 75, 3) := by decide +kernel
theorem dX5_work_306 : decode cX5_work 306 = .ok (.iload 4, 2) := by decide +kernel
theorem dX5_work_308 : decode cX5_work 308 = .ok (.iaload, 1) := by decide +kernel
theorem dX5_work_309 : decode cX5_work 309 = .ok (.iastore, 1) := by decide +kernel
theorem dX5_work_310 : decode cX5_work 310 = .ok (.goto 164, 3) := by decide +kernel
theorem dX5_work_313 : decode cX5_work 313 = .ok (.aload_n 0, 1) := by decide +kernel
theorem dX5_work_314 : decode cX5_work 314 = .ok (.iload_n 1, 1) := by decide +kernel
theorem dX5_work_315 : decode cX5_work 315 = .ok (.invokevirtual 301, 3) := by decide +kernel
theorem dX5_work_318 : decode cX5_work 318 = .ok (.goto 156, 3) := by decide +kernel
theorem dX5_work_321 : decode cX5_work 321 = .ok (.aload_n 0, 1) := by decide +kernel
theorem dX5_work_322 : decode cX5_work 322 = .ok (.iload_n 1, 1) := by decide +kernel
theorem dX5_work_323 : decode cX5_work 323 = .ok (.iload_n 2, 1) := by decide +kernel
theorem dX5_work_324 : decode cX5_work 324 = .ok (.iload_n 3, 1) := by decide +kernel
theorem dX5_work_325 : decode cX5_work 325 = .ok (.aload_n 0, 1) := by decide +kernel
theorem dX5_work_326 : decode cX5_work 326 = .ok (.getfield 72, 3) := by decide +kernel
theorem dX5_work_329 : decode cX5_work 329 = .ok (.iload 4, 2) := by decide +kernel
theorem dX5_work_331 : decode cX5_work 331 = .ok (.iaload, 1) := by decide +kernel
theorem dX5_work_332 : decode cX5_work 332 = .ok (.invokevirtual 304, 3) := by decide +kernel
theorem dX5_work_335 : decode cX5_work 335 = .ok (.ifCond .eq 139, 3) := by decide +kernel
theorem dX5_work_338 : decode cX5_work 338 = .ok (.aload_n 0, 1) := by decide +kernel
theorem dX5_work_339 : decode cX5_work 339 = .ok (.getfield 84, 3) := by decide +kernel
theorem dX5_work_342 : decode cX5_work 342 = .ok (.bipush 12, 2) := by decide +kernel
theorem dX5_work_344 : decode cX5_work 344 = .ok (.aload_n 0, 1) := by decide +kernel
theorem dX5_work_345 : decode cX5_work 345 = .ok (.getfield 75, 3) := by decide +kernel
theorem dX5_work_348 : decode cX5_work 348 = .ok (.iload_n 2, 1) := by decide +kernel
theorem dX5_work_349 : decode cX5_work 349 = .ok (.iaload, 1) := by decide +kernel
theorem dX5_work_350 : decode cX5_work 350 = .ok (.imul, 1) := by decide +kernel
theorem dX5_work_351 : decode cX5_work 351 = .ok (.aload_n 0, 1) := by decide +kernel
theorem dX5_work_352 : decode cX5_work 352 = .ok (.getfield 72, 3) := by decide +kernel
theorem dX5_work_355 : decode cX5_work 355 = .ok (.iload 4, 2) := by decide +kernel
theorem dX5_work_357 : decode cX5_work 357 = .ok (.iaload, 1) := by decide +kernel
theorem dX5_work_358 : decode cX5_work 358 = .ok (.iadd, 1) := by decide +kernel
theorem dX5_work_359 : decode cX5_work 359 = .ok (.aload_n 0, 1) := by decide +kernel
theorem dX5_work_360 : decode cX5_work 360 = .ok (.getfield 72, 3) := by decide +kernel
theorem dX5_work_363 : decode cX5_work 363 = .ok (.iload 5, 2) := by decide +kernel
theorem dX5_work_365 : decode cX5_work 365 = .ok (.iaload, 1) := by decide +kernel
theorem dX5_work_366 : decode cX5_work 366 = .ok (.iload_n 3, 1) := by decide +kernel
theorem dX5_work_367 : decode cX5_work 367 = .ok (.invokestatic 308, 3) := by decide +kernel
theorem dX5_work_370 : decode cX5_work 370 = .ok (.iastore, 1) := by decide +kernel
theorem dX5_work_371 : decode cX5_work 371 = .ok (.goto 103, 3) := by decide +kernel
theorem dX5_work_374 : decode cX5_work 374 = .ok (.aload_n 0, 1) := by decide +kernel
theorem dX5_work_375 : decode cX5_work 375 = .ok (.iload_n 1, 1) := by decide +kernel
theorem dX5_work_376 : decode cX5_work 376 = .ok (.iload_n 3, 1) := by decide +kernel
theorem dX5_work_377 : decode cX5_work 377 = .ok (.iload 4, 2) := by decide +kernel
theorem dX5_work_379 : decode cX5_work 379 = .ok (.aload_n 0, 1) := by decide +kernel
theorem dX5_work_380 : decode cX5_work 380 = .ok (.getfield 72, 3) := by decide +kernel
theorem dX5_work_383 : decode cX5_work 383 = .ok (.iload 5, 2) := by decide +kernel
theorem dX5_work_385 : decode cX5_work 385 = .ok (.iaload, 1) := by decide +kernel
theorem dX5_work_386 : decode cX5_work 386 = .ok (.invokevirtual 304, 3) := by decide +kernel
theorem dX5_work_389 : decode cX5_work 389 = .ok (.ifCond .eq 85, 3) := by decide +kernel
theorem dX5_work_392 : decode cX5_work 392 = .ok (.aload_n 0, 1) := by decide +kernel
theorem dX5_work_393 : decode cX5_work 393 = .ok (.getfield 72, 3) := by decide +kernel
theorem dX5_work_396 : decode cX5_work 396 = .ok (.iload_n 2, 1) := by decide +kernel
theorem dX5_work_397 : decode cX5_work 397 = .ok (.aload_n 0, 1) := by decide +kernel
theorem dX5_work_398 : decode cX5_work 398 = .ok (.getfield 84, 3) := by decide +kernel
theorem dX5_work_401 : decode cX5_work 401 = .ok (.bipush 12, 2) := by decide +kernel
theorem dX5_work_403 : decode cX5_work 403 = .ok (.aload_n 0, 1) := by decide +kernel
theorem dX5_work_404 : decode cX5_work 404 = .ok (.getfield 75, 3) := by decide +kernel
theorem dX5_work_407 : decode cX5_work 407 = .ok (.iload_n 3, 1) := by decide +kernel
theorem dX5_work_408 : decode cX5_work 408 = .ok (.iaload, 1) := by decide +kernel
theorem dX5_work_409 : decode cX5_work 409 = .ok (.imul, 1) := by decide +kernel
theorem dX5_work_410 : decode cX5_work 410 = .ok (.aload_n 0, 1) := by decide +kernel
theorem dX5_work_411 : decode cX5_work 411 = .ok (.getfield 72, 3) := by decide +kernel
theorem dX5_work_414 : decode cX5_work 414 = .ok (.iload 5, 2) := by decide +kernel
theorem dX5_work_416 : decode cX5_work 416 = .ok (.iaload, 1) := by decide +kernel
theorem dX5_work_417 : decode cX5_work 417 = .ok (.iadd, 1) := by decide +kernel
theorem dX5_work_418 : decode cX5_work 418 = .ok (.iaload, 1) := by decide +kernel
theorem dX5_work_419 : decode cX5_work 419 = .ok (.iastore, 1) := by decide +kernel
theorem dX5_work_420 : decode cX5_work 420 = .ok (.goto 54, 3) := by decide +kernel
theorem dX5_work_423 : decode cX5_work 423 = .ok (.aload_n 0, 1) := by decide +kernel
theorem dX5_work_424 : decode cX5_work 424 = .ok (.iload_n 1, 1) := by decide +kernel
theorem dX5_work_425 : decode cX5_work 425 = .ok (.invokevirtual 312, 3) := by decide +kernel
theorem dX5_work_428 : decode cX5_work 428 = .ok (.goto 46, 3) := by decide +kernel
theorem dX5_work_431 : decode cX5_work 431 = .ok (.aload_n 0, 1) := by decide +kernel
theorem dX5_work_432 : decode cX5_work 432 = .ok (.iload_n 1, 1) := by decide +kernel
theorem dX5_work_433 : decode cX5_work 433 = .ok (.invokevirtual 315, 3) := by decide +kernel
theorem dX5_work_436 : decode cX5_work 436 = .ok (.goto 38, 3) := by decide +kernel
theorem dX5_work_439 : decode cX5_work 439 = .ok (.aload_n 0, 1) := by decide +kernel
theorem dX5_work_440 : decode cX5_work 440 = .ok (.getfield 75, 3) := by decide +kernel
theorem dX5_work_443 : decode cX5_work 443 = .ok (.iload_n 3, 1) := by decide +kernel
theorem dX5_work_444 : decode cX5_work 444 = .ok (.iaload, 1) := by decide +kernel
theorem dX5_work_445 : decode cX5_work 445 = .ok (.ifCond .ge 12, 3) := by decide +kernel
theorem dX5_work_448 : decode cX5_work 448 = .ok (.aload_n 0, 1) := by decide +kernel
theorem dX5_work_449 : decode cX5_work 449 = .ok (.iload_n 1, 1) := by decide +kernel
theorem dX5_work_450 : decode cX5_work 450 = .ok (.iconst 1, 1) := by decide +kernel
theorem dX5_work_451 : decode cX5_work 451 = .ok (.invokevirtual 288, 3) := by decide +kernel
theorem dX5_work_454 : decode cX5_work 454 = .ok (.goto 20, 3) := by decide +kernel
theorem dX5_work_457 : decode cX5_work 457 = .ok (.aload_n 0, 1) := by decide +kernel
theorem dX5_work_458 : decode cX5_work 458 = .ok (.getfield 72, 3) := by decide +kernel
theorem dX5_work_461 : decode cX5_work 461 = .ok (.iload_n 2, 1) := by decide +kernel
theorem dX5_work_462 : decode cX5_work 462 = .ok (.aload_n 0, 1) := by decide +kernel
theorem dX5_work_463 : decode cX5_work 463 = .ok (.getfield 81, 3) := by decide +kernel
theorem dX5_work_466 : decode cX5_work 466 = .ok (.aload_n 0, 1) := by decide +kernel
theorem dX5_work_467 : decode cX5_work 467 = .ok (.getfield 75, 3) := by decide +kernel
theorem dX5_work_470 : decode cX5_work 470 = .ok (.iload_n 3, 1) := by decide +kernel
theorem dX5_work_471 : decode cX5_work 471 = .ok (.iaload, 1) := by decide +kernel
theorem dX5_work_472 : decode cX5_work 472 = .ok (.iaload, 1) := by decide +kernel
theorem dX5_work_473 : decode cX5_work 473 = .ok (.iastore, 1) := by decide +kernel
theorem dX5_work_474 : decode cX5_work 474 = .ok (.return_, 1) := by decide +kernel
theorem dX5_workClone_0 : decode cX5_workClone 0 = .ok (.aload_n 0, 1) := by decide +kernel
theorem dX5_workClone_1 : decode cX5_workClone 1 = .ok (.getfield 75, 3) := by decide +kernel
theorem dX5_workClone_4 : decode cX5_workClone 4 = .ok (.aload_n 0, 1) := by decide +kernel
theorem dX5_workClone_5 : decode cX5_workClone 5 = .ok (.getfield 16, 3) := by decide +kernel
theorem dX5_workClone_8 : decode cX5_workClone 8 = .ok (.iload_n 1, 1) := by decide +kernel
theorem dX5_workClone_9 : decode cX5_workClone 9 = .ok (.iaload, 1) := by decide +kernel
theorem dX5_workClone_10 : decode cX5_workClone 10 = .ok (.iaload, 1) := by decide +kernel
theorem dX5_workClone_11 : decode cX5_workClone 11 = .ok (.istore_n 2, 1) := by decide +kernel
theorem dX5_workClone_12 : decode cX5_workClone 12 = .ok (.iload_n 2, 1) := by decide +kernel
theorem dX5_workClone_13 : decode cX5_workClone 13 = .ok (.ifCond .ge 10, 3) := by decide +kernel
theorem dX5_workClone_16 : decode cX5_workClone 16 = .ok (.aload_n 0, 1) := by decide +kernel
theorem dX5_workClone_17 : decode cX5_workClone 17 = .ok (.iload_n 1, 1) := by decide +kernel
theorem dX5_workClone_18 : decode cX5_workClone 18 = .ok (.iconst 1, 1) := by decide +kernel
theorem dX5_workClone_19 : decode cX5_workClone 19 = .ok (.invokevirtual 288, 3) := by decide +kernel
theorem dX5_workClone_22 : decode cX5_workClone 22 = .ok (.return_, 1) := by decide +kernel
theorem dX5_workClone_23 : decode cX5_workClone 23 = .ok (.aload_n 0, 1) := by decide +kernel
theorem dX5_workClone_24 : decode cX5_workClone 24 = .ok (.iload_n 1, 1) := by decide +kernel
theorem dX5_workClone_25 : decode cX5_workClone 25 = .ok (.aload_n 0, 1) := by decide +kernel
theorem dX5_workClone_26 : decode cX5_workClone 26 = .ok (.getfield 13, 3) := by decide +kernel
theorem dX5_workClone_29 : decode cX5_workClone 29 = .ok (.iload_n 1, 1) := by decide +kernel
theorem dX5_workClone_30 : decode cX5_workClone 30 = .ok (.iaload, 1) := by decide +kernel
theorem dX5_workClone_31 : decode cX5_workClone 31 = .ok (.aload_n 0, 1) := by decide +kernel
theorem dX5_workClone_32 : decode cX5_workClone 32 = .ok (.getfield 78, 3) := by decide +kernel
theorem dX5_workClone_35 : decode cX5_workClone 35 = .ok (.iload_n 2, 1) := by decide +kernel
theorem dX5_workClone_36 : decode cX5_workClone 36 = .ok (.iaload, 1) := by decide +kernel
theorem dX5_workClone_37 : decode cX5_workClone 37 = .ok (.aload_n 0, 1) := by decide +kernel
theorem dX5_workClone_38 : decode cX5_workClone 38 = .ok (.getfield 81, 3) := by decide +kernel
theorem dX5_workClone_41 : decode cX5_workClone 41 = .ok (.iload_n 2, 1) := by decide +kernel
theorem dX5_workClone_42 : decode cX5_workClone 42 = .ok (.iaload, 1) := by decide +kernel
theorem dX5_workClone_43 : decode cX5_workClone 43 = .ok (.invokevirtual 298, 3) := by decide +kernel
theorem dX5_workClone_46 : decode cX5_workClone 46 = .ok (.iconst 0, 1) := by decide +kernel
theorem dX5_workClone_47 : decode cX5_workClone 47 = .ok (.istore_n 3, 1) := by decide +kernel
theorem dX5_workClone_48 : decode cX5_workClone 48 = .ok (.iload_n 3, 1) := by decide +kernel
theorem dX5_workClone_49 : decode cX5_workClone 49 = .ok (.bipush 12, 2) := by decide +kernel
theorem dX5_workClone_51 : decode cX5_workClone 51 = .ok (.if_icmp .ge 31, 3) := by decide +kernel
theorem dX5_workClone_54 : decode cX5_workClone 54 = .ok (.aload_n 0, 1) := by decide +kernel
theorem dX5_workClone_55 : decode cX5_workClone 55 = .ok (.getfield 84, 3) := by decide +kernel
theorem dX5_workClone_58 : decode cX5_workClone 58 = .ok (.bipush 12, 2) := by decide +kernel
theorem dX5_workClone_60 : decode cX5_workClone 60 = .ok (.iload_n 1, 1) := by decide +kernel
theorem dX5_workClone_61 : decode cX5_workClone 61 = .ok (.imul, 1) := by decide +kernel
theorem dX5_workClone_62 : decode cX5_workClone 62 = .ok (.iload_n 3, 1) := by decide +kernel
theorem dX5_workClone_63 : decode cX5_workClone 63 = .ok (.iadd, 1) := by decide +kernel
theorem dX5_workClone_64 : decode cX5_workClone 64 = .ok (.aload_n 0, 1) := by decide +kernel
theorem dX5_workClone_65 : decode cX5_workClone 65 = .ok (.getfield 84, 3) := by decide +kernel
theorem dX5_workClone_68 : decode cX5_workClone 68 = .ok (.bipush 12, 2) := by decide +kernel
theorem dX5_workClone_70 : decode cX5_workClone 70 = .ok (.iload_n 2, 1) := by decide +kernel
theorem dX5_workClone_71 : decode cX5_workClone 71 = .ok (.imul, 1) := by decide +kernel
theorem dX5_workClone_72 : decode cX5_workClone 72 = .ok (.iload_n 3, 1) := by decide +kernel
theorem dX5_workClone_73 : decode cX5_workClone 73 = .ok (.iadd, 1) := by decide +kernel
theorem dX5_workClone_74 : decode cX5_workClone 74 = .ok (.iaload, 1) := by decide +kernel
theorem dX5_workClone_75 : decode cX5_workClone 75 = .ok (.iastore, 1) := by decide +kernel
theorem dX5_workClone_76 : decode cX5_workClone 76 = .ok (.iinc 3 1, 3) := by decide +kernel
theorem dX5_workClone_79 : decode cX5_workClone 79 = .ok (.goto (-31), 3) := by decide +kernel
theorem dX5_workClone_82 : decode cX5_workClone 82 = .ok (.return_, 1) := by decide +kernel
theorem dX5_workCopy_0 : decode cX5_workCopy 0 = .ok (.aload_n 0, 1) := by decide +kernel
theorem dX5_workCopy_1 : decode cX5_workCopy 1 = .ok (.getfield 75, 3) := by decide +kernel
theorem dX5_workCopy_4 : decode cX5_workCopy 4 = .ok (.aload_n 0, 1) := by decide +kernel
theorem dX5_workCopy_5 : decode cX5_workCopy 5 = .ok (.getfield 13, 3) := by decide +kernel
theorem dX5_workCopy_8 : decode cX5_workCopy 8 = .ok (.iload_n 1, 1) := by decide +kernel
theorem dX5_workCopy_9 : decode cX5_workCopy 9 = .ok (.iaload, 1) := by decide +kernel
theorem dX5_workCopy_10 : decode cX5_workCopy 10 = .ok (.iaload, 1) := by decide +kernel
theorem dX5_workCopy_11 : decode cX5_workCopy 11 = .ok (.istore_n 2, 1) := by decide +kernel
theorem dX5_workCopy_12 : decode cX5_workCopy 12 = .ok (.aload_n 0, 1) := by decide +kernel
theorem dX5_workCopy_13 : decode cX5_workCopy 13 = .ok (.getfield 75, 3) := by decide +kernel
theorem dX5_workCopy_16 : decode cX5_workCopy 16 = .ok (.aload_n 0, 1) := by decide +kernel
theorem dX5_workCopy_17 : decode cX5_workCopy 17 = .ok (.getfield 19, 3) := by decide +kernel
theorem dX5_workCopy_20 : decode cX5_workCopy 20 = .ok (.iload_n 1, 1) := by decide +kernel
theorem dX5_workCopy_21 : decode cX5_workCopy 21 = .ok (.iaload, 1) := by decide +kernel
theorem dX5_workCopy_22 : decode cX5_workCopy 22 = .ok (.iaload, 1) := by decide +kernel
theorem dX5_workCopy_23 : decode cX5_workCopy 23 = .ok (.istore_n 3, 1) := by decide +kernel
theorem dX5_workCopy_24 : decode cX5_workCopy 24 = .ok (.aload_n 0, 1) := by decide +kernel
theorem dX5_workCopy_25 : decode cX5_workCopy 25 = .ok (.getfield 72, 3) := by decide +kernel
theorem dX5_workCopy_28 : decode cX5_workCopy 28 = .ok (.aload_n 0, 1) := by decide +kernel
theorem dX5_workCopy_29 : decode cX5_workCopy 29 = .ok (.getfield 16, 3) := by decide +kernel
theorem dX5_workCopy_32 : decode cX5_workCopy 32 = .ok (.iload_n 1, 1) := by decide +kernel
theorem dX5_workCopy_33 : decode cX5_workCopy 33 = .ok (.iaload, 1) := by decide +kernel
theorem dX5_workCopy_34 : decode cX5_workCopy 34 = .ok (.iaload, 1) := by decide +kernel
theorem dX5_workCopy_35 : decode cX5_workCopy 35 = .ok (.i2l, 1) := by decide +kernel
theorem dX5_workCopy_36 : decode cX5_workCopy 36 = .ok (.lstore 4, 2) := by decide +kernel
theorem dX5_workCopy_38 : decode cX5_workCopy 38 = .ok (.aload_n 0, 1) := by decide +kernel
theorem dX5_workCopy_39 : decode cX5_workCopy 39 = .ok (.getfield 72, 3) := by decide +kernel
theorem dX5_workCopy_42 : decode cX5_workCopy 42 = .ok (.aload_n 0, 1) := by decide +kernel
theorem dX5_workCopy_43 : decode cX5_workCopy 43 = .ok (.getfield 22, 3) := by decide +kernel
theorem dX5_workCopy_46 : decode cX5_workCopy 46 = .ok (.iload_n 1, 1) := by decide +kernel
theorem dX5_workCopy_47 : decode cX5_workCopy 47 = .ok (.iaload, 1) := by decide +kernel
theorem dX5_workCopy_48 : decode cX5_workCopy 48 = .ok (.iaload, 1) := by decide +kernel
theorem dX5_workCopy_49 : decode cX5_workCopy 49 = .ok (.i2l, 1) := by decide +kernel
theorem dX5_workCopy_50 : decode cX5_workCopy 50 = .ok (.lstore 6, 2) := by decide +kernel
theorem dX5_workCopy_52 : decode cX5_workCopy 52 = .ok (.aload_n 0, 1) := by decide +kernel
theorem dX5_workCopy_53 : decode cX5_workCopy 53 = .ok (.getfield 72, 3) := by decide +kernel
theorem dX5_workCopy_56 : decode cX5_workCopy 56 = .ok (.aload_n 0, 1) := by decide +kernel
theorem dX5_workCopy_57 : decode cX5_workCopy 57 = .ok (.getfield 25, 3) := by decide +kernel
theorem dX5_workCopy_60 : decode cX5_workCopy 60 = .ok (.iload_n 1, 1) := by decide +kernel
theorem dX5_workCopy_61 : decode cX5_workCopy 61 = .ok (.iaload, 1) := by decide +kernel
theorem dX5_workCopy_62 : decode cX5_workCopy 62 = .ok (.iaload, 1) := by decide +kernel
theorem dX5_workCopy_63 : decode cX5_workCopy 63 = .ok (.i2l, 1) := by decide +kernel
theorem dX5_workCopy_64 : decode cX5_workCopy 64 = .ok (.lstore 8, 2) := by decide +kernel
theorem dX5_workCopy_66 : decode cX5_workCopy 66 = .ok (.iload_n 2, 1) := by decide +kernel
theorem dX5_workCopy_67 : decode cX5_workCopy 67 = .ok (.ifCond .lt 7, 3) := by decide +kernel
theorem dX5_workCopy_70 : decode cX5_workCopy 70 = .ok (.iload_n 3, 1) := by decide +kernel
theorem dX5_workCopy_71 : decode cX5_workCopy 71 = .ok (.ifCond .ge 12, 3) := by decide +kernel
theorem dX5_workCopy_74 : decode cX5_workCopy 74 = .ok (.aload_n 0, 1) := by decide +kernel
theorem dX5_workCopy_75 : decode cX5_workCopy 75 = .ok (.iload_n 1, 1) := by decide +kernel
theorem dX5_workCopy_76 : decode cX5_workCopy 76 = .ok (.iconst 1, 1) := by decide +kernel
theorem dX5_workCopy_77 : decode cX5_workCopy 77 = .ok (.invokevirtual 288, 3) := by decide +kernel
theorem dX5_workCopy_80 : decode cX5_workCopy 80 = .ok (.goto 171, 3) := by decide +kernel
theorem dX5_workCopy_83 : decode cX5_workCopy 83 = .ok (.aload_n 0, 1) := by decide +kernel
theorem dX5_workCopy_84 : decode cX5_workCopy 84 = .ok (.getfield 78, 3) := by decide +kernel
theorem dX5_workCopy_87 : decode cX5_workCopy 87 = .ok (.iload_n 2, 1) := by decide +kernel
theorem dX5_workCopy_88 : decode cX5_workCopy 88 = .ok (.iaload, 1) := by decide +kernel
theorem dX5_workCopy_89 : decode cX5_workCopy 89 = .ok (.aload_n 0, 1) := by decide +kernel
theorem dX5_workCopy_90 : decode cX5_workCopy 90 = .ok (.getfield 78, 3) := by decide +kernel
theorem dX5_workCopy_93 : decode cX5_workCopy 93 = .ok (.iload_n 3, 1) := by decide +kernel
theorem dX5_workCopy_94 : decode cX5_workCopy 94 = .ok (.iaload, 1) := by decide +kernel
theorem dX5_workCopy_95 : decode cX5_workCopy 95 = .ok (.if_icmp .eq 12, 3) := by decide +kernel
theorem dX5_workCopy_98 : decode cX5_workCopy 98 = .ok (.aload_n 0, 1) := by decide +kernel
theorem dX5_workCopy_99 : decode cX5_workCopy 99 = .ok (.iload_n 1, 1) := by decide +kernel
theorem dX5_workCopy_100 : decode cX5_workCopy 100 = .ok (.iconst 4, 1) := by decide +kernel
theorem dX5_workCopy_101 : decode cX5_workCopy 101 = .ok (.invokevirtual 288, 3) := by decide +kernel
theorem dX5_workCopy_104 : decode cX5_workCopy 104 = .ok (.goto 147, 3) := by decide +kernel
theorem dX5_workCopy_107 : decode cX5_workCopy 107 = .ok (.lload 4, 2) := by decide +kernel
theorem dX5_workCopy_109 : decode cX5_workCopy 109 = .ok (.lconst 0, 1) := by decide +kernel
theorem dX5_workCopy_110 : decode cX5_workCopy 110 = .ok (.lcmp, 1) := by decide +kernel
theorem dX5_workCopy_111 : decode cX5_workCopy 111 = .ok (.ifCond .lt 49, 3) := by decide +kernel
theorem dX5_workCopy_114 : decode cX5_workCopy 114 = .ok (.lload 6, 2) := by decide +kernel
theorem dX5_workCopy_116 : decode cX5_workCopy 116 = .ok (.lconst 0, 1) := by decide +kernel
theorem dX5_workCopy_117 : decode cX5_workCopy 117 = .ok (.lcmp, 1) := by decide +kernel
theorem dX5_workCopy_118 : decode cX5_workCopy 118 = .ok (.ifCond .lt 42, 3) := by decide +kernel
theorem dX5_workCopy_121 : decode cX5_workCopy 121 = .ok (.lload 8, 2) := by decide +kernel
theorem dX5_workCopy_123 : decode cX5_workCopy 123 = .ok (.lconst 0, 1) := by decide +kernel
theorem dX5_workCopy_124 : decode cX5_workCopy 124 = .ok (.lcmp, 1) := by decide +kernel
theorem dX5_workCopy_125 : decode cX5_workCopy 125 = .ok (.ifCond .lt 35, 3) := by decide +kernel
theorem dX5_workCopy_128 : decode cX5_workCopy 128 = .ok (.lload 4, 2) := by decide +kernel
theorem dX5_workCopy_130 : decode cX5_workCopy 130 = .ok (.lload 8, 2) := by decide +kernel
theorem dX5_workCopy_132 : decode cX5_workCopy 132 = .ok (.ladd, 1) := by decide +kernel
theorem dX5_workCopy_133 : decode cX5_workCopy 133 = .ok (.aload_n 0, 1) := by decide +kernel
theorem dX5_workCopy_134 : decode cX5_workCopy 134 = .ok (.getfield 81, 3) := by decide +kernel
theorem dX5_workCopy_137 : decode cX5_workCopy 137 = .ok (.iload_n 2, 1) := by decide +kernel
theorem dX5_workCopy_138 : decode cX5_workCopy 138 = .ok (.iaload, 1) := by decide +kernel
theorem dX5_workCopy_139 : decode cX5_workCopy 139 = .ok (.i2l, 1) := by decide +kernel
theorem dX5_workCopy_140 : decode cX5_workCopy 140 = .ok (.lcmp, 1) := by decide +kernel
theorem dX5_workCopy_141 : decode cX5_workCopy 141 = .ok (.ifCond .gt 19, 3) := by decide +kernel
theorem dX5_workCopy_144 : decode cX5_workCopy 144 = .ok (.lload 6, 2) := by decide +kernel
theorem dX5_workCopy_146 : decode cX5_workCopy 146 = .ok (.lload 8, 2) := by decide +kernel
theorem dX5_workCopy_148 : decode cX5_workCopy 148 = .ok (.ladd, 1) := by decide +kernel
theorem dX5_workCopy_149 : decode cX5_workCopy 149 = .ok (.aload_n 0, 1) := by decide +kernel
theorem dX5_workCopy_150 : decode cX5_workCopy 150 = .ok (.getfield 81, 3) := by decide +kernel
theorem dX5_workCopy_153 : decode cX5_workCopy 153 = .ok (.iload_n 3, 1) := by decide +kernel
theorem dX5_workCopy_154 : decode cX5_workCopy 154 = .ok (.iaload, 1) := by decide +kernel
theorem dX5_workCopy_155 : decode cX5_workCopy 155 = .ok (.i2l, 1) := by decide +kernel
theorem dX5_workCopy_156 : decode cX5_workCopy 156 = .ok (.lcmp, 1) := by decide +kernel
theorem dX5_workCopy_157 : decode cX5_workCopy 157 = .ok (.ifCond .le 12, 3) := by decide +kernel
theorem dX5_workCopy_160 : decode cX5_workCopy 160 = .ok (.aload_n 0, 1) := by decide +kernel
theorem dX5_workCopy_161 : decode cX5_workCopy 161 = .ok (.iload_n 1, 1) := by decide +kernel
theorem dX5_workCopy_162 : decode cX5_workCopy 162 = .ok (.iconst 5, 1) := by decide +kernel
theorem dX5_workCopy_163 : decode cX5_workCopy 163 = .ok (.invokevirtual 288, 3) := by decide +kernel
theorem dX5_workCopy_166 : decode cX5_workCopy 166 = .ok (.goto 85, 3) := by decide +kernel
theorem dX5_workCopy_169 : decode cX5_workCopy 169 = .ok (.iconst 0, 1) := by decide +kernel
theorem dX5_workCopy_170 : decode cX5_workCopy 170 = .ok (.istore 10, 2) := by decide +kernel
theorem dX5_workCopy_172 : decode cX5_workCopy 172 = .ok (.iload 10, 2) := by decide +kernel
theorem dX5_workCopy_174 : decode cX5_workCopy 174 = .ok (.i2l, 1) := by decide +kernel
theorem dX5_workCopy_175 : decode cX5_workCopy 175 = .ok (.lload 8, 2) := by decide +kernel
theorem dX5_workCopy_177 : decode cX5_workCopy 177 = .ok (.lcmp, 1) := by decide +kernel
theorem dX5_workCopy_178 : decode cX5_workCopy 178 = .ok (.ifCond .ge 32, 3) := by decide +kernel
theorem dX5_workCopy_181 : decode cX5_workCopy 181 = .ok (.aload_n 0, 1) := by decide +kernel
theorem dX5_workCopy_182 : decode cX5_workCopy 182 = .ok (.getfield 87, 3) := by decide +kernel
theorem dX5_workCopy_185 : decode cX5_workCopy 185 = .ok (.iload 10, 2) := by decide +kernel
theorem dX5_workCopy_187 : decode cX5_workCopy 187 = .ok (.aload_n 0, 1) := by decide +kernel
theorem dX5_workCopy_188 : decode cX5_workCopy 188 = .ok (.getfield 84, 3) := by decide +kernel
theorem dX5_workCopy_191 : decode cX5_workCopy 191 = .ok (.bipush 12, 2) := by decide +kernel
theorem dX5_workCopy_193 : decode cX5_workCopy 193 = .ok (.iload_n 2, 1) := by decide +kernel
theorem dX5_workCopy_194 : decode cX5_workCopy 194 = .ok (.imul, 1) := by decide +kernel
theorem dX5_workCopy_195 : decode cX5_workCopy 195 = .ok (.lload 4, 2) := by decide +kernel
theorem dX5_workCopy_197 : decode cX5_workCopy 197 = .ok (.l2i, 1) := by decide +kernel
theorem dX5_workCopy_198 : decode cX5_workCopy 198 = .ok (.iadd, 1) := by decide +kernel
theorem dX5_workCopy_199 : decode cX5_workCopy 199 = .ok (.iload 10, 2) := by decide +kernel
theorem dX5_workCopy_201 : decode cX5_workCopy 201 = .ok (.iadd, 1) := by decide +kernel
theorem dX5_workCopy_202 : decode cX5_workCopy 202 = .ok (.iaload, 1) := by decide +kernel
theorem dX5_workCopy_203 : decode cX5_workCopy 203 = .ok (.iastore, 1) := by decide +kernel
theorem dX5_workCopy_204 : decode cX5_workCopy 204 = .ok (.iinc 10 1, 3) := by decide +kernel
theorem dX5_workCopy_207 : decode cX5_workCopy 207 = .ok (.goto (-35), 3) := by decide +kernel
theorem dX5_workCopy_210 : decode cX5_workCopy 210 = .ok (.iconst 0, 1) := by decide +kernel
theorem dX5_workCopy_211 : decode cX5_workCopy 211 = .ok (.istore 10, 2) := by decide +kernel
theorem dX5_workCopy_213 : decode cX5_workCopy 213 = .ok (.iload 10, 2) := by decide +kernel
theorem dX5_workCopy_215 : decode cX5_workCopy 215 = .ok (.i2l, 1) := by decide +kernel
theorem dX5_workCopy_216 : decode cX5_workCopy 216 = .ok (.lload 8, 2) := by decide +kernel
theorem dX5_workCopy_218 : decode cX5_workCopy 218 = .ok (.lcmp, 1) := by decide +kernel
theorem dX5_workCopy_219 : decode cX5_workCopy 219 = .ok (.ifCond .ge 32, 3) := by decide +kernel
theorem dX5_workCopy_222 : decode cX5_workCopy 222 = .ok (.aload_n 0, 1) := by decide +kernel
theorem dX5_workCopy_223 : decode cX5_workCopy 223 = .ok (.getfield 84, 3) := by decide +kernel
theorem dX5_workCopy_226 : decode cX5_workCopy 226 = .ok (.bipush 12, 2) := by decide +kernel
theorem dX5_workCopy_228 : decode cX5_workCopy 228 = .ok (.iload_n 3, 1) := by decide +kernel
theorem dX5_workCopy_229 : decode cX5_workCopy 229 = .ok (.imul, 1) := by decide +kernel
theorem dX5_workCopy_230 : decode cX5_workCopy 230 = .ok (.lload 6, 2) := by decide +kernel
theorem dX5_workCopy_232 : decode cX5_workCopy 232 = .ok (.l2i, 1) := by decide +kernel
theorem dX5_workCopy_233 : decode cX5_workCopy 233 = .ok (.iadd, 1) := by decide +kernel
theorem dX5_workCopy_234 : decode cX5_workCopy 234 = .ok (.iload 10, 2) := by decide +kernel
theorem dX5_workCopy_236 : decode cX5_workCopy 236 = .ok (.iadd, 1) := by decide +kernel
theorem dX5_workCopy_237 : decode cX5_workCopy 237 = .ok (.aload_n 0, 1) := by decide +kernel
theorem dX5_workCopy_238 : decode cX5_workCopy 238 = .ok (.getfield 87, 3) := by decide +kernel
theorem dX5_workCopy_241 : decode cX5_workCopy 241 = .ok (.iload 10, 2) := by decide +kernel
theorem dX5_workCopy_243 : decode cX5_workCopy 243 = .ok (.iaload, 1) := by decide +kernel
theorem dX5_workCopy_244 : decode cX5_workCopy 244 = .ok (.iastore, 1) := by decide +kernel
theorem dX5_workCopy_245 : decode cX5_workCopy 245 = .ok (.iinc 10 1, 3) := by decide +kernel
theorem dX5_workCopy_248 : decode cX5_workCopy 248 = .ok (.goto (-35), 3) := by decide +kernel
theorem dX5_workCopy_251 : decode cX5_workCopy 251 = .ok (.return_, 1) := by decide +kernel
theorem dX5_workFill_0 : decode cX5_workFill 0 = .ok (.aload_n 0, 1) := by decide +kernel
theorem dX5_workFill_1 : decode cX5_workFill 1 = .ok (.getfield 13, 3) := by decide +kernel
theorem dX5_workFill_4 : decode cX5_workFill 4 = .ok (.iload_n 1, 1) := by decide +kernel
theorem dX5_workFill_5 : decode cX5_workFill 5 = .ok (.iaload, 1) := by decide +kernel
theorem dX5_workFill_6 : decode cX5_workFill 6 = .ok (.istore_n 2, 1) := by decide +kernel
theorem dX5_workFill_7 : decode cX5_workFill 7 = .ok (.aload_n 0, 1) := by decide +kernel
theorem dX5_workFill_8 : decode cX5_workFill 8 = .ok (.getfield 16, 3) := by decide +kernel
theorem dX5_workFill_11 : decode cX5_workFill 11 = .ok (.iload_n 1, 1) := by decide +kernel
theorem dX5_workFill_12 : decode cX5_workFill 12 = .ok (.iaload, 1) := by decide +kernel
theorem dX5_workFill_13 : decode cX5_workFill 13 = .ok (.istore_n 3, 1) := by decide +kernel
theorem dX5_workFill_14 : decode cX5_workFill 14 = .ok (.aload_n 0, 1) := by decide +kernel
theorem dX5_workFill_15 : decode cX5_workFill 15 = .ok (.getfield 72, 3) := by decide +kernel
theorem dX5_workFill_18 : decode cX5_workFill 18 = .ok (.aload_n 0, 1) := by decide +kernel
theorem dX5_workFill_19 : decode cX5_workFill 19 = .ok (.getfield 19, 3) := by decide +kernel
theorem dX5_workFill_22 : decode cX5_workFill 22 = .ok (.iload_n 1, 1) := by decide +kernel
theorem dX5_workFill_23 : decode cX5_workFill 23 = .ok (.iaload, 1) := by decide +kernel
theorem dX5_workFill_24 : decode cX5_workFill 24 = .ok (.iaload, 1) := by decide +kernel
theorem dX5_workFill_25 : decode cX5_workFill 25 = .ok (.istore 4, 2) := by decide +kernel
theorem dX5_workFill_27 : decode cX5_workFill 27 = .ok (.iload 4, 2) := by decide +kernel
theorem dX5_workFill_29 : decode cX5_workFill 29 = .ok (.aload_n 0, 1) := by decide +kernel
theorem dX5_workFill_30 : decode cX5_workFill 30 = .ok (.getfield 72, 3) := by decide +kernel
theorem dX5_workFill_33 : decode cX5_workFill 33 = .ok (.aload_n 0, 1) := by decide +kernel
theorem dX5_workFill_34 : decode cX5_workFill 34 = .ok (.getfield 22, 3) := by decide +kernel
theorem dX5_workFill_37 : decode cX5_workFill 37 = .ok (.iload_n 1, 1) := by decide +kernel
theorem dX5_workFill_38 : decode cX5_workFill 38 = .ok (.iaload, 1) := by decide +kernel
theorem dX5_workFill_39 : decode cX5_workFill 39 = .ok (.iaload, 1) := by decide +kernel
theorem dX5_workFill_40 : decode cX5_workFill 40 = .ok (.if_icmp .ge 60, 3) := by decide +kernel
theorem dX5_workFill_43 : decode cX5_workFill 43 = .ok (.aload_n 0, 1) := by decide +kernel
theorem dX5_workFill_44 : decode cX5_workFill 44 = .ok (.getfield 103, 3) := by decide +kernel
theorem dX5_workFill_47 : decode cX5_workFill 47 = .ok (.ifCond .ne 53, 3) := by decide +kernel
theorem dX5_workFill_50 : decode cX5_workFill 50 = .ok (.aload_n 0, 1) := by decide +kernel
theorem dX5_workFill_51 : decode cX5_workFill 51 = .ok (.iload_n 1, 1) := by decide +kernel
theorem dX5_workFill_52 : decode cX5_workFill 52 = .ok (.iload_n 2, 1) := by decide +kernel
theorem dX5_workFill_53 : decode cX5_workFill 53 = .ok (.iload_n 3, 1) := by decide +kernel
theorem dX5_workFill_54 : decode cX5_workFill 54 = .ok (.iload 4, 2) := by decide +kernel
theorem dX5_workFill_56 : decode cX5_workFill 56 = .ok (.invokevirtual 304, 3) := by decide +kernel
theorem dX5_workFill_59 : decode cX5_workFill 59 = .ok (.ifCond .eq 35, 3) := by decide +kernel
theorem dX5_workFill_62 : decode cX5_workFill 62 = .ok (.aload_n 0, 1) := by decide +kernel
theorem dX5_workFill_63 : decode cX5_workFill 63 = .ok (.getfield 84, 3) := by decide +kernel
theorem dX5_workFill_66 : decode cX5_workFill 66 = .ok (.bipush 12, 2) := by decide +kernel
theorem dX5_workFill_68 : decode cX5_workFill 68 = .ok (.aload_n 0, 1) := by decide +kernel
theorem dX5_workFill_69 : decode cX5_workFill 69 = .ok (.getfield 75, 3) := by decide +kernel
theorem dX5_workFill_72 : decode cX5_workFill 72 = .ok (.iload_n 2, 1) := by decide +kernel
theorem dX5_workFill_73 : decode cX5_workFill 73 = .ok (.iaload, 1) := by decide +kernel
theorem dX5_workFill_74 : decode cX5_workFill 74 = .ok (.imul, 1) := by decide +kernel
theorem dX5_workFill_75 : decode cX5_workFill 75 = .ok (.iload 4, 2) := by decide +kernel
theorem dX5_workFill_77 : decode cX5_workFill 77 = .ok (.iadd, 1) := by decide +kernel
theorem dX5_workFill_78 : decode cX5_workFill 78 = .ok (.aload_n 0, 1) := by decide +kernel
theorem dX5_workFill_79 : decode cX5_workFill 79 = .ok (.getfield 72, 3) := by decide +kernel
theorem dX5_workFill_82 : decode cX5_workFill 82 = .ok (.aload_n 0, 1) := by decide +kernel
theorem dX5_workFill_83 : decode cX5_workFill 83 = .ok (.getfield 25, 3) := by decide +kernel
theorem dX5_workFill_86 : decode cX5_workFill 86 = .ok (.iload_n 1, 1) := by decide +kernel
theorem dX5_workFill_87 : decode cX5_workFill 87 = .ok (.iaload, 1) := by decide +kernel
theorem dX5_workFill_88 : decode cX5_workFill 88 = .ok (.iaload, 1) := by decide +kernel
theorem dX5_workFill_89 : decode cX5_workFill 89 = .ok (.iload_n 3, 1) := by decide +kernel
theorem dX5_workFill_90 : decode cX5_workFill 90 = .ok (.invokestatic 308, 3) := by decide +kernel
theorem dX5_workFill_93 : decode cX5_workFill 93 = .ok (.iastore, 1) := by decide +kernel
theorem dX5_workFill_94 : decode cX5_workFill 94 = .ok (.iinc 4 1, 3) := by decide +kernel
theorem dX5_workFill_97 : decode cX5_workFill 97 = .ok (.goto (-70), 3) := by decide +kernel
theorem dX5_workFill_100 : decode cX5_workFill 100 = .ok (.return_, 1) := by decide +kernel
theorem dX5_where_0 : decode cX5_where 0 = .ok (.aload_n 0, 1) := by decide +kernel
theorem dX5_where_1 : decode cX5_where 1 = .ok (.getfield 107, 3) := by decide +kernel
theorem dX5_where_4 : decode cX5_where 4 = .ok (.ireturn, 1) := by decide +kernel
theorem dX5_value_0 : decode cX5_value 0 = .ok (.iload_n 1, 1) := by decide +kernel
theorem dX5_value_1 : decode cX5_value 1 = .ok (.invokestatic 115, 3) := by decide +kernel
theorem dX5_value_4 : decode cX5_value 4 = .ok (.ifCond .eq 12, 3) := by decide +kernel
theorem dX5_value_7 : decode cX5_value 7 = .ok (.aload_n 0, 1) := by decide +kernel
theorem dX5_value_8 : decode cX5_value 8 = .ok (.getfield 72, 3) := by decide +kernel
theorem dX5_value_11 : decode cX5_value 11 = .ok (.iload_n 1, 1) := by decide +kernel
theorem dX5_value_12 : decode cX5_value 12 = .ok (.iaload, 1) := by decide +kernel
theorem dX5_value_13 : decode cX5_value 13 = .ok (.goto 4, 3) := by decide +kernel
theorem dX5_value_16 : decode cX5_value 16 = .ok (.iconst 0, 1) := by decide +kernel
theorem dX5_value_17 : decode cX5_value 17 = .ok (.ireturn, 1) := by decide +kernel
theorem dX5_place_0 : decode cX5_place 0 = .ok (.iload_n 1, 1) := by decide +kernel
theorem dX5_place_1 : decode cX5_place 1 = .ok (.invokestatic 115, 3) := by decide +kernel
theorem dX5_place_4 : decode cX5_place 4 = .ok (.ifCond .eq 12, 3) := by decide +kernel
theorem dX5_place_7 : decode cX5_place 7 = .ok (.aload_n 0, 1) := by decide +kernel
theorem dX5_place_8 : decode cX5_place 8 = .ok (.getfield 75, 3) := by decide +kernel
theorem dX5_place_11 : decode cX5_place 11 = .ok (.iload_n 1, 1) := by decide +kernel
theorem dX5_place_12 : decode cX5_place 12 = .ok (.iaload, 1) := by decide +kernel
theorem dX5_place_13 : decode cX5_place 13 = .ok (.goto 4, 3) := by decide +kernel
theorem dX5_place_16 : decode cX5_place 16 = .ok (.iconst (-1), 1) := by decide +kernel
theorem dX5_place_17 : decode cX5_place 17 = .ok (.istore_n 3, 1) := by decide +kernel
theorem dX5_place_18 : decode cX5_place 18 = .ok (.iload_n 3, 1) := by decide +kernel
theorem dX5_place_19 : decode cX5_place 19 = .ok (.ifCond .lt 31, 3) := by decide +kernel
theorem dX5_place_22 : decode cX5_place 22 = .ok (.iload_n 2, 1) := by decide +kernel
theorem dX5_place_23 : decode cX5_place 23 = .ok (.ifCond .lt 27, 3) := by decide +kernel
theorem dX5_place_26 : decode cX5_place 26 = .ok (.iload_n 2, 1) := by decide +kernel
theorem dX5_place_27 : decode cX5_place 27 = .ok (.aload_n 0, 1) := by decide +kernel
theorem dX5_place_28 : decode cX5_place 28 = .ok (.getfield 81, 3) := by decide +kernel
theorem dX5_place_31 : decode cX5_place 31 = .ok (.iload_n 3, 1) := by decide +kernel
theorem dX5_place_32 : decode cX5_place 32 = .ok (.iaload, 1) := by decide +kernel
theorem dX5_place_33 : decode cX5_place 33 = .ok (.if_icmp .ge 17, 3) := by decide +kernel
theorem dX5_place_36 : decode cX5_place 36 = .ok (.aload_n 0, 1) := by decide +kernel
theorem dX5_place_37 : decode cX5_place 37 = .ok (.getfield 84, 3) := by decide +kernel
theorem dX5_place_40 : decode cX5_place 40 = .ok (.bipush 12, 2) := by decide +kernel
theorem dX5_place_42 : decode cX5_place 42 = .ok (.iload_n 3, 1) := by decide +kernel
theorem dX5_place_43 : decode cX5_place 43 = .ok (.imul, 1) := by decide +kernel
theorem dX5_place_44 : decode cX5_place 44 = .ok (.iload_n 2, 1) := by decide +kernel
theorem dX5_place_45 : decode cX5_place 45 = .ok (.iadd, 1) := by decide +kernel
theorem dX5_place_46 : decode cX5_place 46 = .ok (.iaload, 1) := by decide +kernel
theorem dX5_place_47 : decode cX5_place 47 = .ok (.goto 4, 3) := by decide +kernel
theorem dX5_place_50 : decode cX5_place 50 = .ok (.iconst 0, 1) := by decide +kernel
theorem dX5_place_51 : decode cX5_place 51 = .ok (.ireturn, 1) := by decide +kernel
theorem dX5_length_0 : decode cX5_length 0 = .ok (.iload_n 1, 1) := by decide +kernel
theorem dX5_length_1 : decode cX5_length 1 = .ok (.invokestatic 115, 3) := by decide +kernel
theorem dX5_length_4 : decode cX5_length 4 = .ok (.ifCond .ne 8, 3) := by decide +kernel
theorem dX5_length_7 : decode cX5_length 7 = .ok (.bipush (-2), 2) := by decide +kernel
theorem dX5_length_9 : decode cX5_length 9 = .ok (.goto 27, 3) := by decide +kernel
theorem dX5_length_12 : decode cX5_length 12 = .ok (.aload_n 0, 1) := by decide +kernel
theorem dX5_length_13 : decode cX5_length 13 = .ok (.getfield 75, 3) := by decide +kernel
theorem dX5_length_16 : decode cX5_length 16 = .ok (.iload_n 1, 1) := by decide +kernel
theorem dX5_length_17 : decode cX5_length 17 = .ok (.iaload, 1) := by decide +kernel
theorem dX5_length_18 : decode cX5_length 18 = .ok (.ifCond .ge 7, 3) := by decide +kernel
theorem dX5_length_21 : decode cX5_length 21 = .ok (.iconst (-1), 1) := by decide +kernel
theorem dX5_length_22 : decode cX5_length 22 = .ok (.goto 14, 3) := by decide +kernel
theorem dX5_length_25 : decode cX5_length 25 = .ok (.aload_n 0, 1) := by decide +kernel
theorem dX5_length_26 : decode cX5_length 26 = .ok (.getfield 81, 3) := by decide +kernel
theorem dX5_length_29 : decode cX5_length 29 = .ok (.aload_n 0, 1) := by decide +kernel
theorem dX5_length_30 : decode cX5_length 30 = .ok (.getfield 75, 3) := by decide +kernel
theorem dX5_length_33 : decode cX5_length 33 = .ok (.iload_n 1, 1) := by decide +kernel
theorem dX5_length_34 : decode cX5_length 34 = .ok (.iaload, 1) := by decide +kernel
theorem dX5_length_35 : decode cX5_length 35 = .ok (.iaload, 1) := by decide +kernel
theorem dX5_length_36 : decode cX5_length 36 = .ok (.ireturn, 1) := by decide +kernel
theorem dX5_same_0 : decode cX5_same 0 = .ok (.iload_n 1, 1) := by decide +kernel
theorem dX5_same_1 : decode cX5_same 1 = .ok (.invokestatic 115, 3) := by decide +kernel
theorem dX5_same_4 : decode cX5_same 4 = .ok (.ifCond .eq 10, 3) := by decide +kernel
theorem dX5_same_7 : decode cX5_same 7 = .ok (.iload_n 2, 1) := by decide +kernel
theorem dX5_same_8 : decode cX5_same 8 = .ok (.invokestatic 115, 3) := by decide +kernel
theorem dX5_same_11 : decode cX5_same 11 = .ok (.ifCond .ne 6, 3) := by decide +kernel
theorem dX5_same_14 : decode cX5_same 14 = .ok (.bipush (-2), 2) := by decide +kernel
theorem dX5_same_16 : decode cX5_same 16 = .ok (.ireturn, 1) := by decide +kernel
theorem dX5_same_17 : decode cX5_same 17 = .ok (.aload_n 0, 1) := by decide +kernel
theorem dX5_same_18 : decode cX5_same 18 = .ok (.getfield 99, 3) := by decide +kernel
theorem dX5_same_21 : decode cX5_same 21 = .ok (.ifCond .ne 8, 3) := by decide +kernel
theorem dX5_same_24 : decode cX5_same 24 = .ok (.bipush (-3), 2) := by decide +kernel
theorem dX5_same_26 : decode cX5_same 26 = .ok (.goto 23, 3) := by decide +kernel
theorem dX5_same_29 : decode cX5_same 29 = .ok (.aload_n 0, 1) := by decide +kernel
theorem dX5_same_30 : decode cX5_same 30 = .ok (.getfield 75, 3) := by decide +kernel
theorem dX5_same_33 : decode cX5_same 33 = .ok (.iload_n 1, 1) := by decide +kernel
theorem dX5_same_34 : decode cX5_same 34 = .ok (.iaload, 1) := by decide +kernel
theorem dX5_same_35 : decode cX5_same 35 = .ok (.aload_n 0, 1) := by decide +kernel
theorem dX5_same_36 : decode cX5_same 36 = .ok (.getfield 75, 3) := by decide +kernel
theorem dX5_same_39 : decode cX5_same 39 = .ok (.iload_n 2, 1) := by decide +kernel
theorem dX5_same_40 : decode cX5_same 40 = .ok (.iaload, 1) := by decide +kernel
theorem dX5_same_41 : decode cX5_same 41 = .ok (.if_icmp .ne 7, 3) := by decide +kernel
theorem dX5_same_44 : decode cX5_same 44 = .ok (.iconst 1, 1) := by decide +kernel
theorem dX5_same_45 : decode cX5_same 45 = .ok (.goto 4, 3) := by decide +kernel
theorem dX5_same_48 : decode cX5_same 48 = .ok (.iconst 0, 1) := by decide +kernel
theorem dX5_same_49 : decode cX5_same 49 = .ok (.ireturn, 1) := by decide +kernel
theorem dX5_isSo_0 : decode cX5_isSo 0 = .ok (.aload_n 0, 1) := by decide +kernel
theorem dX5_isSo_1 : decode cX5_isSo 1 = .ok (.getfield 75, 3) := by decide +kernel
theorem dX5_isSo_4 : decode cX5_isSo 4 = .ok (.iload_n 1, 1) := by decide +kernel
theorem dX5_isSo_5 : decode cX5_isSo 5 = .ok (.iaload, 1) := by decide +kernel
theorem dX5_isSo_6 : decode cX5_isSo 6 = .ok (.istore_n 2, 1) := by decide +kernel
theorem dX5_isSo_7 : decode cX5_isSo 7 = .ok (.iload_n 2, 1) := by decide +kernel
theorem dX5_isSo_8 : decode cX5_isSo 8 = .ok (.ifCond .ge 10, 3) := by decide +kernel
theorem dX5_isSo_11 : decode cX5_isSo 11 = .ok (.aload_n 0, 1) := by decide +kernel
theorem dX5_isSo_12 : decode cX5_isSo 12 = .ok (.getfield 45, 3) := by decide +kernel
theorem dX5_isSo_15 : decode cX5_isSo 15 = .ok (.iload_n 1, 1) := by decide +kernel
theorem dX5_isSo_16 : decode cX5_isSo 16 = .ok (.baload, 1) := by decide +kernel
theorem dX5_isSo_17 : decode cX5_isSo 17 = .ok (.ireturn, 1) := by decide +kernel
theorem dX5_isSo_18 : decode cX5_isSo 18 = .ok (.aload_n 0, 1) := by decide +kernel
theorem dX5_isSo_19 : decode cX5_isSo 19 = .ok (.iload_n 1, 1) := by decide +kernel
theorem dX5_isSo_20 : decode cX5_isSo 20 = .ok (.iload_n 2, 1) := by decide +kernel
theorem dX5_isSo_21 : decode cX5_isSo 21 = .ok (.invokevirtual 169, 3) := by decide +kernel
theorem dX5_isSo_24 : decode cX5_isSo 24 = .ok (.ifCond .eq 60, 3) := by decide +kernel
theorem dX5_isSo_27 : decode cX5_isSo 27 = .ok (.aload_n 0, 1) := by decide +kernel
theorem dX5_isSo_28 : decode cX5_isSo 28 = .ok (.getfield 51, 3) := by decide +kernel
theorem dX5_isSo_31 : decode cX5_isSo 31 = .ok (.iload_n 2, 1) := by decide +kernel
theorem dX5_isSo_32 : decode cX5_isSo 32 = .ok (.iaload, 1) := by decide +kernel
theorem dX5_isSo_33 : decode cX5_isSo 33 = .ok (.aload_n 0, 1) := by decide +kernel
theorem dX5_isSo_34 : decode cX5_isSo 34 = .ok (.getfield 78, 3) := by decide +kernel
theorem dX5_isSo_37 : decode cX5_isSo 37 = .ok (.iload_n 2, 1) := by decide +kernel
theorem dX5_isSo_38 : decode cX5_isSo 38 = .ok (.iaload, 1) := by decide +kernel
theorem dX5_isSo_39 : decode cX5_isSo 39 = .ok (.ishr, 1) := by decide +kernel
theorem dX5_isSo_40 : decode cX5_isSo 40 = .ok (.iconst 1, 1) := by decide +kernel
theorem dX5_isSo_41 : decode cX5_isSo 41 = .ok (.iand, 1) := by decide +kernel
theorem dX5_isSo_42 : decode cX5_isSo 42 = .ok (.iconst 1, 1) := by decide +kernel
theorem dX5_isSo_43 : decode cX5_isSo 43 = .ok (.if_icmp .ne 41, 3) := by decide +kernel
theorem dX5_isSo_46 : decode cX5_isSo 46 = .ok (.aload_n 0, 1) := by decide +kernel
theorem dX5_isSo_47 : decode cX5_isSo 47 = .ok (.getfield 81, 3) := by decide +kernel
theorem dX5_isSo_50 : decode cX5_isSo 50 = .ok (.iload_n 2, 1) := by decide +kernel
theorem dX5_isSo_51 : decode cX5_isSo 51 = .ok (.iaload, 1) := by decide +kernel
theorem dX5_isSo_52 : decode cX5_isSo 52 = .ok (.i2l, 1) := by decide +kernel
theorem dX5_isSo_53 : decode cX5_isSo 53 = .ok (.aload_n 0, 1) := by decide +kernel
theorem dX5_isSo_54 : decode cX5_isSo 54 = .ok (.getfield 54, 3) := by decide +kernel
theorem dX5_isSo_57 : decode cX5_isSo 57 = .ok (.iload_n 2, 1) := by decide +kernel
theorem dX5_isSo_58 : decode cX5_isSo 58 = .ok (.laload, 1) := by decide +kernel
theorem dX5_isSo_59 : decode cX5_isSo 59 = .ok (.lcmp, 1) := by decide +kernel
theorem dX5_isSo_60 : decode cX5_isSo 60 = .ok (.ifCond .lt 24, 3) := by decide +kernel
theorem dX5_isSo_63 : decode cX5_isSo 63 = .ok (.aload_n 0, 1) := by decide +kernel
theorem dX5_isSo_64 : decode cX5_isSo 64 = .ok (.getfield 81, 3) := by decide +kernel
theorem dX5_isSo_67 : decode cX5_isSo 67 = .ok (.iload_n 2, 1) := by decide +kernel
theorem dX5_isSo_68 : decode cX5_isSo 68 = .ok (.iaload, 1) := by decide +kernel
theorem dX5_isSo_69 : decode cX5_isSo 69 = .ok (.i2l, 1) := by decide +kernel
theorem dX5_isSo_70 : decode cX5_isSo 70 = .ok (.aload_n 0, 1) := by decide +kernel
theorem dX5_isSo_71 : decode cX5_isSo 71 = .ok (.getfield 57, 3) := by decide +kernel
theorem dX5_isSo_74 : decode cX5_isSo 74 = .ok (.iload_n 2, 1) := by decide +kernel
theorem dX5_isSo_75 : decode cX5_isSo 75 = .ok (.laload, 1) := by decide +kernel
theorem dX5_isSo_76 : decode cX5_isSo 76 = .ok (.lcmp, 1) := by decide +kernel
theorem dX5_isSo_77 : decode cX5_isSo 77 = .ok (.ifCond .gt 7, 3) := by decide +kernel
theorem dX5_isSo_80 : decode cX5_isSo 80 = .ok (.iconst 1, 1) := by decide +kernel
theorem dX5_isSo_81 : decode cX5_isSo 81 = .ok (.goto 4, 3) := by decide +kernel
theorem dX5_isSo_84 : decode cX5_isSo 84 = .ok (.iconst 0, 1) := by decide +kernel
theorem dX5_isSo_85 : decode cX5_isSo 85 = .ok (.istore_n 3, 1) := by decide +kernel
theorem dX5_isSo_86 : decode cX5_isSo 86 = .ok (.iconst 0, 1) := by decide +kernel
theorem dX5_isSo_87 : decode cX5_isSo 87 = .ok (.istore 4, 2) := by decide +kernel
theorem dX5_isSo_89 : decode cX5_isSo 89 = .ok (.iload 4, 2) := by decide +kernel
theorem dX5_isSo_91 : decode cX5_isSo 91 = .ok (.aload_n 0, 1) := by decide +kernel
theorem dX5_isSo_92 : decode cX5_isSo 92 = .ok (.getfield 81, 3) := by decide +kernel
theorem dX5_isSo_95 : decode cX5_isSo 95 = .ok (.iload_n 2, 1) := by decide +kernel
theorem dX5_isSo_96 : decode cX5_isSo 96 = .ok (.iaload, 1) := by decide +kernel
theorem dX5_isSo_97 : decode cX5_isSo 97 = .ok (.if_icmp .ge 71, 3) := by decide +kernel
theorem dX5_isSo_100 : decode cX5_isSo 100 = .ok (.iload_n 3, 1) := by decide +kernel
theorem dX5_isSo_101 : decode cX5_isSo 101 = .ok (.ifCond .eq 67, 3) := by decide +kernel
theorem dX5_isSo_104 : decode cX5_isSo 104 = .ok (.aload_n 0, 1) := by decide +kernel
theorem dX5_isSo_105 : decode cX5_isSo 105 = .ok (.getfield 84, 3) := by decide +kernel
theorem dX5_isSo_108 : decode cX5_isSo 108 = .ok (.bipush 12, 2) := by decide +kernel
theorem dX5_isSo_110 : decode cX5_isSo 110 = .ok (.iload_n 2, 1) := by decide +kernel
theorem dX5_isSo_111 : decode cX5_isSo 111 = .ok (.imul, 1) := by decide +kernel
theorem dX5_isSo_112 : decode cX5_isSo 112 = .ok (.iload 4, 2) := by decide +kernel
theorem dX5_isSo_114 : decode cX5_isSo 114 = .ok (.iadd, 1) := by decide +kernel
theorem dX5_isSo_115 : decode cX5_isSo 115 = .ok (.iaload, 1) := by decide +kernel
theorem dX5_isSo_116 : decode cX5_isSo 116 = .ok (.istore 5, 2) := by decide +kernel
theorem dX5_isSo_118 : decode cX5_isSo 118 = .ok (.iload 5, 2) := by decide +kernel
theorem dX5_isSo_120 : decode cX5_isSo 120 = .ok (.i2l, 1) := by decide +kernel
theorem dX5_isSo_121 : decode cX5_isSo 121 = .ok (.aload_n 0, 1) := by decide +kernel
theorem dX5_isSo_122 : decode cX5_isSo 122 = .ok (.getfield 60, 3) := by decide +kernel
theorem dX5_isSo_125 : decode cX5_isSo 125 = .ok (.bipush 12, 2) := by decide +kernel
theorem dX5_isSo_127 : decode cX5_isSo 127 = .ok (.iload_n 2, 1) := by decide +kernel
theorem dX5_isSo_128 : decode cX5_isSo 128 = .ok (.imul, 1) := by decide +kernel
theorem dX5_isSo_129 : decode cX5_isSo 129 = .ok (.iload 4, 2) := by decide +kernel
theorem dX5_isSo_131 : decode cX5_isSo 131 = .ok (.iadd, 1) := by decide +kernel
theorem dX5_isSo_132 : decode cX5_isSo 132 = .ok (.laload, 1) := by decide +kernel
theorem dX5_isSo_133 : decode cX5_isSo 133 = .ok (.lcmp, 1) := by decide +kernel
theorem dX5_isSo_134 : decode cX5_isSo 134 = .ok (.ifCond .lt 26, 3) := by decide +kernel
theorem dX5_isSo_137 : decode cX5_isSo 137 = .ok (.iload 5, 2) := by decide +kernel
theorem dX5_isSo_139 : decode cX5_isSo 139 = .ok (.i2l, 1) := by decide +kernel
theorem dX5_isSo_140 : decode cX5_isSo 140 = .ok (.aload_n 0, 1) := by decide +kernel
theorem dX5_isSo_141 : decode cX5_isSo 141 = .ok (.getfield 63, 3) := by decide +kernel
theorem dX5_isSo_144 : decode cX5_isSo 144 = .ok (.bipush 12, 2) := by decide +kernel
theorem dX5_isSo_146 : decode cX5_isSo 146 = .ok (.iload_n 2, 1) := by decide +kernel
theorem dX5_isSo_147 : decode cX5_isSo 147 = .ok (.imul, 1) := by decide +kernel
theorem dX5_isSo_148 : decode cX5_isSo 148 = .ok (.iload 4, 2) := by decide +kernel
theorem dX5_isSo_150 : decode cX5_isSo 150 = .ok (.iadd, 1) := by decide +kernel
theorem dX5_isSo_151 : decode cX5_isSo 151 = .ok (.laload, 1) := by decide +kernel
theorem dX5_isSo_152 : decode cX5_isSo 152 = .ok (.lcmp, 1) := by decide +kernel
theorem dX5_isSo_153 : decode cX5_isSo 153 = .ok (.ifCond .gt 7, 3) := by decide +kernel
theorem dX5_isSo_156 : decode cX5_isSo 156 = .ok (.iconst 1, 1) := by decide +kernel
theorem dX5_isSo_157 : decode cX5_isSo 157 = .ok (.goto 4, 3) := by decide +kernel
theorem dX5_isSo_160 : decode cX5_isSo 160 = .ok (.iconst 0, 1) := by decide +kernel
theorem dX5_isSo_161 : decode cX5_isSo 161 = .ok (.istore_n 3, 1) := by decide +kernel
theorem dX5_isSo_162 : decode cX5_isSo 162 = .ok (.iinc 4 1, 3) := by decide +kernel
theorem dX5_isSo_165 : decode cX5_isSo 165 = .ok (.goto (-76), 3) := by decide +kernel
theorem dX5_isSo_168 : decode cX5_isSo 168 = .ok (.iload_n 3, 1) := by decide +kernel
theorem dX5_isSo_169 : decode cX5_isSo 169 = .ok (.ireturn, 1) := by decide +kernel
theorem dX5_holds_0 : decode cX5_holds 0 = .ok (.aload_n 0, 1) := by decide +kernel
theorem dX5_holds_1 : decode cX5_holds 1 = .ok (.lload_n 1, 1) := by decide +kernel
theorem dX5_holds_2 : decode cX5_holds 2 = .ok (.invokevirtual 318, 3) := by decide +kernel
theorem dX5_holds_5 : decode cX5_holds 5 = .ok (.istore_n 3, 1) := by decide +kernel
theorem dX5_holds_6 : decode cX5_holds 6 = .ok (.aload_n 0, 1) := by decide +kernel
theorem dX5_holds_7 : decode cX5_holds 7 = .ok (.invokevirtual 253, 3) := by decide +kernel
theorem dX5_holds_10 : decode cX5_holds 10 = .ok (.iload_n 3, 1) := by decide +kernel
theorem dX5_holds_11 : decode cX5_holds 11 = .ok (.ifCond .le 38, 3) := by decide +kernel
theorem dX5_holds_14 : decode cX5_holds 14 = .ok (.aload_n 0, 1) := by decide +kernel
theorem dX5_holds_15 : decode cX5_holds 15 = .ok (.getfield 66, 3) := by decide +kernel
theorem dX5_holds_18 : decode cX5_holds 18 = .ok (.aload_n 0, 1) := by decide +kernel
theorem dX5_holds_19 : decode cX5_holds 19 = .ok (.getfield 107, 3) := by decide +kernel
theorem dX5_holds_22 : decode cX5_holds 22 = .ok (.baload, 1) := by decide +kernel
theorem dX5_holds_23 : decode cX5_holds 23 = .ok (.ifCond .eq 24, 3) := by decide +kernel
theorem dX5_holds_26 : decode cX5_holds 26 = .ok (.aload_n 0, 1) := by decide +kernel
theorem dX5_holds_27 : decode cX5_holds 27 = .ok (.getfield 69, 3) := by decide +kernel
theorem dX5_holds_30 : decode cX5_holds 30 = .ok (.aload_n 0, 1) := by decide +kernel
theorem dX5_holds_31 : decode cX5_holds 31 = .ok (.getfield 107, 3) := by decide +kernel
theorem dX5_holds_34 : decode cX5_holds 34 = .ok (.iaload, 1) := by decide +kernel
theorem dX5_holds_35 : decode cX5_holds 35 = .ok (.iload_n 3, 1) := by decide +kernel
theorem dX5_holds_36 : decode cX5_holds 36 = .ok (.ishr, 1) := by decide +kernel
theorem dX5_holds_37 : decode cX5_holds 37 = .ok (.iconst 1, 1) := by decide +kernel
theorem dX5_holds_38 : decode cX5_holds 38 = .ok (.iand, 1) := by decide +kernel
theorem dX5_holds_39 : decode cX5_holds 39 = .ok (.iconst 1, 1) := by decide +kernel
theorem dX5_holds_40 : decode cX5_holds 40 = .ok (.if_icmp .ne 7, 3) := by decide +kernel
theorem dX5_holds_43 : decode cX5_holds 43 = .ok (.iconst 1, 1) := by decide +kernel
theorem dX5_holds_44 : decode cX5_holds 44 = .ok (.goto 4, 3) := by decide +kernel
theorem dX5_holds_47 : decode cX5_holds 47 = .ok (.iconst 0, 1) := by decide +kernel
theorem dX5_holds_48 : decode cX5_holds 48 = .ok (.ireturn, 1) := by decide +kernel
theorem dX5_holds_49 : decode cX5_holds 49 = .ok (.aload_n 0, 1) := by decide +kernel
theorem dX5_holds_50 : decode cX5_holds 50 = .ok (.getfield 32, 3) := by decide +kernel
theorem dX5_holds_53 : decode cX5_holds 53 = .ok (.iconst 0, 1) := by decide +kernel
theorem dX5_holds_54 : decode cX5_holds 54 = .ok (.baload, 1) := by decide +kernel
theorem dX5_holds_55 : decode cX5_holds 55 = .ok (.istore 4, 2) := by decide +kernel
theorem dX5_holds_57 : decode cX5_holds 57 = .ok (.iconst 0, 1) := by decide +kernel
theorem dX5_holds_58 : decode cX5_holds 58 = .ok (.istore 5, 2) := by decide +kernel
theorem dX5_holds_60 : decode cX5_holds 60 = .ok (.iload 5, 2) := by decide +kernel
theorem dX5_holds_62 : decode cX5_holds 62 = .ok (.bipush 6, 2) := by decide +kernel
theorem dX5_holds_64 : decode cX5_holds 64 = .ok (.if_icmp .ge 68, 3) := by decide +kernel
theorem dX5_holds_67 : decode cX5_holds 67 = .ok (.iload 4, 2) := by decide +kernel
theorem dX5_holds_69 : decode cX5_holds 69 = .ok (.ifCond .eq 63, 3) := by decide +kernel
theorem dX5_holds_72 : decode cX5_holds 72 = .ok (.aload_n 0, 1) := by decide +kernel
theorem dX5_holds_73 : decode cX5_holds 73 = .ok (.getfield 72, 3) := by decide +kernel
theorem dX5_holds_76 : decode cX5_holds 76 = .ok (.iload 5, 2) := by decide +kernel
theorem dX5_holds_78 : decode cX5_holds 78 = .ok (.iaload, 1) := by decide +kernel
theorem dX5_holds_79 : decode cX5_holds 79 = .ok (.i2l, 1) := by decide +kernel
theorem dX5_holds_80 : decode cX5_holds 80 = .ok (.aload_n 0, 1) := by decide +kernel
theorem dX5_holds_81 : decode cX5_holds 81 = .ok (.getfield 35, 3) := by decide +kernel
theorem dX5_holds_84 : decode cX5_holds 84 = .ok (.iload 5, 2) := by decide +kernel
theorem dX5_holds_86 : decode cX5_holds 86 = .ok (.laload, 1) := by decide +kernel
theorem dX5_holds_87 : decode cX5_holds 87 = .ok (.lcmp, 1) := by decide +kernel
theorem dX5_holds_88 : decode cX5_holds 88 = .ok (.ifCond .lt 35, 3) := by decide +kernel
theorem dX5_holds_91 : decode cX5_holds 91 = .ok (.aload_n 0, 1) := by decide +kernel
theorem dX5_holds_92 : decode cX5_holds 92 = .ok (.getfield 72, 3) := by decide +kernel
theorem dX5_holds_95 : decode cX5_holds 95 = .ok (.iload 5, 2) := by decide +kernel
theorem dX5_holds_97 : decode cX5_holds 97 = .ok (.iaload, 1) := by decide +kernel
theorem dX5_holds_98 : decode cX5_holds 98 = .ok (.i2l, 1) := by decide +kernel
theorem dX5_holds_99 : decode cX5_holds 99 = .ok (.aload_n 0, 1) := by decide +kernel
theorem dX5_holds_100 : decode cX5_holds 100 = .ok (.getfield 39, 3) := by decide +kernel
theorem dX5_holds_103 : decode cX5_holds 103 = .ok (.iload 5, 2) := by decide +kernel
theorem dX5_holds_105 : decode cX5_holds 105 = .ok (.laload, 1) := by decide +kernel
theorem dX5_holds_106 : decode cX5_holds 106 = .ok (.lcmp, 1) := by decide +kernel
theorem dX5_holds_107 : decode cX5_holds 107 = .ok (.ifCond .gt 16, 3) := by decide +kernel
theorem dX5_holds_110 : decode cX5_holds 110 = .ok (.aload_n 0, 1) := by decide +kernel
theorem dX5_holds_111 : decode cX5_holds 111 = .ok (.iload 5, 2) := by decide +kernel
theorem dX5_holds_113 : decode cX5_holds 113 = .ok (.invokevirtual 321, 3) := by decide +kernel
theorem dX5_holds_116 : decode cX5_holds 116 = .ok (.ifCond .eq 7, 3) := by decide +kernel
theorem dX5_holds_119 : decode cX5_holds 119 = .ok (.iconst 1, 1) := by decide +kernel
theorem dX5_holds_120 : decode cX5_holds 120 = .ok (.goto 4, 3) := by decide +kernel
theorem dX5_holds_123 : decode cX5_holds 123 = .ok (.iconst 0, 1) := by decide +kernel
theorem dX5_holds_124 : decode cX5_holds 124 = .ok (.istore 4, 2) := by decide +kernel
theorem dX5_holds_126 : decode cX5_holds 126 = .ok (.iinc 5 1, 3) := by decide +kernel
theorem dX5_holds_129 : decode cX5_holds 129 = .ok (.goto (-69), 3) := by decide +kernel
theorem dX5_holds_132 : decode cX5_holds 132 = .ok (.iload 4, 2) := by decide +kernel
theorem dX5_holds_134 : decode cX5_holds 134 = .ok (.ifCond .eq 7, 3) := by decide +kernel
theorem dX5_holds_137 : decode cX5_holds 137 = .ok (.iconst 1, 1) := by decide +kernel
theorem dX5_holds_138 : decode cX5_holds 138 = .ok (.goto 4, 3) := by decide +kernel
theorem dX5_holds_141 : decode cX5_holds 141 = .ok (.iconst 0, 1) := by decide +kernel
theorem dX5_holds_142 : decode cX5_holds 142 = .ok (.ireturn, 1) := by decide +kernel
theorem dX5_told_0 : decode cX5_told 0 = .ok (.iload_n 1, 1) := by decide +kernel
theorem dX5_told_1 : decode cX5_told 1 = .ok (.ifCond .lt 8, 3) := by decide +kernel
theorem dX5_told_4 : decode cX5_told 4 = .ok (.iload_n 1, 1) := by decide +kernel
theorem dX5_told_5 : decode cX5_told 5 = .ok (.iconst 4, 1) := by decide +kernel
theorem dX5_told_6 : decode cX5_told 6 = .ok (.if_icmp .le 6, 3) := by decide +kernel
theorem dX5_told_9 : decode cX5_told 9 = .ok (.bipush (-2), 2) := by decide +kernel
theorem dX5_told_11 : decode cX5_told 11 = .ok (.ireturn, 1) := by decide +kernel
theorem dX5_told_12 : decode cX5_told 12 = .ok (.aload_n 0, 1) := by decide +kernel
theorem dX5_told_13 : decode cX5_told 13 = .ok (.invokevirtual 253, 3) := by decide +kernel
theorem dX5_told_16 : decode cX5_told 16 = .ok (.iconst 0, 1) := by decide +kernel
theorem dX5_told_17 : decode cX5_told 17 = .ok (.istore_n 2, 1) := by decide +kernel
theorem dX5_told_18 : decode cX5_told 18 = .ok (.iconst 0, 1) := by decide +kernel
theorem dX5_told_19 : decode cX5_told 19 = .ok (.istore_n 3, 1) := by decide +kernel
theorem dX5_told_20 : decode cX5_told 20 = .ok (.iload_n 3, 1) := by decide +kernel
theorem dX5_told_21 : decode cX5_told 21 = .ok (.aload_n 0, 1) := by decide +kernel
theorem dX5_told_22 : decode cX5_told 22 = .ok (.getfield 110, 3) := by decide +kernel
theorem dX5_told_25 : decode cX5_told 25 = .ok (.if_icmp .ge 101, 3) := by decide +kernel
theorem dX5_told_28 : decode cX5_told 28 = .ok (.iload_n 2, 1) := by decide +kernel
theorem dX5_told_29 : decode cX5_told 29 = .ok (.iload_n 1, 1) := by decide +kernel
theorem dX5_told_30 : decode cX5_told 30 = .ok (.iconst 1, 1) := by decide +kernel
theorem dX5_told_31 : decode cX5_told 31 = .ok (.if_icmp .ne 20, 3) := by decide +kernel
theorem dX5_told_34 : decode cX5_told 34 = .ok (.aload_n 0, 1) := by decide +kernel
theorem dX5_told_35 : decode cX5_told 35 = .ok (.getfield 28, 3) := by decide +kernel
theorem dX5_told_38 : decode cX5_told 38 = .ok (.iload_n 3, 1) := by decide +kernel
theorem dX5_told_39 : decode cX5_told 39 = .ok (.baload, 1) := by decide +kernel
theorem dX5_told_40 : decode cX5_told 40 = .ok (.ifCond .eq 7, 3) := by decide +kernel
theorem dX5_told_43 : decode cX5_told 43 = .ok (.iconst 0, 1) := by decide +kernel
theorem dX5_told_44 : decode cX5_told 44 = .ok (.goto 74, 3) := by decide +kernel
theorem dX5_told_47 : decode cX5_told 47 = .ok (.iconst 1, 1) := by decide +kernel
theorem dX5_told_48 : decode cX5_told 48 = .ok (.goto 70, 3) := by decide +kernel
theorem dX5_told_51 : decode cX5_told 51 = .ok (.iload_n 1, 1) := by decide +kernel
theorem dX5_told_52 : decode cX5_told 52 = .ok (.iconst 2, 1) := by decide +kernel
theorem dX5_told_53 : decode cX5_told 53 = .ok (.if_icmp .ne 20, 3) := by decide +kernel
theorem dX5_told_56 : decode cX5_told 56 = .ok (.aload_n 0, 1) := by decide +kernel
theorem dX5_told_57 : decode cX5_told 57 = .ok (.getfield 66, 3) := by decide +kernel
theorem dX5_told_60 : decode cX5_told 60 = .ok (.iload_n 3, 1) := by decide +kernel
theorem dX5_told_61 : decode cX5_told 61 = .ok (.baload, 1) := by decide +kernel
theorem dX5_told_62 : decode cX5_told 62 = .ok (.ifCond .eq 7, 3) := by decide +kernel
theorem dX5_told_65 : decode cX5_told 65 = .ok (.iconst 1, 1) := by decide +kernel
theorem dX5_told_66 : decode cX5_told 66 = .ok (.goto 52, 3) := by decide +kernel
theorem dX5_told_69 : decode cX5_told 69 = .ok (.iconst 0, 1) := by decide +kernel
theorem dX5_told_70 : decode cX5_told 70 = .ok (.goto 48, 3) := by decide +kernel
theorem dX5_told_73 : decode cX5_told 73 = .ok (.iload_n 1, 1) := by decide +kernel
theorem dX5_told_74 : decode cX5_told 74 = .ok (.iconst 3, 1) := by decide +kernel
theorem dX5_told_75 : decode cX5_told 75 = .ok (.if_icmp .ne 20, 3) := by decide +kernel
theorem dX5_told_78 : decode cX5_told 78 = .ok (.aload_n 0, 1) := by decide +kernel
theorem dX5_told_79 : decode cX5_told 79 = .ok (.getfield 69, 3) := by decide +kernel
theorem dX5_told_82 : decode cX5_told 82 = .ok (.iload_n 3, 1) := by decide +kernel
theorem dX5_told_83 : decode cX5_told 83 = .ok (.iaload, 1) := by decide +kernel
theorem dX5_told_84 : decode cX5_told 84 = .ok (.ifCond .eq 7, 3) := by decide +kernel
theorem dX5_told_87 : decode cX5_told 87 = .ok (.iconst 1, 1) := by decide +kernel
theorem dX5_told_88 : decode cX5_told 88 = .ok (.goto 30, 3) := by decide +kernel
theorem dX5_told_91 : decode cX5_told 91 = .ok (.iconst 0, 1) := by decide +kernel
theorem dX5_told_92 : decode cX5_told 92 = .ok (.goto 26, 3) := by decide +kernel
theorem dX5_told_95 : decode cX5_told 95 = .ok (.aload_n 0, 1) := by decide +kernel
theorem dX5_told_96 : decode cX5_told 96 = .ok (.getfield 32, 3) := by decide +kernel
theorem dX5_told_99 : decode cX5_told 99 = .ok (.iconst 0, 1) := by decide +kernel
theorem dX5_told_100 : decode cX5_told 100 = .ok (.baload, 1) := by decide +kernel
theorem dX5_told_101 : decode cX5_told 101 = .ok (.ifCond .eq 16, 3) := by decide +kernel
theorem dX5_told_104 : decode cX5_told 104 = .ok (.aload_n 0, 1) := by decide +kernel
theorem dX5_told_105 : decode cX5_told 105 = .ok (.getfield 48, 3) := by decide +kernel
theorem dX5_told_108 : decode cX5_told 108 = .ok (.iload_n 3, 1) := by decide +kernel
theorem dX5_told_109 : decode cX5_told 109 = .ok (.baload, 1) := by decide +kernel
theorem dX5_told_110 : decode cX5_told 110 = .ok (.ifCond .eq 7, 3) := by decide +kernel
theorem dX5_told_113 : decode cX5_told 113 = .ok (.iconst 1, 1) := by decide +kernel
theorem dX5_told_114 : decode cX5_told 114 = .ok (.goto 4, 3) := by decide +kernel
theorem dX5_told_117 : decode cX5_told 117 = .ok (.iconst 0, 1) := by decide +kernel
theorem dX5_told_118 : decode cX5_told 118 = .ok (.iadd, 1) := by decide +kernel
theorem dX5_told_119 : decode cX5_told 119 = .ok (.istore_n 2, 1) := by decide +kernel
theorem dX5_told_120 : decode cX5_told 120 = .ok (.iinc 3 1, 3) := by decide +kernel
theorem dX5_told_123 : decode cX5_told 123 = .ok (.goto (-103), 3) := by decide +kernel
theorem dX5_told_126 : decode cX5_told 126 = .ok (.iload_n 1, 1) := by decide +kernel
theorem dX5_told_127 : decode cX5_told 127 = .ok (.ifCond .ne 10, 3) := by decide +kernel
theorem dX5_told_130 : decode cX5_told 130 = .ok (.aload_n 0, 1) := by decide +kernel
theorem dX5_told_131 : decode cX5_told 131 = .ok (.getfield 110, 3) := by decide +kernel
theorem dX5_told_134 : decode cX5_told 134 = .ok (.goto 4, 3) := by decide +kernel
theorem dX5_told_137 : decode cX5_told 137 = .ok (.iload_n 2, 1) := by decide +kernel
theorem dX5_told_138 : decode cX5_told 138 = .ok (.ireturn, 1) := by decide +kernel
