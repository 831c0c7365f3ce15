theorem dX5_made_21 : decode cX5_made 21 = .ok (.iconst 1, 1) := by decide +kernel
theorem dX5_made_22 : decode cX5_made 22 = .ok (.goto 4, 3) := by decide +kernel
theorem dX5_made_25 : decode cX5_made 25 = .ok (.iconst 0, 1) := by decide +kernel
theorem dX5_made_26 : decode cX5_made 26 = .ok (.invokevirtual 198, 3) := by decide +kernel
theorem dX5_made_29 : decode cX5_made 29 = .ok (.aload_n 0, 1) := by decide +kernel
theorem dX5_made_30 : decode cX5_made 30 = .ok (.iload_n 1, 1) := by decide +kernel
theorem dX5_made_31 : decode cX5_made 31 = .ok (.bipush 7, 2) := by decide +kernel
theorem dX5_made_33 : decode cX5_made 33 = .ok (.aload_n 0, 1) := by decide +kernel
theorem dX5_made_34 : decode cX5_made 34 = .ok (.getfield 39, 3) := by decide +kernel
theorem dX5_made_37 : decode cX5_made 37 = .ok (.iload_n 2, 1) := by decide +kernel
theorem dX5_made_38 : decode cX5_made 38 = .ok (.laload, 1) := by decide +kernel
theorem dX5_made_39 : decode cX5_made 39 = .ok (.ldc2_w 202, 3) := by decide +kernel
theorem dX5_made_42 : decode cX5_made 42 = .ok (.lcmp, 1) := by decide +kernel
theorem dX5_made_43 : decode cX5_made 43 = .ok (.ifCond .le 7, 3) := by decide +kernel
theorem dX5_made_46 : decode cX5_made 46 = .ok (.iconst 1, 1) := by decide +kernel
theorem dX5_made_47 : decode cX5_made 47 = .ok (.goto 4, 3) := by decide +kernel
theorem dX5_made_50 : decode cX5_made 50 = .ok (.iconst 0, 1) := by decide +kernel
theorem dX5_made_51 : decode cX5_made 51 = .ok (.invokevirtual 198, 3) := by decide +kernel
theorem dX5_made_54 : decode cX5_made 54 = .ok (.aload_n 0, 1) := by decide +kernel
theorem dX5_made_55 : decode cX5_made 55 = .ok (.iload_n 2, 1) := by decide +kernel
theorem dX5_made_56 : decode cX5_made 56 = .ok (.lconst 0, 1) := by decide +kernel
theorem dX5_made_57 : decode cX5_made 57 = .ok (.ldc2_w 202, 3) := by decide +kernel
theorem dX5_made_60 : decode cX5_made 60 = .ok (.invokevirtual 204, 3) := by decide +kernel
theorem dX5_made_63 : decode cX5_made 63 = .ok (.aload_n 0, 1) := by decide +kernel
theorem dX5_made_64 : decode cX5_made 64 = .ok (.getfield 32, 3) := by decide +kernel
theorem dX5_made_67 : decode cX5_made 67 = .ok (.iconst 0, 1) := by decide +kernel
theorem dX5_made_68 : decode cX5_made 68 = .ok (.baload, 1) := by decide +kernel
theorem dX5_made_69 : decode cX5_made 69 = .ok (.ifCond .ne 4, 3) := by decide +kernel
theorem dX5_made_72 : decode cX5_made 72 = .ok (.return_, 1) := by decide +kernel
theorem dX5_made_73 : decode cX5_made 73 = .ok (.aload_n 0, 1) := by decide +kernel
theorem dX5_made_74 : decode cX5_made 74 = .ok (.getfield 48, 3) := by decide +kernel
theorem dX5_made_77 : decode cX5_made 77 = .ok (.iload_n 1, 1) := by decide +kernel
theorem dX5_made_78 : decode cX5_made 78 = .ok (.iconst 1, 1) := by decide +kernel
theorem dX5_made_79 : decode cX5_made 79 = .ok (.bastore, 1) := by decide +kernel
theorem dX5_made_80 : decode cX5_made 80 = .ok (.aload_n 0, 1) := by decide +kernel
theorem dX5_made_81 : decode cX5_made 81 = .ok (.getfield 51, 3) := by decide +kernel
theorem dX5_made_84 : decode cX5_made 84 = .ok (.iload_n 1, 1) := by decide +kernel
theorem dX5_made_85 : decode cX5_made 85 = .ok (.iconst 1, 1) := by decide +kernel
theorem dX5_made_86 : decode cX5_made 86 = .ok (.aload_n 0, 1) := by decide +kernel
theorem dX5_made_87 : decode cX5_made 87 = .ok (.getfield 16, 3) := by decide +kernel
theorem dX5_made_90 : decode cX5_made 90 = .ok (.iload_n 1, 1) := by decide +kernel
theorem dX5_made_91 : decode cX5_made 91 = .ok (.iaload, 1) := by decide +kernel
theorem dX5_made_92 : decode cX5_made 92 = .ok (.ishl, 1) := by decide +kernel
theorem dX5_made_93 : decode cX5_made 93 = .ok (.iastore, 1) := by decide +kernel
theorem dX5_made_94 : decode cX5_made 94 = .ok (.aload_n 0, 1) := by decide +kernel
theorem dX5_made_95 : decode cX5_made 95 = .ok (.getfield 54, 3) := by decide +kernel
theorem dX5_made_98 : decode cX5_made 98 = .ok (.iload_n 1, 1) := by decide +kernel
theorem dX5_made_99 : decode cX5_made 99 = .ok (.aload_n 0, 1) := by decide +kernel
theorem dX5_made_100 : decode cX5_made 100 = .ok (.getfield 35, 3) := by decide +kernel
theorem dX5_made_103 : decode cX5_made 103 = .ok (.iload_n 2, 1) := by decide +kernel
theorem dX5_made_104 : decode cX5_made 104 = .ok (.laload, 1) := by decide +kernel
theorem dX5_made_105 : decode cX5_made 105 = .ok (.lastore, 1) := by decide +kernel
theorem dX5_made_106 : decode cX5_made 106 = .ok (.aload_n 0, 1) := by decide +kernel
theorem dX5_made_107 : decode cX5_made 107 = .ok (.getfield 57, 3) := by decide +kernel
theorem dX5_made_110 : decode cX5_made 110 = .ok (.iload_n 1, 1) := by decide +kernel
theorem dX5_made_111 : decode cX5_made 111 = .ok (.aload_n 0, 1) := by decide +kernel
theorem dX5_made_112 : decode cX5_made 112 = .ok (.getfield 39, 3) := by decide +kernel
theorem dX5_made_115 : decode cX5_made 115 = .ok (.iload_n 2, 1) := by decide +kernel
theorem dX5_made_116 : decode cX5_made 116 = .ok (.laload, 1) := by decide +kernel
theorem dX5_made_117 : decode cX5_made 117 = .ok (.lastore, 1) := by decide +kernel
theorem dX5_made_118 : decode cX5_made 118 = .ok (.iconst 0, 1) := by decide +kernel
theorem dX5_made_119 : decode cX5_made 119 = .ok (.istore_n 3, 1) := by decide +kernel
theorem dX5_made_120 : decode cX5_made 120 = .ok (.iload_n 3, 1) := by decide +kernel
theorem dX5_made_121 : decode cX5_made 121 = .ok (.bipush 12, 2) := by decide +kernel
theorem dX5_made_123 : decode cX5_made 123 = .ok (.if_icmp .ge 33, 3) := by decide +kernel
theorem dX5_made_126 : decode cX5_made 126 = .ok (.aload_n 0, 1) := by decide +kernel
theorem dX5_made_127 : decode cX5_made 127 = .ok (.getfield 60, 3) := by decide +kernel
theorem dX5_made_130 : decode cX5_made 130 = .ok (.bipush 12, 2) := by decide +kernel
theorem dX5_made_132 : decode cX5_made 132 = .ok (.iload_n 1, 1) := by decide +kernel
theorem dX5_made_133 : decode cX5_made 133 = .ok (.imul, 1) := by decide +kernel
theorem dX5_made_134 : decode cX5_made 134 = .ok (.iload_n 3, 1) := by decide +kernel
theorem dX5_made_135 : decode cX5_made 135 = .ok (.iadd, 1) := by decide +kernel
theorem dX5_made_136 : decode cX5_made 136 = .ok (.lconst 0, 1) := by decide +kernel
theorem dX5_made_137 : decode cX5_made 137 = .ok (.lastore, 1) := by decide +kernel
theorem dX5_made_138 : decode cX5_made 138 = .ok (.aload_n 0, 1) := by decide +kernel
theorem dX5_made_139 : decode cX5_made 139 = .ok (.getfield 63, 3) := by decide +kernel
theorem dX5_made_142 : decode cX5_made 142 = .ok (.bipush 12, 2) := by decide +kernel
theorem dX5_made_144 : decode cX5_made 144 = .ok (.iload_n 1, 1) := by decide +kernel
theorem dX5_made_145 : decode cX5_made 145 = .ok (.imul, 1) := by decide +kernel
theorem dX5_made_146 : decode cX5_made 146 = .ok (.iload_n 3, 1) := by decide +kernel
theorem dX5_made_147 : decode cX5_made 147 = .ok (.iadd, 1) := by decide +kernel
theorem dX5_made_148 : decode cX5_made 148 = .ok (.lconst 0, 1) := by decide +kernel
theorem dX5_made_149 : decode cX5_made 149 = .ok (.lastore, 1) := by decide +kernel
theorem dX5_made_150 : decode cX5_made 150 = .ok (.iinc 3 1, 3) := by decide +kernel
theorem dX5_made_153 : decode cX5_made 153 = .ok (.goto (-33), 3) := by decide +kernel
theorem dX5_made_156 : decode cX5_made 156 = .ok (.aload_n 0, 1) := by decide +kernel
theorem dX5_made_157 : decode cX5_made 157 = .ok (.aload_n 0, 1) := by decide +kernel
theorem dX5_made_158 : decode cX5_made 158 = .ok (.getfield 13, 3) := by decide +kernel
theorem dX5_made_161 : decode cX5_made 161 = .ok (.iload_n 1, 1) := by decide +kernel
theorem dX5_made_162 : decode cX5_made 162 = .ok (.iaload, 1) := by decide +kernel
theorem dX5_made_163 : decode cX5_made 163 = .ok (.iload_n 1, 1) := by decide +kernel
theorem dX5_made_164 : decode cX5_made 164 = .ok (.invokevirtual 207, 3) := by decide +kernel
theorem dX5_made_167 : decode cX5_made 167 = .ok (.return_, 1) := by decide +kernel
theorem dX5_cloned_0 : decode cX5_cloned 0 = .ok (.aload_n 0, 1) := by decide +kernel
theorem dX5_cloned_1 : decode cX5_cloned 1 = .ok (.getfield 16, 3) := by decide +kernel
theorem dX5_cloned_4 : decode cX5_cloned 4 = .ok (.iload_n 1, 1) := by decide +kernel
theorem dX5_cloned_5 : decode cX5_cloned 5 = .ok (.iaload, 1) := by decide +kernel
theorem dX5_cloned_6 : decode cX5_cloned 6 = .ok (.istore_n 2, 1) := by decide +kernel
theorem dX5_cloned_7 : decode cX5_cloned 7 = .ok (.aload_n 0, 1) := by decide +kernel
theorem dX5_cloned_8 : decode cX5_cloned 8 = .ok (.iload_n 1, 1) := by decide +kernel
theorem dX5_cloned_9 : decode cX5_cloned 9 = .ok (.iconst 1, 1) := by decide +kernel
theorem dX5_cloned_10 : decode cX5_cloned 10 = .ok (.aload_n 0, 1) := by decide +kernel
theorem dX5_cloned_11 : decode cX5_cloned 11 = .ok (.getfield 45, 3) := by decide +kernel
theorem dX5_cloned_14 : decode cX5_cloned 14 = .ok (.iload_n 2, 1) := by decide +kernel
theorem dX5_cloned_15 : decode cX5_cloned 15 = .ok (.baload, 1) := by decide +kernel
theorem dX5_cloned_16 : decode cX5_cloned 16 = .ok (.invokevirtual 198, 3) := by decide +kernel
theorem dX5_cloned_19 : decode cX5_cloned 19 = .ok (.aload_n 0, 1) := by decide +kernel
theorem dX5_cloned_20 : decode cX5_cloned 20 = .ok (.iload_n 2, 1) := by decide +kernel
theorem dX5_cloned_21 : decode cX5_cloned 21 = .ok (.invokevirtual 210, 3) := by decide +kernel
theorem dX5_cloned_24 : decode cX5_cloned 24 = .ok (.aload_n 0, 1) := by decide +kernel
theorem dX5_cloned_25 : decode cX5_cloned 25 = .ok (.getfield 32, 3) := by decide +kernel
theorem dX5_cloned_28 : decode cX5_cloned 28 = .ok (.iconst 0, 1) := by decide +kernel
theorem dX5_cloned_29 : decode cX5_cloned 29 = .ok (.baload, 1) := by decide +kernel
theorem dX5_cloned_30 : decode cX5_cloned 30 = .ok (.ifCond .ne 4, 3) := by decide +kernel
theorem dX5_cloned_33 : decode cX5_cloned 33 = .ok (.return_, 1) := by decide +kernel
theorem dX5_cloned_34 : decode cX5_cloned 34 = .ok (.aload_n 0, 1) := by decide +kernel
theorem dX5_cloned_35 : decode cX5_cloned 35 = .ok (.getfield 48, 3) := by decide +kernel
theorem dX5_cloned_38 : decode cX5_cloned 38 = .ok (.iload_n 1, 1) := by decide +kernel
theorem dX5_cloned_39 : decode cX5_cloned 39 = .ok (.iconst 0, 1) := by decide +kernel
theorem dX5_cloned_40 : decode cX5_cloned 40 = .ok (.bastore, 1) := by decide +kernel
theorem dX5_cloned_41 : decode cX5_cloned 41 = .ok (.iconst 0, 1) := by decide +kernel
theorem dX5_cloned_42 : decode cX5_cloned 42 = .ok (.istore_n 3, 1) := by decide +kernel
theorem dX5_cloned_43 : decode cX5_cloned 43 = .ok (.iload_n 3, 1) := by decide +kernel
theorem dX5_cloned_44 : decode cX5_cloned 44 = .ok (.bipush 40, 2) := by decide +kernel
theorem dX5_cloned_46 : decode cX5_cloned 46 = .ok (.if_icmp .ge 24, 3) := by decide +kernel
theorem dX5_cloned_49 : decode cX5_cloned 49 = .ok (.aload_n 0, 1) := by decide +kernel
theorem dX5_cloned_50 : decode cX5_cloned 50 = .ok (.iload_n 2, 1) := by decide +kernel
theorem dX5_cloned_51 : decode cX5_cloned 51 = .ok (.iload_n 3, 1) := by decide +kernel
theorem dX5_cloned_52 : decode cX5_cloned 52 = .ok (.invokevirtual 169, 3) := by decide +kernel
theorem dX5_cloned_55 : decode cX5_cloned 55 = .ok (.ifCond .eq 9, 3) := by decide +kernel
theorem dX5_cloned_58 : decode cX5_cloned 58 = .ok (.aload_n 0, 1) := by decide +kernel
theorem dX5_cloned_59 : decode cX5_cloned 59 = .ok (.iload_n 3, 1) := by decide +kernel
theorem dX5_cloned_60 : decode cX5_cloned 60 = .ok (.iload_n 1, 1) := by decide +kernel
theorem dX5_cloned_61 : decode cX5_cloned 61 = .ok (.invokevirtual 157, 3) := by decide +kernel
theorem dX5_cloned_64 : decode cX5_cloned 64 = .ok (.iinc 3 1, 3) := by decide +kernel
theorem dX5_cloned_67 : decode cX5_cloned 67 = .ok (.goto (-24), 3) := by decide +kernel
theorem dX5_cloned_70 : decode cX5_cloned 70 = .ok (.aload_n 0, 1) := by decide +kernel
theorem dX5_cloned_71 : decode cX5_cloned 71 = .ok (.aload_n 0, 1) := by decide +kernel
theorem dX5_cloned_72 : decode cX5_cloned 72 = .ok (.getfield 13, 3) := by decide +kernel
theorem dX5_cloned_75 : decode cX5_cloned 75 = .ok (.iload_n 1, 1) := by decide +kernel
theorem dX5_cloned_76 : decode cX5_cloned 76 = .ok (.iaload, 1) := by decide +kernel
theorem dX5_cloned_77 : decode cX5_cloned 77 = .ok (.iload_n 1, 1) := by decide +kernel
theorem dX5_cloned_78 : decode cX5_cloned 78 = .ok (.invokevirtual 207, 3) := by decide +kernel
theorem dX5_cloned_81 : decode cX5_cloned 81 = .ok (.return_, 1) := by decide +kernel
theorem dX5_usePlace_0 : decode cX5_usePlace 0 = .ok (.aload_n 0, 1) := by decide +kernel
theorem dX5_usePlace_1 : decode cX5_usePlace 1 = .ok (.iload_n 1, 1) := by decide +kernel
theorem dX5_usePlace_2 : decode cX5_usePlace 2 = .ok (.iconst 1, 1) := by decide +kernel
theorem dX5_usePlace_3 : decode cX5_usePlace 3 = .ok (.aload_n 0, 1) := by decide +kernel
theorem dX5_usePlace_4 : decode cX5_usePlace 4 = .ok (.getfield 45, 3) := by decide +kernel
theorem dX5_usePlace_7 : decode cX5_usePlace 7 = .ok (.iload_n 2, 1) := by decide +kernel
theorem dX5_usePlace_8 : decode cX5_usePlace 8 = .ok (.baload, 1) := by decide +kernel
theorem dX5_usePlace_9 : decode cX5_usePlace 9 = .ok (.invokevirtual 198, 3) := by decide +kernel
theorem dX5_usePlace_12 : decode cX5_usePlace 12 = .ok (.aload_n 0, 1) := by decide +kernel
theorem dX5_usePlace_13 : decode cX5_usePlace 13 = .ok (.iload_n 1, 1) := by decide +kernel
theorem dX5_usePlace_14 : decode cX5_usePlace 14 = .ok (.iconst 2, 1) := by decide +kernel
theorem dX5_usePlace_15 : decode cX5_usePlace 15 = .ok (.aload_n 0, 1) := by decide +kernel
theorem dX5_usePlace_16 : decode cX5_usePlace 16 = .ok (.iload_n 2, 1) := by decide +kernel
theorem dX5_usePlace_17 : decode cX5_usePlace 17 = .ok (.invokevirtual 213, 3) := by decide +kernel
theorem dX5_usePlace_20 : decode cX5_usePlace 20 = .ok (.iconst 1, 1) := by decide +kernel
theorem dX5_usePlace_21 : decode cX5_usePlace 21 = .ok (.iload_n 3, 1) := by decide +kernel
theorem dX5_usePlace_22 : decode cX5_usePlace 22 = .ok (.ishl, 1) := by decide +kernel
theorem dX5_usePlace_23 : decode cX5_usePlace 23 = .ok (.iconst (-1), 1) := by decide +kernel
theorem dX5_usePlace_24 : decode cX5_usePlace 24 = .ok (.ixor, 1) := by decide +kernel
theorem dX5_usePlace_25 : decode cX5_usePlace 25 = .ok (.iand, 1) := by decide +kernel
theorem dX5_usePlace_26 : decode cX5_usePlace 26 = .ok (.ifCond .eq 7, 3) := by decide +kernel
theorem dX5_usePlace_29 : decode cX5_usePlace 29 = .ok (.iconst 1, 1) := by decide +kernel
theorem dX5_usePlace_30 : decode cX5_usePlace 30 = .ok (.goto 4, 3) := by decide +kernel
theorem dX5_usePlace_33 : decode cX5_usePlace 33 = .ok (.iconst 0, 1) := by decide +kernel
theorem dX5_usePlace_34 : decode cX5_usePlace 34 = .ok (.invokevirtual 198, 3) := by decide +kernel
theorem dX5_usePlace_37 : decode cX5_usePlace 37 = .ok (.aload_n 0, 1) := by decide +kernel
theorem dX5_usePlace_38 : decode cX5_usePlace 38 = .ok (.iload_n 1, 1) := by decide +kernel
theorem dX5_usePlace_39 : decode cX5_usePlace 39 = .ok (.iconst 5, 1) := by decide +kernel
theorem dX5_usePlace_40 : decode cX5_usePlace 40 = .ok (.aload_n 0, 1) := by decide +kernel
theorem dX5_usePlace_41 : decode cX5_usePlace 41 = .ok (.getfield 35, 3) := by decide +kernel
theorem dX5_usePlace_44 : decode cX5_usePlace 44 = .ok (.iload 4, 2) := by decide +kernel
theorem dX5_usePlace_46 : decode cX5_usePlace 46 = .ok (.laload, 1) := by decide +kernel
theorem dX5_usePlace_47 : decode cX5_usePlace 47 = .ok (.lconst 0, 1) := by decide +kernel
theorem dX5_usePlace_48 : decode cX5_usePlace 48 = .ok (.lcmp, 1) := by decide +kernel
theorem dX5_usePlace_49 : decode cX5_usePlace 49 = .ok (.ifCond .lt 30, 3) := by decide +kernel
theorem dX5_usePlace_52 : decode cX5_usePlace 52 = .ok (.aload_n 0, 1) := by decide +kernel
theorem dX5_usePlace_53 : decode cX5_usePlace 53 = .ok (.getfield 42, 3) := by decide +kernel
theorem dX5_usePlace_56 : decode cX5_usePlace 56 = .ok (.iload_n 2, 1) := by decide +kernel
theorem dX5_usePlace_57 : decode cX5_usePlace 57 = .ok (.laload, 1) := by decide +kernel
theorem dX5_usePlace_58 : decode cX5_usePlace 58 = .ok (.lconst 0, 1) := by decide +kernel
theorem dX5_usePlace_59 : decode cX5_usePlace 59 = .ok (.lcmp, 1) := by decide +kernel
theorem dX5_usePlace_60 : decode cX5_usePlace 60 = .ok (.ifCond .eq 23, 3) := by decide +kernel
theorem dX5_usePlace_63 : decode cX5_usePlace 63 = .ok (.aload_n 0, 1) := by decide +kernel
theorem dX5_usePlace_64 : decode cX5_usePlace 64 = .ok (.getfield 39, 3) := by decide +kernel
theorem dX5_usePlace_67 : decode cX5_usePlace 67 = .ok (.iload 4, 2) := by decide +kernel
theorem dX5_usePlace_69 : decode cX5_usePlace 69 = .ok (.laload, 1) := by decide +kernel
theorem dX5_usePlace_70 : decode cX5_usePlace 70 = .ok (.aload_n 0, 1) := by decide +kernel
theorem dX5_usePlace_71 : decode cX5_usePlace 71 = .ok (.iload_n 2, 1) := by decide +kernel
theorem dX5_usePlace_72 : decode cX5_usePlace 72 = .ok (.invokevirtual 217, 3) := by decide +kernel
theorem dX5_usePlace_75 : decode cX5_usePlace 75 = .ok (.lcmp, 1) := by decide +kernel
theorem dX5_usePlace_76 : decode cX5_usePlace 76 = .ok (.ifCond .lt 7, 3) := by decide +kernel
theorem dX5_usePlace_79 : decode cX5_usePlace 79 = .ok (.iconst 1, 1) := by decide +kernel
theorem dX5_usePlace_80 : decode cX5_usePlace 80 = .ok (.goto 4, 3) := by decide +kernel
theorem dX5_usePlace_83 : decode cX5_usePlace 83 = .ok (.iconst 0, 1) := by decide +kernel
theorem dX5_usePlace_84 : decode cX5_usePlace 84 = .ok (.invokevirtual 198, 3) := by decide +kernel
theorem dX5_usePlace_87 : decode cX5_usePlace 87 = .ok (.aload_n 0, 1) := by decide +kernel
theorem dX5_usePlace_88 : decode cX5_usePlace 88 = .ok (.getfield 45, 3) := by decide +kernel
theorem dX5_usePlace_91 : decode cX5_usePlace 91 = .ok (.iload_n 2, 1) := by decide +kernel
theorem dX5_usePlace_92 : decode cX5_usePlace 92 = .ok (.iconst 0, 1) := by decide +kernel
theorem dX5_usePlace_93 : decode cX5_usePlace 93 = .ok (.bastore, 1) := by decide +kernel
theorem dX5_usePlace_94 : decode cX5_usePlace 94 = .ok (.iconst 0, 1) := by decide +kernel
theorem dX5_usePlace_95 : decode cX5_usePlace 95 = .ok (.istore 5, 2) := by decide +kernel
theorem dX5_usePlace_97 : decode cX5_usePlace 97 = .ok (.iload 5, 2) := by decide +kernel
theorem dX5_usePlace_99 : decode cX5_usePlace 99 = .ok (.bipush 40, 2) := by decide +kernel
theorem dX5_usePlace_101 : decode cX5_usePlace 101 = .ok (.if_icmp .ge 50, 3) := by decide +kernel
theorem dX5_usePlace_104 : decode cX5_usePlace 104 = .ok (.aload_n 0, 1) := by decide +kernel
theorem dX5_usePlace_105 : decode cX5_usePlace 105 = .ok (.iload_n 2, 1) := by decide +kernel
theorem dX5_usePlace_106 : decode cX5_usePlace 106 = .ok (.iload 5, 2) := by decide +kernel
theorem dX5_usePlace_108 : decode cX5_usePlace 108 = .ok (.invokevirtual 169, 3) := by decide +kernel
theorem dX5_usePlace_111 : decode cX5_usePlace 111 = .ok (.ifCond .eq 34, 3) := by decide +kernel
theorem dX5_usePlace_114 : decode cX5_usePlace 114 = .ok (.aload_n 0, 1) := by decide +kernel
theorem dX5_usePlace_115 : decode cX5_usePlace 115 = .ok (.getfield 51, 3) := by decide +kernel
theorem dX5_usePlace_118 : decode cX5_usePlace 118 = .ok (.iload 5, 2) := by decide +kernel
theorem dX5_usePlace_120 : decode cX5_usePlace 120 = .ok (.iaload, 1) := by decide +kernel
theorem dX5_usePlace_121 : decode cX5_usePlace 121 = .ok (.iload_n 3, 1) := by decide +kernel
theorem dX5_usePlace_122 : decode cX5_usePlace 122 = .ok (.ishr, 1) := by decide +kernel
theorem dX5_usePlace_123 : decode cX5_usePlace 123 = .ok (.iconst 1, 1) := by decide +kernel
theorem dX5_usePlace_124 : decode cX5_usePlace 124 = .ok (.iand, 1) := by decide +kernel
theorem dX5_usePlace_125 : decode cX5_usePlace 125 = .ok (.ifCond .ne 20, 3) := by decide +kernel
theorem dX5_usePlace_128 : decode cX5_usePlace 128 = .ok (.aload_n 0, 1) := by decide +kernel
theorem dX5_usePlace_129 : decode cX5_usePlace 129 = .ok (.getfield 42, 3) := by decide +kernel
theorem dX5_usePlace_132 : decode cX5_usePlace 132 = .ok (.iload_n 2, 1) := by decide +kernel
theorem dX5_usePlace_133 : decode cX5_usePlace 133 = .ok (.dup2, 1) := by decide +kernel
theorem dX5_usePlace_134 : decode cX5_usePlace 134 = .ok (.laload, 1) := by decide +kernel
theorem dX5_usePlace_135 : decode cX5_usePlace 135 = .ok (.lconst 1, 1) := by decide +kernel
theorem dX5_usePlace_136 : decode cX5_usePlace 136 = .ok (.iload 5, 2) := by decide +kernel
theorem dX5_usePlace_138 : decode cX5_usePlace 138 = .ok (.lshl, 1) := by decide +kernel
theorem dX5_usePlace_139 : decode cX5_usePlace 139 = .ok (.ldc2_w 220, 3) := by decide +kernel
theorem dX5_usePlace_142 : decode cX5_usePlace 142 = .ok (.lxor, 1) := by decide +kernel
theorem dX5_usePlace_143 : decode cX5_usePlace 143 = .ok (.land, 1) := by decide +kernel
theorem dX5_usePlace_144 : decode cX5_usePlace 144 = .ok (.lastore, 1) := by decide +kernel
theorem dX5_usePlace_145 : decode cX5_usePlace 145 = .ok (.iinc 5 1, 3) := by decide +kernel
theorem dX5_usePlace_148 : decode cX5_usePlace 148 = .ok (.goto (-51), 3) := by decide +kernel
theorem dX5_usePlace_151 : decode cX5_usePlace 151 = .ok (.aload_n 0, 1) := by decide +kernel
theorem dX5_usePlace_152 : decode cX5_usePlace 152 = .ok (.getfield 32, 3) := by decide +kernel
theorem dX5_usePlace_155 : decode cX5_usePlace 155 = .ok (.iconst 0, 1) := by decide +kernel
theorem dX5_usePlace_156 : decode cX5_usePlace 156 = .ok (.dup2, 1) := by decide +kernel
theorem dX5_usePlace_157 : decode cX5_usePlace 157 = .ok (.baload, 1) := by decide +kernel
theorem dX5_usePlace_158 : decode cX5_usePlace 158 = .ok (.aload_n 0, 1) := by decide +kernel
theorem dX5_usePlace_159 : decode cX5_usePlace 159 = .ok (.getfield 42, 3) := by decide +kernel
theorem dX5_usePlace_162 : decode cX5_usePlace 162 = .ok (.iload_n 2, 1) := by decide +kernel
theorem dX5_usePlace_163 : decode cX5_usePlace 163 = .ok (.laload, 1) := by decide +kernel
theorem dX5_usePlace_164 : decode cX5_usePlace 164 = .ok (.lconst 0, 1) := by decide +kernel
theorem dX5_usePlace_165 : decode cX5_usePlace 165 = .ok (.lcmp, 1) := by decide +kernel
theorem dX5_usePlace_166 : decode cX5_usePlace 166 = .ok (.ifCond .eq 7, 3) := by decide +kernel
theorem dX5_usePlace_169 : decode cX5_usePlace 169 = .ok (.iconst 1, 1) := by decide +kernel
theorem dX5_usePlace_170 : decode cX5_usePlace 170 = .ok (.goto 4, 3) := by decide +kernel
theorem dX5_usePlace_173 : decode cX5_usePlace 173 = .ok (.iconst 0, 1) := by decide +kernel
theorem dX5_usePlace_174 : decode cX5_usePlace 174 = .ok (.iand, 1) := by decide +kernel
theorem dX5_usePlace_175 : decode cX5_usePlace 175 = .ok (.bastore, 1) := by decide +kernel
theorem dX5_usePlace_176 : decode cX5_usePlace 176 = .ok (.aload_n 0, 1) := by decide +kernel
theorem dX5_usePlace_177 : decode cX5_usePlace 177 = .ok (.getfield 32, 3) := by decide +kernel
theorem dX5_usePlace_180 : decode cX5_usePlace 180 = .ok (.iconst 0, 1) := by decide +kernel
theorem dX5_usePlace_181 : decode cX5_usePlace 181 = .ok (.baload, 1) := by decide +kernel
theorem dX5_usePlace_182 : decode cX5_usePlace 182 = .ok (.ifCond .eq 17, 3) := by decide +kernel
theorem dX5_usePlace_185 : decode cX5_usePlace 185 = .ok (.aload_n 0, 1) := by decide +kernel
theorem dX5_usePlace_186 : decode cX5_usePlace 186 = .ok (.iload 4, 2) := by decide +kernel
theorem dX5_usePlace_188 : decode cX5_usePlace 188 = .ok (.lconst 0, 1) := by decide +kernel
theorem dX5_usePlace_189 : decode cX5_usePlace 189 = .ok (.aload_n 0, 1) := by decide +kernel
theorem dX5_usePlace_190 : decode cX5_usePlace 190 = .ok (.iload_n 2, 1) := by decide +kernel
theorem dX5_usePlace_191 : decode cX5_usePlace 191 = .ok (.invokevirtual 222, 3) := by decide +kernel
theorem dX5_usePlace_194 : decode cX5_usePlace 194 = .ok (.lconst 1, 1) := by decide +kernel
theorem dX5_usePlace_195 : decode cX5_usePlace 195 = .ok (.lsub, 1) := by decide +kernel
theorem dX5_usePlace_196 : decode cX5_usePlace 196 = .ok (.invokevirtual 204, 3) := by decide +kernel
theorem dX5_usePlace_199 : decode cX5_usePlace 199 = .ok (.return_, 1) := by decide +kernel
theorem dX5_written_0 : decode cX5_written 0 = .ok (.aload_n 0, 1) := by decide +kernel
theorem dX5_written_1 : decode cX5_written 1 = .ok (.getfield 13, 3) := by decide +kernel
theorem dX5_written_4 : decode cX5_written 4 = .ok (.iload_n 1, 1) := by decide +kernel
theorem dX5_written_5 : decode cX5_written 5 = .ok (.iaload, 1) := by decide +kernel
theorem dX5_written_6 : decode cX5_written 6 = .ok (.istore_n 2, 1) := by decide +kernel
theorem dX5_written_7 : decode cX5_written 7 = .ok (.aload_n 0, 1) := by decide +kernel
theorem dX5_written_8 : decode cX5_written 8 = .ok (.getfield 16, 3) := by decide +kernel
theorem dX5_written_11 : decode cX5_written 11 = .ok (.iload_n 1, 1) := by decide +kernel
theorem dX5_written_12 : decode cX5_written 12 = .ok (.iaload, 1) := by decide +kernel
theorem dX5_written_13 : decode cX5_written 13 = .ok (.istore_n 3, 1) := by decide +kernel
theorem dX5_written_14 : decode cX5_written 14 = .ok (.aload_n 0, 1) := by decide +kernel
theorem dX5_written_15 : decode cX5_written 15 = .ok (.getfield 19, 3) := by decide +kernel
theorem dX5_written_18 : decode cX5_written 18 = .ok (.iload_n 1, 1) := by decide +kernel
theorem dX5_written_19 : decode cX5_written 19 = .ok (.iaload, 1) := by decide +kernel
theorem dX5_written_20 : decode cX5_written 20 = .ok (.istore 4, 2) := by decide +kernel
theorem dX5_written_22 : decode cX5_written 22 = .ok (.aload_n 0, 1) := by decide +kernel
theorem dX5_written_23 : decode cX5_written 23 = .ok (.getfield 22, 3) := by decide +kernel
theorem dX5_written_26 : decode cX5_written 26 = .ok (.iload_n 1, 1) := by decide +kernel
theorem dX5_written_27 : decode cX5_written 27 = .ok (.iaload, 1) := by decide +kernel
theorem dX5_written_28 : decode cX5_written 28 = .ok (.istore 5, 2) := by decide +kernel
theorem dX5_written_30 : decode cX5_written 30 = .ok (.aload_n 0, 1) := by decide +kernel
theorem dX5_written_31 : decode cX5_written 31 = .ok (.iload_n 1, 1) := by decide +kernel
theorem dX5_written_32 : decode cX5_written 32 = .ok (.iload_n 2, 1) := by decide +kernel
theorem dX5_written_33 : decode cX5_written 33 = .ok (.iload_n 3, 1) := by decide +kernel
theorem dX5_written_34 : decode cX5_written 34 = .ok (.iload 4, 2) := by decide +kernel
theorem dX5_written_36 : decode cX5_written 36 = .ok (.invokevirtual 225, 3) := by decide +kernel
theorem dX5_written_39 : decode cX5_written 39 = .ok (.aload_n 0, 1) := by decide +kernel
theorem dX5_written_40 : decode cX5_written 40 = .ok (.getfield 32, 3) := by decide +kernel
theorem dX5_written_43 : decode cX5_written 43 = .ok (.iconst 0, 1) := by decide +kernel
theorem dX5_written_44 : decode cX5_written 44 = .ok (.baload, 1) := by decide +kernel
theorem dX5_written_45 : decode cX5_written 45 = .ok (.ifCond .ne 4, 3) := by decide +kernel
theorem dX5_written_48 : decode cX5_written 48 = .ok (.return_, 1) := by decide +kernel
theorem dX5_written_49 : decode cX5_written 49 = .ok (.aload_n 0, 1) := by decide +kernel
theorem dX5_written_50 : decode cX5_written 50 = .ok (.getfield 35, 3) := by decide +kernel
theorem dX5_written_53 : decode cX5_written 53 = .ok (.iload 5, 2) := by decide +kernel
theorem dX5_written_55 : decode cX5_written 55 = .ok (.laload, 1) := by decide +kernel
theorem dX5_written_56 : decode cX5_written 56 = .ok (.aload_n 0, 1) := by decide +kernel
theorem dX5_written_57 : decode cX5_written 57 = .ok (.getfield 39, 3) := by decide +kernel
theorem dX5_written_60 : decode cX5_written 60 = .ok (.iload 5, 2) := by decide +kernel
theorem dX5_written_62 : decode cX5_written 62 = .ok (.laload, 1) := by decide +kernel
theorem dX5_written_63 : decode cX5_written 63 = .ok (.iload_n 3, 1) := by decide +kernel
theorem dX5_written_64 : decode cX5_written 64 = .ok (.invokestatic 229, 3) := by decide +kernel
theorem dX5_written_67 : decode cX5_written 67 = .ok (.lstore 6, 2) := by decide +kernel
theorem dX5_written_69 : decode cX5_written 69 = .ok (.aload_n 0, 1) := by decide +kernel
theorem dX5_written_70 : decode cX5_written 70 = .ok (.getfield 35, 3) := by decide +kernel
theorem dX5_written_73 : decode cX5_written 73 = .ok (.iload 5, 2) := by decide +kernel
theorem dX5_written_75 : decode cX5_written 75 = .ok (.laload, 1) := by decide +kernel
theorem dX5_written_76 : decode cX5_written 76 = .ok (.aload_n 0, 1) := by decide +kernel
theorem dX5_written_77 : decode cX5_written 77 = .ok (.getfield 39, 3) := by decide +kernel
theorem dX5_written_80 : decode cX5_written 80 = .ok (.iload 5, 2) := by decide +kernel
theorem dX5_written_82 : decode cX5_written 82 = .ok (.laload, 1) := by decide +kernel
theorem dX5_written_83 : decode cX5_written 83 = .ok (.iload_n 3, 1) := by decide +kernel
theorem dX5_written_84 : decode cX5_written 84 = .ok (.invokestatic 233, 3) := by decide +kernel
theorem dX5_written_87 : decode cX5_written 87 = .ok (.lstore 8, 2) := by decide +kernel
theorem dX5_written_89 : decode cX5_written 89 = .ok (.aload_n 0, 1) := by decide +kernel
theorem dX5_written_90 : decode cX5_written 90 = .ok (.iload_n 2, 1) := by decide +kernel
theorem dX5_written_91 : decode cX5_written 91 = .ok (.invokevirtual 236, 3) := by decide +kernel
theorem dX5_written_94 : decode cX5_written 94 = .ok (.istore 10, 2) := by decide +kernel
theorem dX5_written_96 : decode cX5_written 96 = .ok (.iload 10, 2) := by decide +kernel
theorem dX5_written_98 : decode cX5_written 98 = .ok (.ifCond .lt 64, 3) := by decide +kernel
theorem dX5_written_101 : decode cX5_written 101 = .ok (.aload_n 0, 1) := by decide +kernel
theorem dX5_written_102 : decode cX5_written 102 = .ok (.getfield 35, 3) := by decide +kernel
theorem dX5_written_105 : decode cX5_written 105 = .ok (.iload 4, 2) := by decide +kernel
theorem dX5_written_107 : decode cX5_written 107 = .ok (.laload, 1) := by decide +kernel
theorem dX5_written_108 : decode cX5_written 108 = .ok (.aload_n 0, 1) := by decide +kernel
theorem dX5_written_109 : decode cX5_written 109 = .ok (.getfield 39, 3) := by decide +kernel
theorem dX5_written_112 : decode cX5_written 112 = .ok (.iload 4, 2) := by decide +kernel
theorem dX5_written_114 : decode cX5_written 114 = .ok (.laload, 1) := by decide +kernel
theorem dX5_written_115 : decode cX5_written 115 = .ok (.lcmp, 1) := by decide +kernel
theorem dX5_written_116 : decode cX5_written 116 = .ok (.ifCond .ne 46, 3) := by decide +kernel
theorem dX5_written_119 : decode cX5_written 119 = .ok (.aload_n 0, 1) := by decide +kernel
theorem dX5_written_120 : decode cX5_written 120 = .ok (.getfield 60, 3) := by decide +kernel
theorem dX5_written_123 : decode cX5_written 123 = .ok (.bipush 12, 2) := by decide +kernel
theorem dX5_written_125 : decode cX5_written 125 = .ok (.iload 10, 2) := by decide +kernel
theorem dX5_written_127 : decode cX5_written 127 = .ok (.imul, 1) := by decide +kernel
theorem dX5_written_128 : decode cX5_written 128 = .ok (.aload_n 0, 1) := by decide +kernel
theorem dX5_written_129 : decode cX5_written 129 = .ok (.getfield 35, 3) := by decide +kernel
theorem dX5_written_132 : decode cX5_written 132 = .ok (.iload 4, 2) := by decide +kernel
theorem dX5_written_134 : decode cX5_written 134 = .ok (.laload, 1) := by decide +kernel
theorem dX5_written_135 : decode cX5_written 135 = .ok (.l2i, 1) := by decide +kernel
theorem dX5_written_136 : decode cX5_written 136 = .ok (.iadd, 1) := by decide +kernel
theorem dX5_written_137 : decode cX5_written 137 = .ok (.lload 6, 2) := by decide +kernel
theorem dX5_written_139 : decode cX5_written 139 = .ok (.lastore, 1) := by decide +kernel
theorem dX5_written_140 : decode cX5_written 140 = .ok (.aload_n 0, 1) := by decide +kernel
theorem dX5_written_141 : decode cX5_written 141 = .ok (.getfield 63, 3) := by decide +kernel
theorem dX5_written_144 : decode cX5_written 144 = .ok (.bipush 12, 2) := by decide +kernel
theorem dX5_written_146 : decode cX5_written 146 = .ok (.iload 10, 2) := by decide +kernel
theorem dX5_written_148 : decode cX5_written 148 = .ok (.imul, 1) := by decide +kernel
theorem dX5_written_149 : decode cX5_written 149 = .ok (.aload_n 0, 1) := by decide +kernel
theorem dX5_written_150 : decode cX5_written 150 = .ok (.getfield 35, 3) := by decide +kernel
theorem dX5_written_153 : decode cX5_written 153 = .ok (.iload 4, 2) := by decide +kernel
theorem dX5_written_155 : decode cX5_written 155 = .ok (.laload, 1) := by decide +kernel
theorem dX5_written_156 : decode cX5_written 156 = .ok (.l2i, 1) := by decide +kernel
theorem dX5_written_157 : decode cX5_written 157 = .ok (.iadd, 1) := by decide +kernel
theorem dX5_written_158 : decode cX5_written 158 = .ok (.lload 8, 2) := by decide +kernel
theorem dX5_written_160 : decode cX5_written 160 = .ok (.lastore, 1) := by decide +kernel
theorem dX5_written_161 : decode cX5_written 161 = .ok (.return_, 1) := by decide +kernel
theorem dX5_written_162 : decode cX5_written 162 = .ok (.iconst 0, 1) := by decide +kernel
theorem dX5_written_163 : decode cX5_written 163 = .ok (.istore 11, 2) := by decide +kernel
theorem dX5_written_165 : decode cX5_written 165 = .ok (.iload 11, 2) := by decide +kernel
theorem dX5_written_167 : decode cX5_written 167 = .ok (.bipush 40, 2) := by decide +kernel
theorem dX5_written_169 : decode cX5_written 169 = .ok (.if_icmp .ge 75, 3) := by decide +kernel
theorem dX5_written_172 : decode cX5_written 172 = .ok (.aload_n 0, 1) := by decide +kernel
theorem dX5_written_173 : decode cX5_written 173 = .ok (.getfield 35, 3) := by decide +kernel
theorem dX5_written_176 : decode cX5_written 176 = .ok (.iload 4, 2) := by decide +kernel
theorem dX5_written_178 : decode cX5_written 178 = .ok (.laload, 1) := by decide +kernel
theorem dX5_written_179 : decode cX5_written 179 = .ok (.l2i, 1) := by decide +kernel
theorem dX5_written_180 : decode cX5_written 180 = .ok (.istore 12, 2) := by decide +kernel
theorem dX5_written_182 : decode cX5_written 182 = .ok (.aload_n 0, 1) := by decide +kernel
theorem dX5_written_183 : decode cX5_written 183 = .ok (.iload_n 2, 1) := by decide +kernel
theorem dX5_written_184 : decode cX5_written 184 = .ok (.iload 11, 2) := by decide +kernel
theorem dX5_written_186 : decode cX5_written 186 = .ok (.invokevirtual 169, 3) := by decide +kernel
theorem dX5_written_189 : decode cX5_written 189 = .ok (.ifCond .eq 49, 3) := by decide +kernel
theorem dX5_written_192 : decode cX5_written 192 = .ok (.iload 12, 2) := by decide +kernel
theorem dX5_written_194 : decode cX5_written 194 = .ok (.i2l, 1) := by decide +kernel
theorem dX5_written_195 : decode cX5_written 195 = .ok (.aload_n 0, 1) := by decide +kernel
theorem dX5_written_196 : decode cX5_written 196 = .ok (.getfield 39, 3) := by decide +kernel
theorem dX5_written_199 : decode cX5_written 199 = .ok (.iload 4, 2) := by decide +kernel
theorem dX5_written_201 : decode cX5_written 201 = .ok (.laload, 1) := by decide +kernel
theorem dX5_written_202 : decode cX5_written 202 = .ok (.lcmp, 1) := by decide +kernel
theorem dX5_written_203 : decode cX5_written 203 = .ok (.ifCond .gt 35, 3) := by decide +kernel
theorem dX5_written_206 : decode cX5_written 206 = .ok (.iload 12, 2) := by decide +kernel
theorem dX5_written_208 : decode cX5_written 208 = .ok (.i2l, 1) := by decide +kernel
theorem dX5_written_209 : decode cX5_written 209 = .ok (.aload_n 0, 1) := by decide +kernel
theorem dX5_written_210 : decode cX5_written 210 = .ok (.getfield 57, 3) := by decide +kernel
theorem dX5_written_213 : decode cX5_written 213 = .ok (.iload 11, 2) := by decide +kernel
theorem dX5_written_215 : decode cX5_written 215 = .ok (.laload, 1) := by decide +kernel
theorem dX5_written_216 : decode cX5_written 216 = .ok (.lcmp, 1) := by decide +kernel
theorem dX5_written_217 : decode cX5_written 217 = .ok (.ifCond .ge 21, 3) := by decide +kernel
theorem dX5_written_220 : decode cX5_written 220 = .ok (.aload_n 0, 1) := by decide +kernel
theorem dX5_written_221 : decode cX5_written 221 = .ok (.iload 11, 2) := by decide +kernel
theorem dX5_written_223 : decode cX5_written 223 = .ok (.iload 12, 2) := by decide +kernel
theorem dX5_written_225 : decode cX5_written 225 = .ok (.lload 6, 2) := by decide +kernel
theorem dX5_written_227 : decode cX5_written 227 = .ok (.lload 8, 2) := by decide +kernel
theorem dX5_written_229 : decode cX5_written 229 = .ok (.invokevirtual 150, 3) := by decide +kernel
theorem dX5_written_232 : decode cX5_written 232 = .ok (.iinc 12 1, 3) := by decide +kernel
theorem dX5_written_235 : decode cX5_written 235 = .ok (.goto (-53), 3) := by decide +kernel
theorem dX5_written_238 : decode cX5_written 238 = .ok (.iinc 11 1, 3) := by decide +kernel
theorem dX5_written_241 : decode cX5_written 241 = .ok (.goto (-76), 3) := by decide +kernel
theorem dX5_written_244 : decode cX5_written 244 = .ok (.return_, 1) := by decide +kernel
theorem dX5_gather_0 : decode cX5_gather 0 = .ok (.aload_n 0, 1) := by decide +kernel
theorem dX5_gather_1 : decode cX5_gather 1 = .ok (.lconst 1, 1) := by decide +kernel
theorem dX5_gather_2 : decode cX5_gather 2 = .ok (.putfield 239, 3) := by decide +kernel
theorem dX5_gather_5 : decode cX5_gather 5 = .ok (.aload_n 0, 1) := by decide +kernel
theorem dX5_gather_6 : decode cX5_gather 6 = .ok (.lconst 0, 1) := by decide +kernel
theorem dX5_gather_7 : decode cX5_gather 7 = .ok (.putfield 243, 3) := by decide +kernel
theorem dX5_gather_10 : decode cX5_gather 10 = .ok (.iconst 1, 1) := by decide +kernel
theorem dX5_gather_11 : decode cX5_gather 11 = .ok (.istore 6, 2) := by decide +kernel
theorem dX5_gather_13 : decode cX5_gather 13 = .ok (.iconst 0, 1) := by decide +kernel
theorem dX5_gather_14 : decode cX5_gather 14 = .ok (.istore 7, 2) := by decide +kernel
theorem dX5_gather_16 : decode cX5_gather 16 = .ok (.iload 7, 2) := by decide +kernel
theorem dX5_gather_18 : decode cX5_gather 18 = .ok (.bipush 40, 2) := by decide +kernel
theorem dX5_gather_20 : decode cX5_gather 20 = .ok (.if_icmp .ge 141, 3) := by decide +kernel
theorem dX5_gather_23 : decode cX5_gather 23 = .ok (.lload_n 2, 1) := by decide +kernel
theorem dX5_gather_24 : decode cX5_gather 24 = .ok (.l2i, 1) := by decide +kernel
theorem dX5_gather_25 : decode cX5_gather 25 = .ok (.istore 8, 2) := by decide +kernel
theorem dX5_gather_27 : decode cX5_gather 27 = .ok (.aload_n 0, 1) := by decide +kernel
theorem dX5_gather_28 : decode cX5_gather 28 = .ok (.iload_n 1, 1) := by decide +kernel
theorem dX5_gather_29 : decode cX5_gather 29 = .ok (.iload 7, 2) := by decide +kernel
theorem dX5_gather_31 : decode cX5_gather 31 = .ok (.invokevirtual 169, 3) := by decide +kernel
theorem dX5_gather_34 : decode cX5_gather 34 = .ok (.ifCond .eq 121, 3) := by decide +kernel
theorem dX5_gather_37 : decode cX5_gather 37 = .ok (.iload 8, 2) := by decide +kernel
theorem dX5_gather_39 : decode cX5_gather 39 = .ok (.i2l, 1) := by decide +kernel
theorem dX5_gather_40 : decode cX5_gather 40 = .ok (.lload 4, 2) := by decide +kernel
theorem dX5_gather_42 : decode cX5_gather 42 = .ok (.lcmp, 1) := by decide +kernel
theorem dX5_gather_43 : decode cX5_gather 43 = .ok (.ifCond .ge 112, 3) := by decide +kernel
theorem dX5_gather_46 : decode cX5_gather 46 = .ok (.iload 8, 2) := by decide +kernel
theorem dX5_gather_48 : decode cX5_gather 48 = .ok (.i2l, 1) := by decide +kernel
theorem dX5_gather_49 : decode cX5_gather 49 = .ok (.aload_n 0, 1) := by decide +kernel
theorem dX5_gather_50 : decode cX5_gather 50 = .ok (.getfield 57, 3) := by decide +kernel
theorem dX5_gather_53 : decode cX5_gather 53 = .ok (.iload 7, 2) := by decide +kernel
theorem dX5_gather_55 : decode cX5_gather 55 = .ok (.laload, 1) := by decide +kernel
theorem dX5_gather_56 : decode cX5_gather 56 = .ok (.lcmp, 1) := by decide +kernel
theorem dX5_gather_57 : decode cX5_gather 57 = .ok (.ifCond .ge 98, 3) := by decide +kernel
theorem dX5_gather_60 : decode cX5_gather 60 = .ok (.aload_n 0, 1) := by decide +kernel
theorem dX5_gather_61 : decode cX5_gather 61 = .ok (.getfield 60, 3) := by decide +kernel
theorem dX5_gather_64 : decode cX5_gather 64 = .ok (.bipush 12, 2) := by decide +kernel
theorem dX5_gather_66 : decode cX5_gather 66 = .ok (.iload 7, 2) := by decide +kernel
theorem dX5_gather_68 : decode cX5_gather 68 = .ok (.imul, 1) := by decide +kernel
theorem dX5_gather_69 : decode cX5_gather 69 = .ok (.iload 8, 2) := by decide +kernel
theorem dX5_gather_71 : decode cX5_gather 71 = .ok (.iadd, 1) := by decide +kernel
theorem dX5_gather_72 : decode cX5_gather 72 = .ok (.laload, 1) := by decide +kernel
theorem dX5_gather_73 : decode cX5_gather 73 = .ok (.lstore 9, 2) := by decide +kernel
theorem dX5_gather_75 : decode cX5_gather 75 = .ok (.aload_n 0, 1) := by decide +kernel
theorem dX5_gather_76 : decode cX5_gather 76 = .ok (.getfield 63, 3) := by decide +kernel
theorem dX5_gather_79 : decode cX5_gather 79 = .ok (.bipush 12, 2) := by decide +kernel
theorem dX5_gather_81 : decode cX5_gather 81 = .ok (.iload 7, 2) := by decide +kernel
theorem dX5_gather_83 : decode cX5_gather 83 = .ok (.imul, 1) := by decide +kernel
theorem dX5_gather_84 : decode cX5_gather 84 = .ok (.iload 8, 2) := by decide +kernel
theorem dX5_gather_86 : decode cX5_gather 86 = .ok (.iadd, 1) := by decide +kernel
theorem dX5_gather_87 : decode cX5_gather 87 = .ok (.laload, 1) := by decide +kernel
theorem dX5_gather_88 : decode cX5_gather 88 = .ok (.lstore 11, 2) := by decide +kernel
theorem dX5_gather_90 : decode cX5_gather 90 = .ok (.aload_n 0, 1) := by decide +kernel
theorem dX5_gather_91 : decode cX5_gather 91 = .ok (.iload 6, 2) := by decide +kernel
theorem dX5_gather_93 : decode cX5_gather 93 = .ok (.ifCond .ne 13, 3) := by decide +kernel
theorem dX5_gather_96 : decode cX5_gather 96 = .ok (.lload 9, 2) := by decide +kernel
theorem dX5_gather_98 : decode cX5_gather 98 = .ok (.aload_n 0, 1) := by decide +kernel
theorem dX5_gather_99 : decode cX5_gather 99 = .ok (.getfield 239, 3) := by decide +kernel
theorem dX5_gather_102 : decode cX5_gather 102 = .ok (.lcmp, 1) := by decide +kernel
theorem dX5_gather_103 : decode cX5_gather 103 = .ok (.ifCond .ge 8, 3) := by decide +kernel
theorem dX5_gather_106 : decode cX5_gather 106 = .ok (.lload 9, 2) := by decide +kernel
theorem dX5_gather_108 : decode cX5_gather 108 = .ok (.goto 7, 3) := by decide +kernel
theorem dX5_gather_111 : decode cX5_gather 111 = .ok (.aload_n 0, 1) := by decide +kernel
theorem dX5_gather_112 : decode cX5_gather 112 = .ok (.getfield 239, 3) := by decide +kernel
theorem dX5_gather_115 : decode cX5_gather 115 = .ok (.putfield 239, 3) := by decide +kernel
theorem dX5_gather_118 : decode cX5_gather 118 = .ok (.aload_n 0, 1) := by decide +kernel
theorem dX5_gather_119 : decode cX5_gather 119 = .ok (.iload 6, 2) := by decide +kernel
theorem dX5_gather_121 : decode cX5_gather 121 = .ok (.ifCond .ne 13, 3) := by decide +kernel
theorem dX5_gather_124 : decode cX5_gather 124 = .ok (.lload 11, 2) := by decide +kernel
theorem dX5_gather_126 : decode cX5_gather 126 = .ok (.aload_n 0, 1) := by decide +kernel
theorem dX5_gather_127 : decode cX5_gather 127 = .ok (.getfield 243, 3) := by decide +kernel
theorem dX5_gather_130 : decode cX5_gather 130 = .ok (.lcmp, 1) := by decide +kernel
theorem dX5_gather_131 : decode cX5_gather 131 = .ok (.ifCond .le 8, 3) := by decide +kernel
theorem dX5_gather_134 : decode cX5_gather 134 = .ok (.lload 11, 2) := by decide +kernel
theorem dX5_gather_136 : decode cX5_gather 136 = .ok (.goto 7, 3) := by decide +kernel
theorem dX5_gather_139 : decode cX5_gather 139 = .ok (.aload_n 0, 1) := by decide +kernel
theorem dX5_gather_140 : decode cX5_gather 140 = .ok (.getfield 243, 3) := by decide +kernel
theorem dX5_gather_143 : decode cX5_gather 143 = .ok (.putfield 243, 3) := by decide +kernel
theorem dX5_gather_146 : decode cX5_gather 146 = .ok (.iconst 0, 1) := by decide +kernel
theorem dX5_gather_147 : decode cX5_gather 147 = .ok (.istore 6, 2) := by decide +kernel
theorem dX5_gather_149 : decode cX5_gather 149 = .ok (.iinc 8 1, 3) := by decide +kernel
theorem dX5_gather_152 : decode cX5_gather 152 = .ok (.goto (-125), 3) := by decide +kernel
theorem dX5_gather_155 : decode cX5_gather 155 = .ok (.iinc 7 1, 3) := by decide +kernel
theorem dX5_gather_158 : decode cX5_gather 158 = .ok (.goto (-142), 3) := by decide +kernel
theorem dX5_gather_161 : decode cX5_gather 161 = .ok (.return_, 1) := by decide +kernel
theorem dX5_read_0 : decode cX5_read 0 = .ok (.aload_n 0, 1) := by decide +kernel
theorem dX5_read_1 : decode cX5_read 1 = .ok (.getfield 16, 3) := by decide +kernel
theorem dX5_read_4 : decode cX5_read 4 = .ok (.iload_n 1, 1) := by decide +kernel
theorem dX5_read_5 : decode cX5_read 5 = .ok (.iaload, 1) := by decide +kernel
theorem dX5_read_6 : decode cX5_read 6 = .ok (.istore_n 2, 1) := by decide +kernel
theorem dX5_read_7 : decode cX5_read 7 = .ok (.aload_n 0, 1) := by decide +kernel
theorem dX5_read_8 : decode cX5_read 8 = .ok (.getfield 22, 3) := by decide +kernel
theorem dX5_read_11 : decode cX5_read 11 = .ok (.iload_n 1, 1) := by decide +kernel
theorem dX5_read_12 : decode cX5_read 12 = .ok (.iaload, 1) := by decide +kernel
theorem dX5_read_13 : decode cX5_read 13 = .ok (.istore_n 3, 1) := by decide +kernel
theorem dX5_read_14 : decode cX5_read 14 = .ok (.aload_n 0, 1) := by decide +kernel
theorem dX5_read_15 : decode cX5_read 15 = .ok (.iload_n 1, 1) := by decide +kernel
theorem dX5_read_16 : decode cX5_read 16 = .ok (.iload_n 2, 1) := by decide +kernel
theorem dX5_read_17 : decode cX5_read 17 = .ok (.aload_n 0, 1) := by decide +kernel
theorem dX5_read_18 : decode cX5_read 18 = .ok (.getfield 19, 3) := by decide +kernel
theorem dX5_read_21 : decode cX5_read 21 = .ok (.iload_n 1, 1) := by decide +kernel
theorem dX5_read_22 : decode cX5_read 22 = .ok (.iaload, 1) := by decide +kernel
theorem dX5_read_23 : decode cX5_read 23 = .ok (.iload_n 3, 1) := by decide +kernel
theorem dX5_read_24 : decode cX5_read 24 = .ok (.invokevirtual 225, 3) := by decide +kernel
theorem dX5_read_27 : decode cX5_read 27 = .ok (.aload_n 0, 1) := by decide +kernel
theorem dX5_read_28 : decode cX5_read 28 = .ok (.getfield 32, 3) := by decide +kernel
theorem dX5_read_31 : decode cX5_read 31 = .ok (.iconst 0, 1) := by decide +kernel
theorem dX5_read_32 : decode cX5_read 32 = .ok (.baload, 1) := by decide +kernel
theorem dX5_read_33 : decode cX5_read 33 = .ok (.ifCond .eq 40, 3) := by decide +kernel
theorem dX5_read_36 : decode cX5_read 36 = .ok (.aload_n 0, 1) := by decide +kernel
theorem dX5_read_37 : decode cX5_read 37 = .ok (.iload_n 2, 1) := by decide +kernel
theorem dX5_read_38 : decode cX5_read 38 = .ok (.aload_n 0, 1) := by decide +kernel
theorem dX5_read_39 : decode cX5_read 39 = .ok (.getfield 35, 3) := by decide +kernel
theorem dX5_read_42 : decode cX5_read 42 = .ok (.iload_n 3, 1) := by decide +kernel
theorem dX5_read_43 : decode cX5_read 43 = .ok (.laload, 1) := by decide +kernel
theorem dX5_read_44 : decode cX5_read 44 = .ok (.aload_n 0, 1) := by decide +kernel
theorem dX5_read_45 : decode cX5_read 45 = .ok (.getfield 39, 3) := by decide +kernel
theorem dX5_read_48 : decode cX5_read 48 = .ok (.iload_n 3, 1) := by decide +kernel
theorem dX5_read_49 : decode cX5_read 49 = .ok (.laload, 1) := by decide +kernel
theorem dX5_read_50 : decode cX5_read 50 = .ok (.lconst 1, 1) := by decide +kernel
theorem dX5_read_51 : decode cX5_read 51 = .ok (.ladd, 1) := by decide +kernel
theorem dX5_read_52 : decode cX5_read 52 = .ok (.invokevirtual 246, 3) := by decide +kernel
theorem dX5_read_55 : decode cX5_read 55 = .ok (.aload_n 0, 1) := by decide +kernel
theorem dX5_read_56 : decode cX5_read 56 = .ok (.aload_n 0, 1) := by decide +kernel
theorem dX5_read_57 : decode cX5_read 57 = .ok (.getfield 13, 3) := by decide +kernel
theorem dX5_read_60 : decode cX5_read 60 = .ok (.iload_n 1, 1) := by decide +kernel
theorem dX5_read_61 : decode cX5_read 61 = .ok (.iaload, 1) := by decide +kernel
theorem dX5_read_62 : decode cX5_read 62 = .ok (.aload_n 0, 1) := by decide +kernel
theorem dX5_read_63 : decode cX5_read 63 = .ok (.getfield 239, 3) := by decide +kernel
theorem dX5_read_66 : decode cX5_read 66 = .ok (.aload_n 0, 1) := by decide +kernel
theorem dX5_read_67 : decode cX5_read 67 = .ok (.getfield 243, 3) := by decide +kernel
theorem dX5_read_70 : decode cX5_read 70 = .ok (.invokevirtual 173, 3) := by decide +kernel
theorem dX5_read_73 : decode cX5_read 73 = .ok (.return_, 1) := by decide +kernel
theorem dX5_moved_0 : decode cX5_moved 0 = .ok (.aload_n 0, 1) := by decide +kernel
theorem dX5_moved_1 : decode cX5_moved 1 = .ok (.getfield 13, 3) := by decide +kernel
theorem dX5_moved_4 : decode cX5_moved 4 = .ok (.iload_n 1, 1) := by decide +kernel
theorem dX5_moved_5 : decode cX5_moved 5 = .ok (.iaload, 1) := by decide +kernel
theorem dX5_moved_6 : decode cX5_moved 6 = .ok (.istore_n 2, 1) := by decide +kernel
theorem dX5_moved_7 : decode cX5_moved 7 = .ok (.aload_n 0, 1) := by decide +kernel
theorem dX5_moved_8 : decode cX5_moved 8 = .ok (.getfield 16, 3) := by decide +kernel
theorem dX5_moved_11 : decode cX5_moved 11 = .ok (.iload_n 1, 1) := by decide +kernel
theorem dX5_moved_12 : decode cX5_moved 12 = .ok (.iaload, 1) := by decide +kernel
theorem dX5_moved_13 : decode cX5_moved 13 = .ok (.istore_n 3, 1) := by decide +kernel
theorem dX5_moved_14 : decode cX5_moved 14 = .ok (.aload_n 0, 1) := by decide +kernel
theorem dX5_moved_15 : decode cX5_moved 15 = .ok (.getfield 19, 3) := by decide +kernel
theorem dX5_moved_18 : decode cX5_moved 18 = .ok (.iload_n 1, 1) := by decide +kernel
theorem dX5_moved_19 : decode cX5_moved 19 = .ok (.iaload, 1) := by decide +kernel
theorem dX5_moved_20 : decode cX5_moved 20 = .ok (.istore 4, 2) := by decide +kernel
theorem dX5_moved_22 : decode cX5_moved 22 = .ok (.aload_n 0, 1) := by decide +kernel
theorem dX5_moved_23 : decode cX5_moved 23 = .ok (.getfield 22, 3) := by decide +kernel
theorem dX5_moved_26 : decode cX5_moved 26 = .ok (.iload_n 1, 1) := by decide +kernel
theorem dX5_moved_27 : decode cX5_moved 27 = .ok (.iaload, 1) := by decide +kernel
theorem dX5_moved_28 : decode cX5_moved 28 = .ok (.istore 5, 2) := by decide +kernel
theorem dX5_moved_30 : decode cX5_moved 30 = .ok (.aload_n 0, 1) := by decide +kernel
theorem dX5_moved_31 : decode cX5_moved 31 = .ok (.getfield 25, 3) := by decide +kernel
theorem dX5_moved_34 : decode cX5_moved 34 = .ok (.iload_n 1, 1) := by decide +kernel
theorem dX5_moved_35 : decode cX5_moved 35 = .ok (.iaload, 1) := by decide +kernel
theorem dX5_moved_36 : decode cX5_moved 36 = .ok (.istore 6, 2) := by decide +kernel
theorem dX5_moved_38 : decode cX5_moved 38 = .ok (.aload_n 0, 1) := by decide +kernel
theorem dX5_moved_39 : decode cX5_moved 39 = .ok (.iload_n 1, 1) := by decide +kernel
theorem dX5_moved_40 : decode cX5_moved 40 = .ok (.iconst 1, 1) := by decide +kernel
theorem dX5_moved_41 : decode cX5_moved 41 = .ok (.aload_n 0, 1) := by decide +kernel
theorem dX5_moved_42 : decode cX5_moved 42 = .ok (.getfield 45, 3) := by decide +kernel
theorem dX5_moved_45 : decode cX5_moved 45 = .ok (.iload_n 2, 1) := by decide +kernel
theorem dX5_moved_46 : decode cX5_moved 46 = .ok (.baload, 1) := by decide +kernel
theorem dX5_moved_47 : decode cX5_moved 47 = .ok (.ifCond .ne 13, 3) := by decide +kernel
theorem dX5_moved_50 : decode cX5_moved 50 = .ok (.aload_n 0, 1) := by decide +kernel
theorem dX5_moved_51 : decode cX5_moved 51 = .ok (.getfield 45, 3) := by decide +kernel
theorem dX5_moved_54 : decode cX5_moved 54 = .ok (.iload 4, 2) := by decide +kernel
theorem dX5_moved_56 : decode cX5_moved 56 = .ok (.baload, 1) := by decide +kernel
theorem dX5_moved_57 : decode cX5_moved 57 = .ok (.ifCond .eq 7, 3) := by decide +kernel
theorem dX5_moved_60 : decode cX5_moved 60 = .ok (.iconst 1, 1) := by decide +kernel
theorem dX5_moved_61 : decode cX5_moved 61 = .ok (.goto 4, 3) := by decide +kernel
theorem dX5_moved_64 : decode cX5_moved 64 = .ok (.iconst 0, 1) := by decide +kernel
theorem dX5_moved_65 : decode cX5_moved 65 = .ok (.invokevirtual 198, 3) := by decide +kernel
theorem dX5_moved_68 : decode cX5_moved 68 = .ok (.aload_n 0, 1) := by decide +kernel
theorem dX5_moved_69 : decode cX5_moved 69 = .ok (.iload_n 2, 1) := by decide +kernel
theorem dX5_moved_70 : decode cX5_moved 70 = .ok (.invokevirtual 213, 3) := by decide +kernel
theorem dX5_moved_73 : decode cX5_moved 73 = .ok (.istore 7, 2) := by decide +kernel
theorem dX5_moved_75 : decode cX5_moved 75 = .ok (.aload_n 0, 1) := by decide +kernel
theorem dX5_moved_76 : decode cX5_moved 76 = .ok (.iload 4, 2) := by decide +kernel
theorem dX5_moved_78 : decode cX5_moved 78 = .ok (.invokevirtual 213, 3) := by decide +kernel
theorem dX5_moved_81 : decode cX5_moved 81 = .ok (.istore 8, 2) := by decide +kernel
theorem dX5_moved_83 : decode cX5_moved 83 = .ok (.iload 7, 2) := by decide +kernel
theorem dX5_moved_85 : decode cX5_moved 85 = .ok (.iload 8, 2) := by decide +kernel
theorem dX5_moved_87 : decode cX5_moved 87 = .ok (.ior, 1) := by decide +kernel
theorem dX5_moved_88 : decode cX5_moved 88 = .ok (.istore 9, 2) := by decide +kernel
theorem dX5_moved_90 : decode cX5_moved 90 = .ok (.aload_n 0, 1) := by decide +kernel
theorem dX5_moved_91 : decode cX5_moved 91 = .ok (.iload_n 1, 1) := by decide +kernel
theorem dX5_moved_92 : decode cX5_moved 92 = .ok (.iconst 4, 1) := by decide +kernel
theorem dX5_moved_93 : decode cX5_moved 93 = .ok (.iload 7, 2) := by decide +kernel
theorem dX5_moved_95 : decode cX5_moved 95 = .ok (.ifCond .eq 22, 3) := by decide +kernel
theorem dX5_moved_98 : decode cX5_moved 98 = .ok (.iload 8, 2) := by decide +kernel
theorem dX5_moved_100 : decode cX5_moved 100 = .ok (.ifCond .eq 17, 3) := by decide +kernel
theorem dX5_moved_103 : decode cX5_moved 103 = .ok (.iload 9, 2) := by decide +kernel
theorem dX5_moved_105 : decode cX5_moved 105 = .ok (.iload 9, 2) := by decide +kernel
theorem dX5_moved_107 : decode cX5_moved 107 = .ok (.iconst 1, 1) := by decide +kernel
theorem dX5_moved_108 : decode cX5_moved 108 = .ok (.isub, 1) := by decide +kernel
theorem dX5_moved_109 : decode cX5_moved 109 = .ok (.iand, 1) := by decide +kernel
theorem dX5_moved_110 : decode cX5_moved 110 = .ok (.ifCond .eq 7, 3) := by decide +kernel
theorem dX5_moved_113 : decode cX5_moved 113 = .ok (.iconst 1, 1) := by decide +kernel
theorem dX5_moved_114 : decode cX5_moved 114 = .ok (.goto 4, 3) := by decide +kernel
theorem dX5_moved_117 : decode cX5_moved 117 = .ok (.iconst 0, 1) := by decide +kernel
theorem dX5_moved_118 : decode cX5_moved 118 = .ok (.invokevirtual 198, 3) := by decide +kernel
theorem dX5_moved_121 : decode cX5_moved 121 = .ok (.aload_n 0, 1) := by decide +kernel
theorem dX5_moved_122 : decode cX5_moved 122 = .ok (.getfield 42, 3) := by decide +kernel
theorem dX5_moved_125 : decode cX5_moved 125 = .ok (.iload_n 2, 1) := by decide +kernel
theorem dX5_moved_126 : decode cX5_moved 126 = .ok (.laload, 1) := by decide +kernel
theorem dX5_moved_127 : decode cX5_moved 127 = .ok (.lconst 0, 1) := by decide +kernel
theorem dX5_moved_128 : decode cX5_moved 128 = .ok (.lcmp, 1) := by decide +kernel
theorem dX5_moved_129 : decode cX5_moved 129 = .ok (.ifCond .eq 26, 3) := by decide +kernel
theorem dX5_moved_132 : decode cX5_moved 132 = .ok (.aload_n 0, 1) := by decide +kernel
theorem dX5_moved_133 : decode cX5_moved 133 = .ok (.getfield 39, 3) := by decide +kernel
theorem dX5_moved_136 : decode cX5_moved 136 = .ok (.iload_n 3, 1) := by decide +kernel
theorem dX5_moved_137 : decode cX5_moved 137 = .ok (.laload, 1) := by decide +kernel
theorem dX5_moved_138 : decode cX5_moved 138 = .ok (.aload_n 0, 1) := by decide +kernel
theorem dX5_moved_139 : decode cX5_moved 139 = .ok (.getfield 39, 3) := by decide +kernel
theorem dX5_moved_142 : decode cX5_moved 142 = .ok (.iload 6, 2) := by decide +kernel
theorem dX5_moved_144 : decode cX5_moved 144 = .ok (.laload, 1) := by decide +kernel
theorem dX5_moved_145 : decode cX5_moved 145 = .ok (.ladd, 1) := by decide +kernel
theorem dX5_moved_146 : decode cX5_moved 146 = .ok (.aload_n 0, 1) := by decide +kernel
theorem dX5_moved_147 : decode cX5_moved 147 = .ok (.iload_n 2, 1) := by decide +kernel
theorem dX5_moved_148 : decode cX5_moved 148 = .ok (.invokevirtual 217, 3) := by decide +kernel
theorem dX5_moved_151 : decode cX5_moved 151 = .ok (.lcmp, 1) := by decide +kernel
theorem dX5_moved_152 : decode cX5_moved 152 = .ok (.ifCond .gt 40, 3) := by decide +kernel
theorem dX5_moved_155 : decode cX5_moved 155 = .ok (.aload_n 0, 1) := by decide +kernel
theorem dX5_moved_156 : decode cX5_moved 156 = .ok (.getfield 42, 3) := by decide +kernel
theorem dX5_moved_159 : decode cX5_moved 159 = .ok (.iload 4, 2) := by decide +kernel
theorem dX5_moved_161 : decode cX5_moved 161 = .ok (.laload, 1) := by decide +kernel
theorem dX5_moved_162 : decode cX5_moved 162 = .ok (.lconst 0, 1) := by decide +kernel
theorem dX5_moved_163 : decode cX5_moved 163 = .ok (.lcmp, 1) := by decide +kernel
theorem dX5_moved_164 : decode cX5_moved 164 = .ok (.ifCond .eq 32, 3) := by decide +kernel
theorem dX5_moved_167 : decode cX5_moved 167 = .ok (.aload_n 0, 1) := by decide +kernel
theorem dX5_moved_168 : decode cX5_moved 168 = .ok (.getfield 39, 3) := by decide +kernel
theorem dX5_moved_171 : decode cX5_moved 171 = .ok (.iload 5, 2) := by decide +kernel
theorem dX5_moved_173 : decode cX5_moved 173 = .ok (.laload, 1) := by decide +kernel
theorem dX5_moved_174 : decode cX5_moved 174 = .ok (.aload_n 0, 1) := by decide +kernel
theorem dX5_moved_175 : decode cX5_moved 175 = .ok (.getfield 39, 3) := by decide +kernel
theorem dX5_moved_178 : decode cX5_moved 178 = .ok (.iload 6, 2) := by decide +kernel
theorem dX5_moved_180 : decode cX5_moved 180 = .ok (.laload, 1) := by decide +kernel
theorem dX5_moved_181 : decode cX5_moved 181 = .ok (.ladd, 1) := by decide +kernel
theorem dX5_moved_182 : decode cX5_moved 182 = .ok (.aload_n 0, 1) := by decide +kernel
theorem dX5_moved_183 : decode cX5_moved 183 = .ok (.iload 4, 2) := by decide +kernel
theorem dX5_moved_185 : decode cX5_moved 185 = .ok (.invokevirtual 217, 3) := by decide +kernel
theorem dX5_moved_188 : decode cX5_moved 188 = .ok (.lcmp, 1) := by decide +kernel
theorem dX5_moved_189 : decode cX5_moved 189 = .ok (.ifCond .le 7, 3) := by decide +kernel
theorem dX5_moved_192 : decode cX5_moved 192 = .ok (.iconst 1, 1) := by decide +kernel
theorem dX5_moved_193 : decode cX5_moved 193 = .ok (.goto 4, 3) := by decide +kernel
theorem dX5_moved_196 : decode cX5_moved 196 = .ok (.iconst 0, 1) := by decide +kernel
theorem dX5_moved_197 : decode cX5_moved 197 = .ok (.istore 10, 2) := by decide +kernel
theorem dX5_moved_199 : decode cX5_moved 199 = .ok (.aload_n 0, 1) := by decide +kernel
theorem dX5_moved_200 : decode cX5_moved 200 = .ok (.iload_n 1, 1) := by decide +kernel
theorem dX5_moved_201 : decode cX5_moved 201 = .ok (.iconst 5, 1) := by decide +kernel
theorem dX5_moved_202 : decode cX5_moved 202 = .ok (.aload_n 0, 1) := by decide +kernel
theorem dX5_moved_203 : decode cX5_moved 203 = .ok (.getfield 35, 3) := by decide +kernel
theorem dX5_moved_206 : decode cX5_moved 206 = .ok (.iload_n 3, 1) := by decide +kernel
theorem dX5_moved_207 : decode cX5_moved 207 = .ok (.laload, 1) := by decide +kernel
theorem dX5_moved_208 : decode cX5_moved 208 = .ok (.lconst 0, 1) := by decide +kernel
theorem dX5_moved_209 : decode cX5_moved 209 = .ok (.lcmp, 1) := by decide +kernel
theorem dX5_moved_210 : decode cX5_moved 210 = .ok (.ifCond .lt 32, 3) := by decide +kernel
theorem dX5_moved_213 : decode cX5_moved 213 = .ok (.aload_n 0, 1) := by decide +kernel
theorem dX5_moved_214 : decode cX5_moved 214 = .ok (.getfield 35, 3) := by decide +kernel
theorem dX5_moved_217 : decode cX5_moved 217 = .ok (.iload 5, 2) := by decide +kernel
theorem dX5_moved_219 : decode cX5_moved 219 = .ok (.laload, 1) := by decide +kernel
theorem dX5_moved_220 : decode cX5_moved 220 = .ok (.lconst 0, 1) := by decide +kernel
theorem dX5_moved_221 : decode cX5_moved 221 = .ok (.lcmp, 1) := by decide +kernel
theorem dX5_moved_222 : decode cX5_moved 222 = .ok (.ifCond .lt 20, 3) := by decide +kernel
theorem dX5_moved_225 : decode cX5_moved 225 = .ok (.aload_n 0, 1) := by decide +kernel
theorem dX5_moved_226 : decode cX5_moved 226 = .ok (.getfield 35, 3) := by decide +kernel
theorem dX5_moved_229 : decode cX5_moved 229 = .ok (.iload 6, 2) := by decide +kernel
theorem dX5_moved_231 : decode cX5_moved 231 = .ok (.laload, 1) := by decide +kernel
theorem dX5_moved_232 : decode cX5_moved 232 = .ok (.lconst 0, 1) := by decide +kernel
theorem dX5_moved_233 : decode cX5_moved 233 = .ok (.lcmp, 1) := by decide +kernel
theorem dX5_moved_234 : decode cX5_moved 234 = .ok (.ifCond .lt 8, 3) := by decide +kernel
theorem dX5_moved_237 : decode cX5_moved 237 = .ok (.iload 10, 2) := by decide +kernel
theorem dX5_moved_239 : decode cX5_moved 239 = .ok (.ifCond .eq 7, 3) := by decide +kernel
theorem dX5_moved_242 : decode cX5_moved 242 = .ok (.iconst 1, 1) := by decide +kernel
theorem dX5_moved_243 : decode cX5_moved 243 = .ok (.goto 4, 3) := by decide +kernel
theorem dX5_moved_246 : decode cX5_moved 246 = .ok (.iconst 0, 1) := by decide +kernel
theorem dX5_moved_247 : decode cX5_moved 247 = .ok (.invokevirtual 198, 3) := by decide +kernel
theorem dX5_moved_250 : decode cX5_moved 250 = .ok (.aload_n 0, 1) := by decide +kernel
theorem dX5_moved_251 : decode cX5_moved 251 = .ok (.iload_n 2, 1) := by decide +kernel
theorem dX5_moved_252 : decode cX5_moved 252 = .ok (.invokevirtual 210, 3) := by decide +kernel
theorem dX5_moved_255 : decode cX5_moved 255 = .ok (.aload_n 0, 1) := by decide +kernel
theorem dX5_moved_256 : decode cX5_moved 256 = .ok (.iload 4, 2) := by decide +kernel
theorem dX5_moved_258 : decode cX5_moved 258 = .ok (.invokevirtual 210, 3) := by decide +kernel
theorem dX5_moved_261 : decode cX5_moved 261 = .ok (.aload_n 0, 1) := by decide +kernel
theorem dX5_moved_262 : decode cX5_moved 262 = .ok (.iload_n 3, 1) := by decide +kernel
theorem dX5_moved_263 : decode cX5_moved 263 = .ok (.lconst 0, 1) := by decide +kernel
theorem dX5_moved_264 : decode cX5_moved 264 = .ok (.ldc2_w 137, 3) := by decide +kernel
theorem dX5_moved_267 : decode cX5_moved 267 = .ok (.invokevirtual 204, 3) := by decide +kernel
theorem dX5_moved_270 : decode cX5_moved 270 = .ok (.aload_n 0, 1) := by decide +kernel
theorem dX5_moved_271 : decode cX5_moved 271 = .ok (.iload 5, 2) := by decide +kernel
theorem dX5_moved_273 : decode cX5_moved 273 = .ok (.lconst 0, 1) := by decide +kernel
theorem dX5_moved_274 : decode cX5_moved 274 = .ok (.ldc2_w 137, 3) := by decide +kernel
theorem dX5_moved_277 : decode cX5_moved 277 = .ok (.invokevirtual 204, 3) := by decide +kernel
theorem dX5_moved_280 : decode cX5_moved 280 = .ok (.aload_n 0, 1) := by decide +kernel
theorem dX5_moved_281 : decode cX5_moved 281 = .ok (.iload 6, 2) := by decide +kernel
theorem dX5_moved_283 : decode cX5_moved 283 = .ok (.lconst 0, 1) := by decide +kernel
theorem dX5_moved_284 : decode cX5_moved 284 = .ok (.ldc2_w 137, 3) := by decide +kernel
theorem dX5_moved_287 : decode cX5_moved 287 = .ok (.invokevirtual 204, 3) := by decide +kernel
theorem dX5_moved_290 : decode cX5_moved 290 = .ok (.aload_n 0, 1) := by decide +kernel
theorem dX5_moved_291 : decode cX5_moved 291 = .ok (.getfield 32, 3) := by decide +kernel
theorem dX5_moved_294 : decode cX5_moved 294 = .ok (.iconst 0, 1) := by decide +kernel
theorem dX5_moved_295 : decode cX5_moved 295 = .ok (.baload, 1) := by decide +kernel
theorem dX5_moved_296 : decode cX5_moved 296 = .ok (.ifCond .ne 4, 3) := by decide +kernel
theorem dX5_moved_299 : decode cX5_moved 299 = .ok (.return_, 1) := by decide +kernel
theorem dX5_moved_300 : decode cX5_moved 300 = .ok (.aload_n 0, 1) := by decide +kernel
theorem dX5_moved_301 : decode cX5_moved 301 = .ok (.iload_n 2, 1) := by decide +kernel
theorem dX5_moved_302 : decode cX5_moved 302 = .ok (.invokevirtual 236, 3) := by decide +kernel
theorem dX5_moved_305 : decode cX5_moved 305 = .ok (.istore 11, 2) := by decide +kernel
theorem dX5_moved_307 : decode cX5_moved 307 = .ok (.aload_n 0, 1) := by decide +kernel
theorem dX5_moved_308 : decode cX5_moved 308 = .ok (.iload 4, 2) := by decide +kernel
theorem dX5_moved_310 : decode cX5_moved 310 = .ok (.invokevirtual 236, 3) := by decide +kernel
theorem dX5_moved_313 : decode cX5_moved 313 = .ok (.istore 12, 2) := by decide +kernel
theorem dX5_moved_315 : decode cX5_moved 315 = .ok (.iload 11, 2) := by decide +kernel
theorem dX5_moved_317 : decode cX5_moved 317 = .ok (.ifCond .lt 91, 3) := by decide +kernel
theorem dX5_moved_320 : decode cX5_moved 320 = .ok (.iload 12, 2) := by decide +kernel
theorem dX5_moved_322 : decode cX5_moved 322 = .ok (.ifCond .lt 86, 3) := by decide +kernel
theorem dX5_moved_325 : decode cX5_moved 325 = .ok (.aload_n 0, 1) := by decide +kernel
theorem dX5_moved_326 : decode cX5_moved 326 = .ok (.getfield 35, 3) := by decide +kernel
theorem dX5_moved_329 : decode cX5_moved 329 = .ok (.iload_n 3, 1) := by decide +kernel
theorem dX5_moved_330 : decode cX5_moved 330 = .ok (.laload, 1) := by decide +kernel
theorem dX5_moved_331 : decode cX5_moved 331 = .ok (.aload_n 0, 1) := by decide +kernel
theorem dX5_moved_332 : decode cX5_moved 332 = .ok (.getfield 39, 3) := by decide +kernel
theorem dX5_moved_335 : decode cX5_moved 335 = .ok (.iload_n 3, 1) := by decide +kernel
theorem dX5_moved_336 : decode cX5_moved 336 = .ok (.laload, 1) := by decide +kernel
theorem dX5_moved_337 : decode cX5_moved 337 = .ok (.lcmp, 1) := by decide +kernel
theorem dX5_moved_338 : decode cX5_moved 338 = .ok (.ifCond .ne 70, 3) := by decide +kernel
theorem dX5_moved_341 : decode cX5_moved 341 = .ok (.aload_n 0, 1) := by decide +kernel
theorem dX5_moved_342 : decode cX5_moved 342 = .ok (.getfield 35, 3) := by decide +kernel
theorem dX5_moved_345 : decode cX5_moved 345 = .ok (.iload 5, 2) := by decide +kernel
theorem dX5_moved_347 : decode cX5_moved 347 = .ok (.laload, 1) := by decide +kernel
theorem dX5_moved_348 : decode cX5_moved 348 = .ok (.aload_n 0, 1) := by decide +kernel
theorem dX5_moved_349 : decode cX5_moved 349 = .ok (.getfield 39, 3) := by decide +kernel
theorem dX5_moved_352 : decode cX5_moved 352 = .ok (.iload 5, 2) := by decide +kernel
theorem dX5_moved_354 : decode cX5_moved 354 = .ok (.laload, 1) := by decide +kernel
theorem dX5_moved_355 : decode cX5_moved 355 = .ok (.lcmp, 1) := by decide +kernel
theorem dX5_moved_356 : decode cX5_moved 356 = .ok (.ifCond .ne 52, 3) := by decide +kernel
theorem dX5_moved_359 : decode cX5_moved 359 = .ok (.aload_n 0, 1) := by decide +kernel
theorem dX5_moved_360 : decode cX5_moved 360 = .ok (.getfield 35, 3) := by decide +kernel
theorem dX5_moved_363 : decode cX5_moved 363 = .ok (.iload 6, 2) := by decide +kernel
theorem dX5_moved_365 : decode cX5_moved 365 = .ok (.laload, 1) := by decide +kernel
theorem dX5_moved_366 : decode cX5_moved 366 = .ok (.aload_n 0, 1) := by decide +kernel
theorem dX5_moved_367 : decode cX5_moved 367 = .ok (.getfield 39, 3) := by decide +kernel
theorem dX5_moved_370 : decode cX5_moved 370 = .ok (.iload 6, 2) := by decide +kernel
theorem dX5_moved_372 : decode cX5_moved 372 = .ok (.laload, 1) := by decide +kernel
theorem dX5_moved_373 : decode cX5_moved 373 = .ok (.lcmp, 1) := by decide +kernel
theorem dX5_moved_374 : decode cX5_moved 374 = .ok (.ifCond .ne 34, 3) := by decide +kernel
theorem dX5_moved_377 : decode cX5_moved 377 = .ok (.aload_n 0, 1) := by decide +kernel
theorem dX5_moved_378 : decode cX5_moved 378 = .ok (.iload 11, 2) := by decide +kernel
theorem dX5_moved_380 : decode cX5_moved 380 = .ok (.iload 12, 2) := by decide +kernel
theorem dX5_moved_382 : decode cX5_moved 382 = .ok (.aload_n 0, 1) := by decide +kernel
theorem dX5_moved_383 : decode cX5_moved 383 = .ok (.getfield 35, 3) := by decide +kernel
theorem dX5_moved_386 : decode cX5_moved 386 = .ok (.iload_n 3, 1) := by decide +kernel
theorem dX5_moved_387 : decode cX5_moved 387 = .ok (.laload, 1) := by decide +kernel
theorem dX5_moved_388 : decode cX5_moved 388 = .ok (.aload_n 0, 1) := by decide +kernel
theorem dX5_moved_389 : decode cX5_moved 389 = .ok (.getfield 35, 3) := by decide +kernel
theorem dX5_moved_392 : decode cX5_moved 392 = .ok (.iload 5, 2) := by decide +kernel
theorem dX5_moved_394 : decode cX5_moved 394 = .ok (.laload, 1) := by decide +kernel
theorem dX5_moved_395 : decode cX5_moved 395 = .ok (.aload_n 0, 1) := by decide +kernel
theorem dX5_moved_396 : decode cX5_moved 396 = .ok (.getfield 35, 3) := by decide +kernel
theorem dX5_moved_399 : decode cX5_moved 399 = .ok (.iload 6, 2) := by decide +kernel
theorem dX5_moved_401 : decode cX5_moved 401 = .ok (.laload, 1) := by decide +kernel
theorem dX5_moved_402 : decode cX5_moved 402 = .ok (.invokevirtual 249, 3) := by decide +kernel
theorem dX5_moved_405 : decode cX5_moved 405 = .ok (.goto 171, 3) := by decide +kernel
theorem dX5_moved_408 : decode cX5_moved 408 = .ok (.aload_n 0, 1) := by decide +kernel
theorem dX5_moved_409 : decode cX5_moved 409 = .ok (.getfield 39, 3) := by decide +kernel
theorem dX5_moved_412 : decode cX5_moved 412 = .ok (.iload 6, 2) := by decide +kernel
theorem dX5_moved_414 : decode cX5_moved 414 = .ok (.laload, 1) := by decide +kernel
theorem dX5_moved_415 : decode cX5_moved 415 = .ok (.lconst 0, 1) := by decide +kernel
theorem dX5_moved_416 : decode cX5_moved 416 = .ok (.lcmp, 1) := by decide +kernel
theorem dX5_moved_417 : decode cX5_moved 417 = .ok (.ifCond .le 159, 3) := by decide +kernel
theorem dX5_moved_420 : decode cX5_moved 420 = .ok (.aload_n 0, 1) := by decide +kernel
theorem dX5_moved_421 : decode cX5_moved 421 = .ok (.iload_n 2, 1) := by decide +kernel
theorem dX5_moved_422 : decode cX5_moved 422 = .ok (.aload_n 0, 1) := by decide +kernel
theorem dX5_moved_423 : decode cX5_moved 423 = .ok (.getfield 35, 3) := by decide +kernel
theorem dX5_moved_426 : decode cX5_moved 426 = .ok (.iload_n 3, 1) := by decide +kernel
theorem dX5_moved_427 : decode cX5_moved 427 = .ok (.laload, 1) := by decide +kernel
theorem dX5_moved_428 : decode cX5_moved 428 = .ok (.ldc2_w 167, 3) := by decide +kernel
theorem dX5_moved_431 : decode cX5_moved 431 = .ok (.lcmp, 1) := by decide +kernel
theorem dX5_moved_432 : decode cX5_moved 432 = .ok (.ifCond .ge 12, 3) := by decide +kernel
theorem dX5_moved_435 : decode cX5_moved 435 = .ok (.aload_n 0, 1) := by decide +kernel
theorem dX5_moved_436 : decode cX5_moved 436 = .ok (.getfield 35, 3) := by decide +kernel
theorem dX5_moved_439 : decode cX5_moved 439 = .ok (.iload_n 3, 1) := by decide +kernel
theorem dX5_moved_440 : decode cX5_moved 440 = .ok (.laload, 1) := by decide +kernel
theorem dX5_moved_441 : decode cX5_moved 441 = .ok (.goto 6, 3) := by decide +kernel
theorem dX5_moved_444 : decode cX5_moved 444 = .ok (.ldc2_w 167, 3) := by decide +kernel
theorem dX5_moved_447 : decode cX5_moved 447 = .ok (.aload_n 0, 1) := by decide +kernel
theorem dX5_moved_448 : decode cX5_moved 448 = .ok (.getfield 39, 3) := by decide +kernel
theorem dX5_moved_451 : decode cX5_moved 451 = .ok (.iload_n 3, 1) := by decide +kernel
theorem dX5_moved_452 : decode cX5_moved 452 = .ok (.laload, 1) := by decide +kernel
theorem dX5_moved_453 : decode cX5_moved 453 = .ok (.aload_n 0, 1) := by decide +kernel
theorem dX5_moved_454 : decode cX5_moved 454 = .ok (.getfield 39, 3) := by decide +kernel
theorem dX5_moved_457 : decode cX5_moved 457 = .ok (.iload 6, 2) := by decide +kernel
theorem dX5_moved_459 : decode cX5_moved 459 = .ok (.laload, 1) := by decide +kernel
theorem dX5_moved_460 : decode cX5_moved 460 = .ok (.ladd, 1) := by decide +kernel
theorem dX5_moved_461 : decode cX5_moved 461 = .ok (.invokevirtual 246, 3) := by decide +kernel
theorem dX5_moved_464 : decode cX5_moved 464 = .ok (.aload_n 0, 1) := by decide +kernel
theorem dX5_moved_465 : decode cX5_moved 465 = .ok (.getfield 239, 3) := by decide +kernel
theorem dX5_moved_468 : decode cX5_moved 468 = .ok (.lstore 13, 2) := by decide +kernel
theorem dX5_moved_470 : decode cX5_moved 470 = .ok (.aload_n 0, 1) := by decide +kernel
theorem dX5_moved_471 : decode cX5_moved 471 = .ok (.getfield 243, 3) := by decide +kernel
theorem dX5_moved_474 : decode cX5_moved 474 = .ok (.lstore 15, 2) := by decide +kernel
theorem dX5_moved_476 : decode cX5_moved 476 = .ok (.iconst 0, 1) := by decide +kernel
theorem dX5_moved_477 : decode cX5_moved 477 = .ok (.istore 17, 2) := by decide +kernel
theorem dX5_moved_479 : decode cX5_moved 479 = .ok (.iload 17, 2) := by decide +kernel
theorem dX5_moved_481 : decode cX5_moved 481 = .ok (.bipush 40, 2) := by decide +kernel
theorem dX5_moved_483 : decode cX5_moved 483 = .ok (.if_icmp .ge 93, 3) := by decide +kernel
theorem dX5_moved_486 : decode cX5_moved 486 = .ok (.lload 13, 2) := by decide +kernel
theorem dX5_moved_488 : decode cX5_moved 488 = .ok (.lload 15, 2) := by decide +kernel
theorem dX5_moved_490 : decode cX5_moved 490 = .ok (.lcmp, 1) := by decide +kernel
theorem dX5_moved_491 : decode cX5_moved 491 = .ok (.ifCond .gt 85, 3) := by decide +kernel
theorem dX5_moved_494 : decode cX5_moved 494 = .ok (.aload_n 0, 1) := by decide +kernel
theorem dX5_moved_495 : decode cX5_moved 495 = .ok (.getfield 35, 3) := by decide +kernel
theorem dX5_moved_498 : decode cX5_moved 498 = .ok (.iload 5, 2) := by decide +kernel
theorem dX5_moved_500 : decode cX5_moved 500 = .ok (.laload, 1) := by decide +kernel
theorem dX5_moved_501 : decode cX5_moved 501 = .ok (.lstore 18, 2) := by decide +kernel
theorem dX5_moved_503 : decode cX5_moved 503 = .ok (.aload_n 0, 1) := by decide +kernel
theorem dX5_moved_504 : decode cX5_moved 504 = .ok (.iload 4, 2) := by decide +kernel
theorem dX5_moved_506 : decode cX5_moved 506 = .ok (.iload 17, 2) := by decide +kernel
theorem dX5_moved_508 : decode cX5_moved 508 = .ok (.invokevirtual 169, 3) := by decide +kernel
theorem dX5_moved_511 : decode cX5_moved 511 = .ok (.ifCond .eq 59, 3) := by decide +kernel
theorem dX5_moved_514 : decode cX5_moved 514 = .ok (.lload 18, 2) := by decide +kernel
theorem dX5_moved_516 : decode cX5_moved 516 = .ok (.aload_n 0, 1) := by decide +kernel
theorem dX5_moved_517 : decode cX5_moved 517 = .ok (.getfield 39, 3) := by decide +kernel
theorem dX5_moved_520 : decode cX5_moved 520 = .ok (.iload 5, 2) := by decide +kernel
theorem dX5_moved_522 : decode cX5_moved 522 = .ok (.laload, 1) := by decide +kernel
theorem dX5_moved_523 : decode cX5_moved 523 = .ok (.aload_n 0, 1) := by decide +kernel
theorem dX5_moved_524 : decode cX5_moved 524 = .ok (.getfield 39, 3) := by decide +kernel
theorem dX5_moved_527 : decode cX5_moved 527 = .ok (.iload 6, 2) := by decide +kernel
theorem dX5_moved_529 : decode cX5_moved 529 = .ok (.laload, 1) := by decide +kernel
theorem dX5_moved_530 : decode cX5_moved 530 = .ok (.ladd, 1) := by decide +kernel
theorem dX5_moved_531 : decode cX5_moved 531 = .ok (.lcmp, 1) := by decide +kernel
theorem dX5_moved_532 : decode cX5_moved 532 = .ok (.ifCond .ge 38, 3) := by decide +kernel
theorem dX5_moved_535 : decode cX5_moved 535 = .ok (.lload 18, 2) := by decide +kernel
theorem dX5_moved_537 : decode cX5_moved 537 = .ok (.aload_n 0, 1) := by decide +kernel
theorem dX5_moved_538 : decode cX5_moved 538 = .ok (.getfield 57, 3) := by decide +kernel
theorem dX5_moved_541 : decode cX5_moved 541 = .ok (.iload 17, 2) := by decide +kernel
theorem dX5_moved_543 : decode cX5_moved 543 = .ok (.laload, 1) := by decide +kernel
theorem dX5_moved_544 : decode cX5_moved 544 = .ok (.lcmp, 1) := by decide +kernel
theorem dX5_moved_545 : decode cX5_moved 545 = .ok (.ifCond .ge 25, 3) := by decide +kernel
theorem dX5_moved_548 : decode cX5_moved 548 = .ok (.aload_n 0, 1) := by decide +kernel
theorem dX5_moved_549 : decode cX5_moved 549 = .ok (.iload 17, 2) := by decide +kernel
theorem dX5_moved_551 : decode cX5_moved 551 = .ok (.lload 18, 2) := by decide +kernel
theorem dX5_moved_553 : decode cX5_moved 553 = .ok (.l2i, 1) := by decide +kernel
theorem dX5_moved_554 : decode cX5_moved 554 = .ok (.lload 13, 2) := by decide +kernel
theorem dX5_moved_556 : decode cX5_moved 556 = .ok (.lload 15, 2) := by decide +kernel
theorem dX5_moved_558 : decode cX5_moved 558 = .ok (.invokevirtual 150, 3) := by decide +kernel
theorem dX5_moved_561 : decode cX5_moved 561 = .ok (.lload 18, 2) := by decide +kernel
theorem dX5_moved_563 : decode cX5_moved 563 = .ok (.lconst 1, 1) := by decide +kernel
theorem dX5_moved_564 : decode cX5_moved 564 = .ok (.ladd, 1) := by decide +kernel
theorem dX5_moved_565 : decode cX5_moved 565 = .ok (.lstore 18, 2) := by decide +kernel
theorem dX5_moved_567 : decode cX5_moved 567 = .ok (.goto (-64), 3) := by decide +kernel
theorem dX5_moved_570 : decode cX5_moved 570 = .ok (.iinc 17 1, 3) := by decide +kernel
theorem dX5_moved_573 : decode cX5_moved 573 = .ok (.goto (-94), 3) := by decide +kernel
theorem dX5_moved_576 : decode cX5_moved 576 = .ok (.return_, 1) := by decide +kernel
theorem dX5_strong_0 : decode cX5_strong 0 = .ok (.iconst 0, 1) := by decide +kernel
theorem dX5_strong_1 : decode cX5_strong 1 = .ok (.istore 9, 2) := by decide +kernel
theorem dX5_strong_3 : decode cX5_strong 3 = .ok (.iload 9, 2) := by decide +kernel
theorem dX5_strong_5 : decode cX5_strong 5 = .ok (.bipush 12, 2) := by decide +kernel
theorem dX5_strong_7 : decode cX5_strong 7 = .ok (.if_icmp .ge 47, 3) := by decide +kernel
theorem dX5_strong_10 : decode cX5_strong 10 = .ok (.aload_n 0, 1) := by decide +kernel
theorem dX5_strong_11 : decode cX5_strong 11 = .ok (.getfield 90, 3) := by decide +kernel
theorem dX5_strong_14 : decode cX5_strong 14 = .ok (.iload 9, 2) := by decide +kernel
theorem dX5_strong_16 : decode cX5_strong 16 = .ok (.aload_n 0, 1) := by decide +kernel
theorem dX5_strong_17 : decode cX5_strong 17 = .ok (.getfield 60, 3) := by decide +kernel
theorem dX5_strong_20 : decode cX5_strong 20 = .ok (.bipush 12, 2) := by decide +kernel
theorem dX5_strong_22 : decode cX5_strong 22 = .ok (.iload_n 1, 1) := by decide +kernel
theorem dX5_strong_23 : decode cX5_strong 23 = .ok (.imul, 1) := by decide +kernel
theorem dX5_strong_24 : decode cX5_strong 24 = .ok (.iload 9, 2) := by decide +kernel
theorem dX5_strong_26 : decode cX5_strong 26 = .ok (.iadd, 1) := by decide +kernel
theorem dX5_strong_27 : decode cX5_strong 27 = .ok (.laload, 1) := by decide +kernel
theorem dX5_strong_28 : decode cX5_strong 28 = .ok (.lastore, 1) := by decide +kernel
theorem dX5_strong_29 : decode cX5_strong 29 = .ok (.aload_n 0, 1) := by decide +kernel
theorem dX5_strong_30 : decode cX5_strong 30 = .ok (.getfield 93, 3) := by decide +kernel
theorem dX5_strong_33 : decode cX5_strong 33 = .ok (.iload 9, 2) := by decide +kernel
theorem dX5_strong_35 : decode cX5_strong 35 = .ok (.aload_n 0, 1) := by decide +kernel
theorem dX5_strong_36 : decode cX5_strong 36 = .ok (.getfield 63, 3) := by decide +kernel
theorem dX5_strong_39 : decode cX5_strong 39 = .ok (.bipush 12, 2) := by decide +kernel
theorem dX5_strong_41 : decode cX5_strong 41 = .ok (.iload_n 1, 1) := by decide +kernel
theorem dX5_strong_42 : decode cX5_strong 42 = .ok (.imul, 1) := by decide +kernel
theorem dX5_strong_43 : decode cX5_strong 43 = .ok (.iload 9, 2) := by decide +kernel
theorem dX5_strong_45 : decode cX5_strong 45 = .ok (.iadd, 1) := by decide +kernel
theorem dX5_strong_46 : decode cX5_strong 46 = .ok (.laload, 1) := by decide +kernel
theorem dX5_strong_47 : decode cX5_strong 47 = .ok (.lastore, 1) := by decide +kernel
theorem dX5_strong_48 : decode cX5_strong 48 = .ok (.iinc 9 1, 3) := by decide +kernel
theorem dX5_strong_51 : decode cX5_strong 51 = .ok (.goto (-48), 3) := by decide +kernel
theorem dX5_strong_54 : decode cX5_strong 54 = .ok (.lconst 0, 1) := by decide +kernel
theorem dX5_strong_55 : decode cX5_strong 55 = .ok (.lstore 9, 2) := by decide +kernel
theorem dX5_strong_57 : decode cX5_strong 57 = .ok (.lload 9, 2) := by decide +kernel
theorem dX5_strong_59 : decode cX5_strong 59 = .ok (.lload 7, 2) := by decide +kernel
theorem dX5_strong_61 : decode cX5_strong 61 = .ok (.lcmp, 1) := by decide +kernel
theorem dX5_strong_62 : decode cX5_strong 62 = .ok (.ifCond .ge 87, 3) := by decide +kernel
theorem dX5_strong_65 : decode cX5_strong 65 = .ok (.lload_n 3, 1) := by decide +kernel
theorem dX5_strong_66 : decode cX5_strong 66 = .ok (.lload 9, 2) := by decide +kernel
theorem dX5_strong_68 : decode cX5_strong 68 = .ok (.ladd, 1) := by decide +kernel
theorem dX5_strong_69 : decode cX5_strong 69 = .ok (.ldc2_w 202, 3) := by decide +kernel
theorem dX5_strong_72 : decode cX5_strong 72 = .ok (.lcmp, 1) := by decide +kernel
theorem dX5_strong_73 : decode cX5_strong 73 = .ok (.ifCond .ge 76, 3) := by decide +kernel
theorem dX5_strong_76 : decode cX5_strong 76 = .ok (.lload 5, 2) := by decide +kernel
theorem dX5_strong_78 : decode cX5_strong 78 = .ok (.lload 9, 2) := by decide +kernel
theorem dX5_strong_80 : decode cX5_strong 80 = .ok (.ladd, 1) := by decide +kernel
theorem dX5_strong_81 : decode cX5_strong 81 = .ok (.ldc2_w 202, 3) := by decide +kernel
theorem dX5_strong_84 : decode cX5_strong 84 = .ok (.lcmp, 1) := by decide +kernel
theorem dX5_strong_85 : decode cX5_strong 85 = .ok (.ifCond .ge 64, 3) := by decide +kernel
theorem dX5_strong_88 : decode cX5_strong 88 = .ok (.aload_n 0, 1) := by decide +kernel
theorem dX5_strong_89 : decode cX5_strong 89 = .ok (.getfield 60, 3) := by decide +kernel
theorem dX5_strong_92 : decode cX5_strong 92 = .ok (.bipush 12, 2) := by decide +kernel
theorem dX5_strong_94 : decode cX5_strong 94 = .ok (.iload_n 2, 1) := by decide +kernel
theorem dX5_strong_95 : decode cX5_strong 95 = .ok (.imul, 1) := by decide +kernel
theorem dX5_strong_96 : decode cX5_strong 96 = .ok (.lload 5, 2) := by decide +kernel
theorem dX5_strong_98 : decode cX5_strong 98 = .ok (.lload 9, 2) := by decide +kernel
theorem dX5_strong_100 : decode cX5_strong 100 = .ok (.ladd, 1) := by decide +kernel
theorem dX5_strong_101 : decode cX5_strong 101 = .ok (.l2i, 1) := by decide +kernel
theorem dX5_strong_102 : decode cX5_strong 102 = .ok (.iadd, 1) := by decide +kernel
theorem dX5_strong_103 : decode cX5_strong 103 = .ok (.aload_n 0, 1) := by decide +kernel
theorem dX5_strong_104 : decode cX5_strong 104 = .ok (.getfield 90, 3) := by decide +kernel
theorem dX5_strong_107 : decode cX5_strong 107 = .ok (.lload_n 3, 1) := by decide +kernel
theorem dX5_strong_108 : decode cX5_strong 108 = .ok (.lload 9, 2) := by decide +kernel
theorem dX5_strong_110 : decode cX5_strong 110 = .ok (.ladd, 1) := by decide +kernel
theorem dX5_strong_111 : decode cX5_strong 111 = .ok (.l2i, 1) := by decide +kernel
theorem dX5_strong_112 : decode cX5_strong 112 = .ok (.laload, 1) := by decide +kernel
theorem dX5_strong_113 : decode cX5_strong 113 = .ok (.lastore, 1) := by decide +kernel
theorem dX5_strong_114 : decode cX5_strong 114 = .ok (.aload_n 0, 1) := by decide +kernel
theorem dX5_strong_115 : decode cX5_strong 115 = .ok (.getfield 63, 3) := by decide +kernel
theorem dX5_strong_118 : decode cX5_strong 118 = .ok (.bipush 12, 2) := by decide +kernel
theorem dX5_strong_120 : decode cX5_strong 120 = .ok (.iload_n 2, 1) := by decide +kernel
theorem dX5_strong_121 : decode cX5_strong 121 = .ok (.imul, 1) := by decide +kernel
theorem dX5_strong_122 : decode cX5_strong 122 = .ok (.lload 5, 2) := by decide +kernel
theorem dX5_strong_124 : decode cX5_strong 124 = .ok (.lload 9, 2) := by decide +kernel
theorem dX5_strong_126 : decode cX5_strong 126 = .ok (.ladd, 1) := by decide +kernel
theorem dX5_strong_127 : decode cX5_strong 127 = .ok (.l2i, 1) := by decide +kernel
theorem dX5_strong_128 : decode cX5_strong 128 = .ok (.iadd, 1) := by decide +kernel
theorem dX5_strong_129 : decode cX5_strong 129 = .ok (.aload_n 0, 1) := by decide +kernel
theorem dX5_strong_130 : decode cX5_strong 130 = .ok (.getfield 93, 3) := by decide +kernel
theorem dX5_strong_133 : decode cX5_strong 133 = .ok (.lload_n 3, 1) := by decide +kernel
theorem dX5_strong_134 : decode cX5_strong 134 = .ok (.lload 9, 2) := by decide +kernel
theorem dX5_strong_136 : decode cX5_strong 136 = .ok (.ladd, 1) := by decide +kernel
theorem dX5_strong_137 : decode cX5_strong 137 = .ok (.l2i, 1) := by decide +kernel
theorem dX5_strong_138 : decode cX5_strong 138 = .ok (.laload, 1) := by decide +kernel
theorem dX5_strong_139 : decode cX5_strong 139 = .ok (.lastore, 1) := by decide +kernel
theorem dX5_strong_140 : decode cX5_strong 140 = .ok (.lload 9, 2) := by decide +kernel
theorem dX5_strong_142 : decode cX5_strong 142 = .ok (.lconst 1, 1) := by decide +kernel
theorem dX5_strong_143 : decode cX5_strong 143 = .ok (.ladd, 1) := by decide +kernel
theorem dX5_strong_144 : decode cX5_strong 144 = .ok (.lstore 9, 2) := by decide +kernel
theorem dX5_strong_146 : decode cX5_strong 146 = .ok (.goto (-89), 3) := by decide +kernel
theorem dX5_strong_149 : decode cX5_strong 149 = .ok (.return_, 1) := by decide +kernel
theorem dX5_filled_0 : decode cX5_filled 0 = .ok (.aload_n 0, 1) := by decide +kernel
theorem dX5_filled_1 : decode cX5_filled 1 = .ok (.getfield 13, 3) := by decide +kernel
theorem dX5_filled_4 : decode cX5_filled 4 = .ok (.iload_n 1, 1) := by decide +kernel
theorem dX5_filled_5 : decode cX5_filled 5 = .ok (.iaload, 1) := by decide +kernel
theorem dX5_filled_6 : decode cX5_filled 6 = .ok (.istore_n 2, 1) := by decide +kernel
theorem dX5_filled_7 : decode cX5_filled 7 = .ok (.aload_n 0, 1) := by decide +kernel
theorem dX5_filled_8 : decode cX5_filled 8 = .ok (.getfield 16, 3) := by decide +kernel
theorem dX5_filled_11 : decode cX5_filled 11 = .ok (.iload_n 1, 1) := by decide +kernel
theorem dX5_filled_12 : decode cX5_filled 12 = .ok (.iaload, 1) := by decide +kernel
theorem dX5_filled_13 : decode cX5_filled 13 = .ok (.istore_n 3, 1) := by decide +kernel
theorem dX5_filled_14 : decode cX5_filled 14 = .ok (.aload_n 0, 1) := by decide +kernel
theorem dX5_filled_15 : decode cX5_filled 15 = .ok (.getfield 19, 3) := by decide +kernel
theorem dX5_filled_18 : decode cX5_filled 18 = .ok (.iload_n 1, 1) := by decide +kernel
theorem dX5_filled_19 : decode cX5_filled 19 = .ok (.iaload, 1) := by decide +kernel
theorem dX5_filled_20 : decode cX5_filled 20 = .ok (.istore 4, 2) := by decide +kernel
theorem dX5_filled_22 : decode cX5_filled 22 = .ok (.aload_n 0, 1) := by decide +kernel
theorem dX5_filled_23 : decode cX5_filled 23 = .ok (.getfield 22, 3) := by decide +kernel
theorem dX5_filled_26 : decode cX5_filled 26 = .ok (.iload_n 1, 1) := by decide +kernel
theorem dX5_filled_27 : decode cX5_filled 27 = .ok (.iaload, 1) := by decide +kernel
theorem dX5_filled_28 : decode cX5_filled 28 = .ok (.istore 5, 2) := by decide +kernel
theorem dX5_filled_30 : decode cX5_filled 30 = .ok (.aload_n 0, 1) := by decide +kernel
theorem dX5_filled_31 : decode cX5_filled 31 = .ok (.getfield 25, 3) := by decide +kernel
theorem dX5_filled_34 : decode cX5_filled 34 = .ok (.iload_n 1, 1) := by decide +kernel
theorem dX5_filled_35 : decode cX5_filled 35 = .ok (.iaload, 1) := by decide +kernel
theorem dX5_filled_36 : decode cX5_filled 36 = .ok (.istore 6, 2) := by decide +kernel
theorem dX5_filled_38 : decode cX5_filled 38 = .ok (.aload_n 0, 1) := by decide +kernel
theorem dX5_filled_39 : decode cX5_filled 39 = .ok (.getfield 35, 3) := by decide +kernel
theorem dX5_filled_42 : decode cX5_filled 42 = .ok (.iload 4, 2) := by decide +kernel
theorem dX5_filled_44 : decode cX5_filled 44 = .ok (.laload, 1) := by decide +kernel
theorem dX5_filled_45 : decode cX5_filled 45 = .ok (.aload_n 0, 1) := by decide +kernel
theorem dX5_filled_46 : decode cX5_filled 46 = .ok (.getfield 39, 3) := by decide +kernel
theorem dX5_filled_49 : decode cX5_filled 49 = .ok (.iload 5, 2) := by decide +kernel
theorem dX5_filled_51 : decode cX5_filled 51 = .ok (.laload, 1) := by decide +kernel
theorem dX5_filled_52 : decode cX5_filled 52 = .ok (.lcmp, 1) := by decide +kernel
theorem dX5_filled_53 : decode cX5_filled 53 = .ok (.ifCond .lt 4, 3) := by decide +kernel
theorem dX5_filled_56 : decode cX5_filled 56 = .ok (.return_, 1) := by decide +kernel
theorem dX5_filled_57 : decode cX5_filled 57 = .ok (.aload_n 0, 1) := by decide +kernel
theorem dX5_filled_58 : decode cX5_filled 58 = .ok (.iload_n 1, 1) := by decide +kernel
theorem dX5_filled_59 : decode cX5_filled 59 = .ok (.iconst 1, 1) := by decide +kernel
theorem dX5_filled_60 : decode cX5_filled 60 = .ok (.aload_n 0, 1) := by decide +kernel
theorem dX5_filled_61 : decode cX5_filled 61 = .ok (.getfield 45, 3) := by decide +kernel
theorem dX5_filled_64 : decode cX5_filled 64 = .ok (.iload_n 2, 1) := by decide +kernel
theorem dX5_filled_65 : decode cX5_filled 65 = .ok (.baload, 1) := by decide +kernel
theorem dX5_filled_66 : decode cX5_filled 66 = .ok (.invokevirtual 198, 3) := by decide +kernel
theorem dX5_filled_69 : decode cX5_filled 69 = .ok (.aload_n 0, 1) := by decide +kernel
theorem dX5_filled_70 : decode cX5_filled 70 = .ok (.iload_n 1, 1) := by decide +kernel
theorem dX5_filled_71 : decode cX5_filled 71 = .ok (.iconst 2, 1) := by decide +kernel
theorem dX5_filled_72 : decode cX5_filled 72 = .ok (.aload_n 0, 1) := by decide +kernel
theorem dX5_filled_73 : decode cX5_filled 73 = .ok (.iload_n 2, 1) := by decide +kernel
theorem dX5_filled_74 : decode cX5_filled 74 = .ok (.invokevirtual 213, 3) := by decide +kernel
theorem dX5_filled_77 : decode cX5_filled 77 = .ok (.iconst 1, 1) := by decide +kernel
theorem dX5_filled_78 : decode cX5_filled 78 = .ok (.iload_n 3, 1) := by decide +kernel
theorem dX5_filled_79 : decode cX5_filled 79 = .ok (.ishl, 1) := by decide +kernel
theorem dX5_filled_80 : decode cX5_filled 80 = .ok (.iconst (-1), 1) := by decide +kernel
theorem dX5_filled_81 : decode cX5_filled 81 = .ok (.ixor, 1) := by decide +kernel
theorem dX5_filled_82 : decode cX5_filled 82 = .ok (.iand, 1) := by decide +kernel
theorem dX5_filled_83 : decode cX5_filled 83 = .ok (.ifCond .eq 7, 3) := by decide +kernel
theorem dX5_filled_86 : decode cX5_filled 86 = .ok (.iconst 1, 1) := by decide +kernel
theorem dX5_filled_87 : decode cX5_filled 87 = .ok (.goto 4, 3) := by decide +kernel
theorem dX5_filled_90 : decode cX5_filled 90 = .ok (.iconst 0, 1) := by decide +kernel
theorem dX5_filled_91 : decode cX5_filled 91 = .ok (.invokevirtual 198, 3) := by decide +kernel
theorem dX5_filled_94 : decode cX5_filled 94 = .ok (.aload_n 0, 1) := by decide +kernel
theorem dX5_filled_95 : decode cX5_filled 95 = .ok (.iload_n 1, 1) := by decide +kernel
theorem dX5_filled_96 : decode cX5_filled 96 = .ok (.iconst 5, 1) := by decide +kernel
theorem dX5_filled_97 : decode cX5_filled 97 = .ok (.aload_n 0, 1) := by decide +kernel
theorem dX5_filled_98 : decode cX5_filled 98 = .ok (.getfield 35, 3) := by decide +kernel
theorem dX5_filled_101 : decode cX5_filled 101 = .ok (.iload 4, 2) := by decide +kernel
theorem dX5_filled_103 : decode cX5_filled 103 = .ok (.laload, 1) := by decide +kernel
theorem dX5_filled_104 : decode cX5_filled 104 = .ok (.lconst 0, 1) := by decide +kernel
theorem dX5_filled_105 : decode cX5_filled 105 = .ok (.lcmp, 1) := by decide +kernel
theorem dX5_filled_106 : decode cX5_filled 106 = .ok (.ifCond .lt 30, 3) := by decide +kernel
theorem dX5_filled_109 : decode cX5_filled 109 = .ok (.aload_n 0, 1) := by decide +kernel
theorem dX5_filled_110 : decode cX5_filled 110 = .ok (.getfield 42, 3) := by decide +kernel
theorem dX5_filled_113 : decode cX5_filled 113 = .ok (.iload_n 2, 1) := by decide +kernel
theorem dX5_filled_114 : decode cX5_filled 114 = .ok (.laload, 1) := by decide +kernel
theorem dX5_filled_115 : decode cX5_filled 115 = .ok (.lconst 0, 1) := by decide +kernel
theorem dX5_filled_116 : decode cX5_filled 116 = .ok (.lcmp, 1) := by decide +kernel
theorem dX5_filled_117 : decode cX5_filled 117 = .ok (.ifCond .eq 23, 3) := by decide +kernel
theorem dX5_filled_120 : decode cX5_filled 120 = .ok (.aload_n 0, 1) := by decide +kernel
theorem dX5_filled_121 : decode cX5_filled 121 = .ok (.getfield 39, 3) := by decide +kernel
theorem dX5_filled_124 : decode cX5_filled 124 = .ok (.iload 5, 2) := by decide +kernel
theorem dX5_filled_126 : decode cX5_filled 126 = .ok (.laload, 1) := by decide +kernel
theorem dX5_filled_127 : decode cX5_filled 127 = .ok (.aload_n 0, 1) := by decide +kernel
theorem dX5_filled_128 : decode cX5_filled 128 = .ok (.iload_n 2, 1) := by decide +kernel
theorem dX5_filled_129 : decode cX5_filled 129 = .ok (.invokevirtual 217, 3) := by decide +kernel
theorem dX5_filled_132 : decode cX5_filled 132 = .ok (.lcmp, 1) := by decide +kernel
theorem dX5_filled_133 : decode cX5_filled 133 = .ok (.ifCond .le 7, 3) := by decide +kernel
theorem dX5_filled_136 : decode cX5_filled 136 = .ok (.iconst 1, 1) := by decide +kernel
theorem dX5_filled_137 : decode cX5_filled 137 = .ok (.goto 4, 3) := by decide +kernel
theorem dX5_filled_140 : decode cX5_filled 140 = .ok (.iconst 0, 1) := by decide +kernel
theorem dX5_filled_141 : decode cX5_filled 141 = .ok (.invokevirtual 198, 3) := by decide +kernel
theorem dX5_filled_144 : decode cX5_filled 144 = .ok (.aload_n 0, 1) := by decide +kernel
theorem dX5_filled_145 : decode cX5_filled 145 = .ok (.getfield 35, 3) := by decide +kernel
theorem dX5_filled_148 : decode cX5_filled 148 = .ok (.iload 6, 2) := by decide +kernel
theorem dX5_filled_150 : decode cX5_filled 150 = .ok (.laload, 1) := by decide +kernel
theorem dX5_filled_151 : decode cX5_filled 151 = .ok (.aload_n 0, 1) := by decide +kernel
theorem dX5_filled_152 : decode cX5_filled 152 = .ok (.getfield 39, 3) := by decide +kernel
theorem dX5_filled_155 : decode cX5_filled 155 = .ok (.iload 6, 2) := by decide +kernel
theorem dX5_filled_157 : decode cX5_filled 157 = .ok (.laload, 1) := by decide +kernel
theorem dX5_filled_158 : decode cX5_filled 158 = .ok (.iload_n 3, 1) := by decide +kernel
theorem dX5_filled_159 : decode cX5_filled 159 = .ok (.invokestatic 229, 3) := by decide +kernel
theorem dX5_filled_162 : decode cX5_filled 162 = .ok (.lstore 7, 2) := by decide +kernel
theorem dX5_filled_164 : decode cX5_filled 164 = .ok (.aload_n 0, 1) := by decide +kernel
theorem dX5_filled_165 : decode cX5_filled 165 = .ok (.getfield 35, 3) := by decide +kernel
theorem dX5_filled_168 : decode cX5_filled 168 = .ok (.iload 6, 2) := by decide +kernel
theorem dX5_filled_170 : decode cX5_filled 170 = .ok (.laload, 1) := by decide +kernel
theorem dX5_filled_171 : decode cX5_filled 171 = .ok (.aload_n 0, 1) := by decide +kernel
theorem dX5_filled_172 : decode cX5_filled 172 = .ok (.getfield 39, 3) := by decide +kernel
theorem dX5_filled_175 : decode cX5_filled 175 = .ok (.iload 6, 2) := by decide +kernel
theorem dX5_filled_177 : decode cX5_filled 177 = .ok (.laload, 1) := by decide +kernel
theorem dX5_filled_178 : decode cX5_filled 178 = .ok (.iload_n 3, 1) := by decide +kernel
theorem dX5_filled_179 : decode cX5_filled 179 = .ok (.invokestatic 233, 3) := by decide +kernel
theorem dX5_filled_182 : decode cX5_filled 182 = .ok (.lstore 9, 2) := by decide +kernel
theorem dX5_filled_184 : decode cX5_filled 184 = .ok (.aload_n 0, 1) := by decide +kernel
theorem dX5_filled_185 : decode cX5_filled 185 = .ok (.iload_n 2, 1) := by decide +kernel
theorem dX5_filled_186 : decode cX5_filled 186 = .ok (.invokevirtual 236, 3) := by decide +kernel
theorem dX5_filled_189 : decode cX5_filled 189 = .ok (.istore 11, 2) := by decide +kernel
theorem dX5_filled_191 : decode cX5_filled 191 = .ok (.iconst 0, 1) := by decide +kernel
theorem dX5_filled_192 : decode cX5_filled 192 = .ok (.istore 12, 2) := by decide +kernel
theorem dX5_filled_194 : decode cX5_filled 194 = .ok (.iload 12, 2) := by decide +kernel
theorem dX5_filled_196 : decode cX5_filled 196 = .ok (.bipush 40, 2) := by decide +kernel
theorem dX5_filled_198 : decode cX5_filled 198 = .ok (.if_icmp .ge 181, 3) := by decide +kernel
theorem dX5_filled_201 : decode cX5_filled 201 = .ok (.aload_n 0, 1) := by decide +kernel
theorem dX5_filled_202 : decode cX5_filled 202 = .ok (.iload_n 2, 1) := by decide +kernel
theorem dX5_filled_203 : decode cX5_filled 203 = .ok (.iload 12, 2) := by decide +kernel
theorem dX5_filled_205 : decode cX5_filled 205 = .ok (.invokevirtual 169, 3) := by decide +kernel
theorem dX5_filled_208 : decode cX5_filled 208 = .ok (.ifCond .eq 165, 3) := by decide +kernel
theorem dX5_filled_211 : decode cX5_filled 211 = .ok (.aload_n 0, 1) := by decide +kernel
theorem dX5_filled_212 : decode cX5_filled 212 = .ok (.getfield 51, 3) := by decide +kernel
theorem dX5_filled_215 : decode cX5_filled 215 = .ok (.iload 12, 2) := by decide +kernel
theorem dX5_filled_217 : decode cX5_filled 217 = .ok (.iaload, 1) := by decide +kernel
theorem dX5_filled_218 : decode cX5_filled 218 = .ok (.iload_n 3, 1) := by decide +kernel
theorem dX5_filled_219 : decode cX5_filled 219 = .ok (.ishr, 1) := by decide +kernel
theorem dX5_filled_220 : decode cX5_filled 220 = .ok (.iconst 1, 1) := by decide +kernel
theorem dX5_filled_221 : decode cX5_filled 221 = .ok (.iand, 1) := by decide +kernel
theorem dX5_filled_222 : decode cX5_filled 222 = .ok (.iconst 1, 1) := by decide +kernel
theorem dX5_filled_223 : decode cX5_filled 223 = .ok (.if_icmp .ne 150, 3) := by decide +kernel
theorem dX5_filled_226 : decode cX5_filled 226 = .ok (.aload_n 0, 1) := by decide +kernel
theorem dX5_filled_227 : decode cX5_filled 227 = .ok (.getfield 35, 3) := by decide +kernel
theorem dX5_filled_230 : decode cX5_filled 230 = .ok (.iload 4, 2) := by decide +kernel
theorem dX5_filled_232 : decode cX5_filled 232 = .ok (.laload, 1) := by decide +kernel
theorem dX5_filled_233 : decode cX5_filled 233 = .ok (.lconst 0, 1) := by decide +kernel
theorem dX5_filled_234 : decode cX5_filled 234 = .ok (.lcmp, 1) := by decide +kernel
theorem dX5_filled_235 : decode cX5_filled 235 = .ok (.ifCond .ge 7, 3) := by decide +kernel
theorem dX5_filled_238 : decode cX5_filled 238 = .ok (.lconst 0, 1) := by decide +kernel
theorem dX5_filled_239 : decode cX5_filled 239 = .ok (.goto 10, 3) := by decide +kernel
theorem dX5_filled_242 : decode cX5_filled 242 = .ok (.aload_n 0, 1) := by decide +kernel
theorem dX5_filled_243 : decode cX5_filled 243 = .ok (.getfield 35, 3) := by decide +kernel
theorem dX5_filled_246 : decode cX5_filled 246 = .ok (.iload 4, 2) := by decide +kernel
theorem dX5_filled_248 : decode cX5_filled 248 = .ok (.laload, 1) := by decide +kernel
theorem dX5_filled_249 : decode cX5_filled 249 = .ok (.lstore 13, 2) := by decide +kernel
theorem dX5_filled_251 : decode cX5_filled 251 = .ok (.lload 13, 2) := by decide +kernel
theorem dX5_filled_253 : decode cX5_filled 253 = .ok (.aload_n 0, 1) := by decide +kernel
theorem dX5_filled_254 : decode cX5_filled 254 = .ok (.getfield 39, 3) := by decide +kernel
theorem dX5_filled_257 : decode cX5_filled 257 = .ok (.iload 5, 2) := by decide +kernel
theorem dX5_filled_259 : decode cX5_filled 259 = .ok (.laload, 1) := by decide +kernel
theorem dX5_filled_260 : decode cX5_filled 260 = .ok (.lcmp, 1) := by decide +kernel
theorem dX5_filled_261 : decode cX5_filled 261 = .ok (.ifCond .ge 112, 3) := by decide +kernel
theorem dX5_filled_264 : decode cX5_filled 264 = .ok (.lload 13, 2) := by decide +kernel
theorem dX5_filled_266 : decode cX5_filled 266 = .ok (.ldc2_w 202, 3) := by decide +kernel
theorem dX5_filled_269 : decode cX5_filled 269 = .ok (.lcmp, 1) := by decide +kernel
theorem dX5_filled_270 : decode cX5_filled 270 = .ok (.ifCond .ge 103, 3) := by decide +kernel
theorem dX5_filled_273 : decode cX5_filled 273 = .ok (.lload 13, 2) := by decide +kernel
theorem dX5_filled_275 : decode cX5_filled 275 = .ok (.aload_n 0, 1) := by decide +kernel
theorem dX5_filled_276 : decode cX5_filled 276 = .ok (.getfield 57, 3) := by decide +kernel
theorem dX5_filled_279 : decode cX5_filled 279 = .ok (.iload 12, 2) := by decide +kernel
theorem dX5_filled_281 : decode cX5_filled 281 = .ok (.laload, 1) := by decide +kernel
theorem dX5_filled_282 : decode cX5_filled 282 = .ok (.lcmp, 1) := by decide +kernel
theorem dX5_filled_283 : decode cX5_filled 283 = .ok (.ifCond .ge 90, 3) := by decide +kernel
theorem dX5_filled_286 : decode cX5_filled 286 = .ok (.aload_n 0, 1) := by decide +kernel
theorem dX5_filled_287 : decode cX5_filled 287 = .ok (.iload 12, 2) := by decide +kernel
theorem dX5_filled_289 : decode cX5_filled 289 = .ok (.lload 13, 2) := by decide +kernel
theorem dX5_filled_291 : decode cX5_filled 291 = .ok (.l2i, 1) := by decide +kernel
theorem dX5_filled_292 : decode cX5_filled 292 = .ok (.lload 7, 2) := by decide +kernel
theorem dX5_filled_294 : decode cX5_filled 294 = .ok (.lload 9, 2) := by decide +kernel
theorem dX5_filled_296 : decode cX5_filled 296 = .ok (.invokevirtual 150, 3) := by decide +kernel
theorem dX5_filled_299 : decode cX5_filled 299 = .ok (.iload 12, 2) := by decide +kernel
theorem dX5_filled_301 : decode cX5_filled 301 = .ok (.iload 11, 2) := by decide +kernel
theorem dX5_filled_303 : decode cX5_filled 303 = .ok (.if_icmp .ne 61, 3) := by decide +kernel
theorem dX5_filled_306 : decode cX5_filled 306 = .ok (.lload 13, 2) := by decide +kernel
theorem dX5_filled_308 : decode cX5_filled 308 = .ok (.aload_n 0, 1) := by decide +kernel
theorem dX5_filled_309 : decode cX5_filled 309 = .ok (.getfield 39, 3) := by decide +kernel
theorem dX5_filled_312 : decode cX5_filled 312 = .ok (.iload 4, 2) := by decide +kernel
theorem dX5_filled_314 : decode cX5_filled 314 = .ok (.laload, 1) := by decide +kernel
theorem dX5_filled_315 : decode cX5_filled 315 = .ok (.lcmp, 1) := by decide +kernel
theorem dX5_filled_316 : decode cX5_filled 316 = .ok (.ifCond .lt 48, 3) := by decide +kernel
theorem dX5_filled_319 : decode cX5_filled 319 = .ok (.lload 13, 2) := by decide +kernel
theorem dX5_filled_321 : decode cX5_filled 321 = .ok (.aload_n 0, 1) := by decide +kernel
theorem dX5_filled_322 : decode cX5_filled 322 = .ok (.getfield 35, 3) := by decide +kernel
theorem dX5_filled_325 : decode cX5_filled 325 = .ok (.iload 5, 2) := by decide +kernel
theorem dX5_filled_327 : decode cX5_filled 327 = .ok (.laload, 1) := by decide +kernel
theorem dX5_filled_328 : decode cX5_filled 328 = .ok (.lcmp, 1) := by decide +kernel
theorem dX5_filled_329 : decode cX5_filled 329 = .ok (.ifCond .ge 35, 3) := by decide +kernel
theorem dX5_filled_332 : decode cX5_filled 332 = .ok (.aload_n 0, 1) := by decide +kernel
theorem dX5_filled_333 : decode cX5_filled 333 = .ok (.getfield 60, 3) := by decide +kernel
theorem dX5_filled_336 : decode cX5_filled 336 = .ok (.bipush 12, 2) := by decide +kernel
theorem dX5_filled_338 : decode cX5_filled 338 = .ok (.iload 12, 2) := by decide +kernel
theorem dX5_filled_340 : decode cX5_filled 340 = .ok (.imul, 1) := by decide +kernel
theorem dX5_filled_341 : decode cX5_filled 341 = .ok (.lload 13, 2) := by decide +kernel
theorem dX5_filled_343 : decode cX5_filled 343 = .ok (.l2i, 1) := by decide +kernel
theorem dX5_filled_344 : decode cX5_filled 344 = .ok (.iadd, 1) := by decide +kernel
theorem dX5_filled_345 : decode cX5_filled 345 = .ok (.lload 7, 2) := by decide +kernel
theorem dX5_filled_347 : decode cX5_filled 347 = .ok (.lastore, 1) := by decide +kernel
theorem dX5_filled_348 : decode cX5_filled 348 = .ok (.aload_n 0, 1) := by decide +kernel
theorem dX5_filled_349 : decode cX5_filled 349 = .ok (.getfield 63, 3) := by decide +kernel
theorem dX5_filled_352 : decode cX5_filled 352 = .ok (.bipush 12, 2) := by decide +kernel
theorem dX5_filled_354 : decode cX5_filled 354 = .ok (.iload 12, 2) := by decide +kernel
theorem dX5_filled_356 : decode cX5_filled 356 = .ok (.imul, 1) := by decide +kernel
theorem dX5_filled_357 : decode cX5_filled 357 = .ok (.lload 13, 2) := by decide +kernel
theorem dX5_filled_359 : decode cX5_filled 359 = .ok (.l2i, 1) := by decide +kernel
theorem dX5_filled_360 : decode cX5_filled 360 = .ok (.iadd, 1) := by decide +kernel
theorem dX5_filled_361 : decode cX5_filled 361 = .ok (.lload 9, 2) := by decide +kernel
theorem dX5_filled_363 : decode cX5_filled 363 = .ok (.lastore, 1) := by decide +kernel
theorem dX5_filled_364 : decode cX5_filled 364 = .ok (.lload 13, 2) := by decide +kernel
theorem dX5_filled_366 : decode cX5_filled 366 = .ok (.lconst 1, 1) := by decide +kernel
theorem dX5_filled_367 : decode cX5_filled 367 = .ok (.ladd, 1) := by decide +kernel
theorem dX5_filled_368 : decode cX5_filled 368 = .ok (.lstore 13, 2) := by decide +kernel
theorem dX5_filled_370 : decode cX5_filled 370 = .ok (.goto (-119), 3) := by decide +kernel
theorem dX5_filled_373 : decode cX5_filled 373 = .ok (.iinc 12 1, 3) := by decide +kernel
theorem dX5_filled_376 : decode cX5_filled 376 = .ok (.goto (-182), 3) := by decide +kernel
theorem dX5_filled_379 : decode cX5_filled 379 = .ok (.return_, 1) := by decide +kernel
theorem dX5_measured_0 : decode cX5_measured 0 = .ok (.aload_n 0, 1) := by decide +kernel
theorem dX5_measured_1 : decode cX5_measured 1 = .ok (.getfield 16, 3) := by decide +kernel
theorem dX5_measured_4 : decode cX5_measured 4 = .ok (.iload_n 1, 1) := by decide +kernel
theorem dX5_measured_5 : decode cX5_measured 5 = .ok (.iaload, 1) := by decide +kernel
theorem dX5_measured_6 : decode cX5_measured 6 = .ok (.istore_n 2, 1) := by decide +kernel
theorem dX5_measured_7 : decode cX5_measured 7 = .ok (.aload_n 0, 1) := by decide +kernel
theorem dX5_measured_8 : decode cX5_measured 8 = .ok (.iload_n 1, 1) := by decide +kernel
theorem dX5_measured_9 : decode cX5_measured 9 = .ok (.iconst 1, 1) := by decide +kernel
theorem dX5_measured_10 : decode cX5_measured 10 = .ok (.aload_n 0, 1) := by decide +kernel
theorem dX5_measured_11 : decode cX5_measured 11 = .ok (.getfield 45, 3) := by decide +kernel
theorem dX5_measured_14 : decode cX5_measured 14 = .ok (.iload_n 2, 1) := by decide +kernel
theorem dX5_measured_15 : decode cX5_measured 15 = .ok (.baload, 1) := by decide +kernel
theorem dX5_measured_16 : decode cX5_measured 16 = .ok (.invokevirtual 198, 3) := by decide +kernel
theorem dX5_measured_19 : decode cX5_measured 19 = .ok (.aload_n 0, 1) := by decide +kernel
theorem dX5_measured_20 : decode cX5_measured 20 = .ok (.iload_n 2, 1) := by decide +kernel
theorem dX5_measured_21 : decode cX5_measured 21 = .ok (.invokevirtual 210, 3) := by decide +kernel
theorem dX5_measured_24 : decode cX5_measured 24 = .ok (.aload_n 0, 1) := by decide +kernel
theorem dX5_measured_25 : decode cX5_measured 25 = .ok (.getfield 32, 3) := by decide +kernel
theorem dX5_measured_28 : decode cX5_measured 28 = .ok (.iconst 0, 1) := by decide +kernel
theorem dX5_measured_29 : decode cX5_measured 29 = .ok (.baload, 1) := by decide +kernel
theorem dX5_measured_30 : decode cX5_measured 30 = .ok (.ifCond .eq 23, 3) := by decide +kernel
theorem dX5_measured_33 : decode cX5_measured 33 = .ok (.aload_n 0, 1) := by decide +kernel
theorem dX5_measured_34 : decode cX5_measured 34 = .ok (.aload_n 0, 1) := by decide +kernel
theorem dX5_measured_35 : decode cX5_measured 35 = .ok (.getfield 13, 3) := by decide +kernel
theorem dX5_measured_38 : decode cX5_measured 38 = .ok (.iload_n 1, 1) := by decide +kernel
theorem dX5_measured_39 : decode cX5_measured 39 = .ok (.iaload, 1) := by decide +kernel
theorem dX5_measured_40 : decode cX5_measured 40 = .ok (.aload_n 0, 1) := by decide +kernel
theorem dX5_measured_41 : decode cX5_measured 41 = .ok (.iload_n 2, 1) := by decide +kernel
theorem dX5_measured_42 : decode cX5_measured 42 = .ok (.invokevirtual 217, 3) := by decide +kernel
theorem dX5_measured_45 : decode cX5_measured 45 = .ok (.aload_n 0, 1) := by decide +kernel
theorem dX5_measured_46 : decode cX5_measured 46 = .ok (.iload_n 2, 1) := by decide +kernel
theorem dX5_measured_47 : decode cX5_measured 47 = .ok (.invokevirtual 222, 3) := by decide +kernel
theorem dX5_measured_50 : decode cX5_measured 50 = .ok (.invokevirtual 173, 3) := by decide +kernel
theorem dX5_measured_53 : decode cX5_measured 53 = .ok (.return_, 1) := by decide +kernel
theorem dX5_reached_0 : decode cX5_reached 0 = .ok (.iload_n 1, 1) := by decide +kernel
theorem dX5_reached_1 : decode cX5_reached 1 = .ok (.ifCond .lt 11, 3) := by decide +kernel
theorem dX5_reached_4 : decode cX5_reached 4 = .ok (.iload_n 1, 1) := by decide +kernel
theorem dX5_reached_5 : decode cX5_reached 5 = .ok (.aload_n 0, 1) := by decide +kernel
theorem dX5_reached_6 : decode cX5_reached 6 = .ok (.getfield 110, 3) := by decide +kernel
theorem dX5_reached_9 : decode cX5_reached 9 = .ok (.if_icmp .lt 6, 3) := by decide +kernel
theorem dX5_reached_12 : decode cX5_reached 12 = .ok (.bipush (-2), 2) := by decide +kernel
theorem dX5_reached_14 : decode cX5_reached 14 = .ok (.ireturn, 1) := by decide +kernel
theorem dX5_reached_15 : decode cX5_reached 15 = .ok (.aload_n 0, 1) := by decide +kernel
theorem dX5_reached_16 : decode cX5_reached 16 = .ok (.invokevirtual 253, 3) := by decide +kernel
theorem dX5_reached_19 : decode cX5_reached 19 = .ok (.aload_n 0, 1) := by decide +kernel
theorem dX5_reached_20 : decode cX5_reached 20 = .ok (.getfield 66, 3) := by decide +kernel
theorem dX5_reached_23 : decode cX5_reached 23 = .ok (.iload_n 1, 1) := by decide +kernel
theorem dX5_reached_24 : decode cX5_reached 24 = .ok (.baload, 1) := by decide +kernel
theorem dX5_reached_25 : decode cX5_reached 25 = .ok (.ifCond .eq 7, 3) := by decide +kernel
theorem dX5_reached_28 : decode cX5_reached 28 = .ok (.iconst 1, 1) := by decide +kernel
theorem dX5_reached_29 : decode cX5_reached 29 = .ok (.goto 4, 3) := by decide +kernel
theorem dX5_reached_32 : decode cX5_reached 32 = .ok (.iconst 0, 1) := by decide +kernel
theorem dX5_reached_33 : decode cX5_reached 33 = .ok (.ireturn, 1) := by decide +kernel
theorem dX5_throwsAt_0 : decode cX5_throwsAt 0 = .ok (.iload_n 1, 1) := by decide +kernel
theorem dX5_throwsAt_1 : decode cX5_throwsAt 1 = .ok (.ifCond .lt 11, 3) := by decide +kernel
theorem dX5_throwsAt_4 : decode cX5_throwsAt 4 = .ok (.iload_n 1, 1) := by decide +kernel
theorem dX5_throwsAt_5 : decode cX5_throwsAt 5 = .ok (.aload_n 0, 1) := by decide +kernel
theorem dX5_throwsAt_6 : decode cX5_throwsAt 6 = .ok (.getfield 110, 3) := by decide +kernel
theorem dX5_throwsAt_9 : decode cX5_throwsAt 9 = .ok (.if_icmp .lt 6, 3) := by decide +kernel
theorem dX5_throwsAt_12 : decode cX5_throwsAt 12 = .ok (.bipush (-2), 2) := by decide +kernel
theorem dX5_throwsAt_14 : decode cX5_throwsAt 14 = .ok (.ireturn, 1) := by decide +kernel
theorem dX5_throwsAt_15 : decode cX5_throwsAt 15 = .ok (.aload_n 0, 1) := by decide +kernel
theorem dX5_throwsAt_16 : decode cX5_throwsAt 16 = .ok (.invokevirtual 253, 3) := by decide +kernel
theorem dX5_throwsAt_19 : decode cX5_throwsAt 19 = .ok (.aload_n 0, 1) := by decide +kernel
theorem dX5_throwsAt_20 : decode cX5_throwsAt 20 = .ok (.getfield 69, 3) := by decide +kernel
theorem dX5_throwsAt_23 : decode cX5_throwsAt 23 = .ok (.iload_n 1, 1) := by decide +kernel
theorem dX5_throwsAt_24 : decode cX5_throwsAt 24 = .ok (.iaload, 1) := by decide +kernel
theorem dX5_throwsAt_25 : decode cX5_throwsAt 25 = .ok (.ireturn, 1) := by decide +kernel
theorem dX5_ends_0 : decode cX5_ends 0 = .ok (.aload_n 0, 1) := by decide +kernel
theorem dX5_ends_1 : decode cX5_ends 1 = .ok (.invokevirtual 253, 3) := by decide +kernel
theorem dX5_ends_4 : decode cX5_ends 4 = .ok (.aload_n 0, 1) := by decide +kernel
theorem dX5_ends_5 : decode cX5_ends 5 = .ok (.getfield 32, 3) := by decide +kernel
theorem dX5_ends_8 : decode cX5_ends 8 = .ok (.iconst 0, 1) := by decide +kernel
theorem dX5_ends_9 : decode cX5_ends 9 = .ok (.baload, 1) := by decide +kernel
theorem dX5_ends_10 : decode cX5_ends 10 = .ok (.ifCond .eq 7, 3) := by decide +kernel
theorem dX5_ends_13 : decode cX5_ends 13 = .ok (.iconst 1, 1) := by decide +kernel
theorem dX5_ends_14 : decode cX5_ends 14 = .ok (.goto 4, 3) := by decide +kernel
theorem dX5_ends_17 : decode cX5_ends 17 = .ok (.iconst 0, 1) := by decide +kernel
theorem dX5_ends_18 : decode cX5_ends 18 = .ok (.ireturn, 1) := by decide +kernel
theorem dX5_tell_0 : decode cX5_tell 0 = .ok (.aload_n 0, 1) := by decide +kernel
theorem dX5_tell_1 : decode cX5_tell 1 = .ok (.iconst 0, 1) := by decide +kernel
theorem dX5_tell_2 : decode cX5_tell 2 = .ok (.putfield 256, 3) := by decide +kernel
theorem dX5_tell_5 : decode cX5_tell 5 = .ok (.lload_n 1, 1) := by decide +kernel
theorem dX5_tell_6 : decode cX5_tell 6 = .ok (.l2i, 1) := by decide +kernel
theorem dX5_tell_7 : decode cX5_tell 7 = .ok (.ireturn, 1) := by decide +kernel
theorem dX5_refuse_0 : decode cX5_refuse 0 = .ok (.aload_n 0, 1) := by decide +kernel
theorem dX5_refuse_1 : decode cX5_refuse 1 = .ok (.iload_n 1, 1) := by decide +kernel
theorem dX5_refuse_2 : decode cX5_refuse 2 = .ok (.putfield 256, 3) := by decide +kernel
theorem dX5_refuse_5 : decode cX5_refuse 5 = .ok (.iload_n 1, 1) := by decide +kernel
theorem dX5_refuse_6 : decode cX5_refuse 6 = .ok (.ireturn, 1) := by decide +kernel
theorem dX5_variable_0 : decode cX5_variable 0 = .ok (.iload_n 1, 1) := by decide +kernel
theorem dX5_variable_1 : decode cX5_variable 1 = .ok (.invokestatic 115, 3) := by decide +kernel
theorem dX5_variable_4 : decode cX5_variable 4 = .ok (.ifCond .eq 12, 3) := by decide +kernel
theorem dX5_variable_7 : decode cX5_variable 7 = .ok (.iload_n 2, 1) := by decide +kernel
theorem dX5_variable_8 : decode cX5_variable 8 = .ok (.ifCond .lt 8, 3) := by decide +kernel
theorem dX5_variable_11 : decode cX5_variable 11 = .ok (.iload_n 2, 1) := by decide +kernel
theorem dX5_variable_12 : decode cX5_variable 12 = .ok (.iconst 1, 1) := by decide +kernel
theorem dX5_variable_13 : decode cX5_variable 13 = .ok (.if_icmp .le 10, 3) := by decide +kernel
theorem dX5_variable_16 : decode cX5_variable 16 = .ok (.aload_n 0, 1) := by decide +kernel
theorem dX5_variable_17 : decode cX5_variable 17 = .ok (.bipush (-2), 2) := by decide +kernel
theorem dX5_variable_19 : decode cX5_variable 19 = .ok (.invokevirtual 259, 3) := by decide +kernel
theorem dX5_variable_22 : decode cX5_variable 22 = .ok (.ireturn, 1) := by decide +kernel
theorem dX5_variable_23 : decode cX5_variable 23 = .ok (.aload_n 0, 1) := by decide +kernel
theorem dX5_variable_24 : decode cX5_variable 24 = .ok (.invokevirtual 253, 3) := by decide +kernel
theorem dX5_variable_27 : decode cX5_variable 27 = .ok (.aload_n 0, 1) := by decide +kernel
theorem dX5_variable_28 : decode cX5_variable 28 = .ok (.getfield 32, 3) := by decide +kernel
theorem dX5_variable_31 : decode cX5_variable 31 = .ok (.iconst 0, 1) := by decide +kernel
theorem dX5_variable_32 : decode cX5_variable 32 = .ok (.baload, 1) := by decide +kernel
theorem dX5_variable_33 : decode cX5_variable 33 = .ok (.ifCond .ne 12, 3) := by decide +kernel
theorem dX5_variable_36 : decode cX5_variable 36 = .ok (.aload_n 0, 1) := by decide +kernel
theorem dX5_variable_37 : decode cX5_variable 37 = .ok (.bipush (-3), 2) := by decide +kernel
theorem dX5_variable_39 : decode cX5_variable 39 = .ok (.invokevirtual 259, 3) := by decide +kernel
theorem dX5_variable_42 : decode cX5_variable 42 = .ok (.goto 26, 3) := by decide +kernel
theorem dX5_variable_45 : decode cX5_variable 45 = .ok (.aload_n 0, 1) := by decide +kernel
theorem dX5_variable_46 : decode cX5_variable 46 = .ok (.iload_n 2, 1) := by decide +kernel
theorem dX5_variable_47 : decode cX5_variable 47 = .ok (.ifCond .ne 12, 3) := by decide +kernel
theorem dX5_variable_50 : decode cX5_variable 50 = .ok (.aload_n 0, 1) := by decide +kernel
theorem dX5_variable_51 : decode cX5_variable 51 = .ok (.getfield 35, 3) := by decide +kernel
theorem dX5_variable_54 : decode cX5_variable 54 = .ok (.iload_n 1, 1) := by decide +kernel
theorem dX5_variable_55 : decode cX5_variable 55 = .ok (.laload, 1) := by decide +kernel
theorem dX5_variable_56 : decode cX5_variable 56 = .ok (.goto 9, 3) := by decide +kernel
theorem dX5_variable_59 : decode cX5_variable 59 = .ok (.aload_n 0, 1) := by decide +kernel
theorem dX5_variable_60 : decode cX5_variable 60 = .ok (.getfield 39, 3) := by decide +kernel
theorem dX5_variable_63 : decode cX5_variable 63 = .ok (.iload_n 1, 1) := by decide +kernel
theorem dX5_variable_64 : decode cX5_variable 64 = .ok (.laload, 1) := by decide +kernel
theorem dX5_variable_65 : decode cX5_variable 65 = .ok (.invokevirtual 262, 3) := by decide +kernel
theorem dX5_variable_68 : decode cX5_variable 68 = .ok (.ireturn, 1) := by decide +kernel
theorem dX5_reference_0 : decode cX5_reference 0 = .ok (.iload_n 1, 1) := by decide +kernel
theorem dX5_reference_1 : decode cX5_reference 1 = .ok (.invokestatic 115, 3) := by decide +kernel
theorem dX5_reference_4 : decode cX5_reference 4 = .ok (.ifCond .ne 6, 3) := by decide +kernel
theorem dX5_reference_7 : decode cX5_reference 7 = .ok (.bipush (-2), 2) := by decide +kernel
theorem dX5_reference_9 : decode cX5_reference 9 = .ok (.ireturn, 1) := by decide +kernel
theorem dX5_reference_10 : decode cX5_reference 10 = .ok (.aload_n 0, 1) := by decide +kernel
theorem dX5_reference_11 : decode cX5_reference 11 = .ok (.invokevirtual 253, 3) := by decide +kernel
theorem dX5_reference_14 : decode cX5_reference 14 = .ok (.aload_n 0, 1) := by decide +kernel
theorem dX5_reference_15 : decode cX5_reference 15 = .ok (.getfield 32, 3) := by decide +kernel
theorem dX5_reference_18 : decode cX5_reference 18 = .ok (.iconst 0, 1) := by decide +kernel
theorem dX5_reference_19 : decode cX5_reference 19 = .ok (.baload, 1) := by decide +kernel
theorem dX5_reference_20 : decode cX5_reference 20 = .ok (.ifCond .ne 6, 3) := by decide +kernel
theorem dX5_reference_23 : decode cX5_reference 23 = .ok (.bipush (-3), 2) := by decide +kernel
theorem dX5_reference_25 : decode cX5_reference 25 = .ok (.ireturn, 1) := by decide +kernel
theorem dX5_reference_26 : decode cX5_reference 26 = .ok (.iconst 0, 1) := by decide +kernel
theorem dX5_reference_27 : decode cX5_reference 27 = .ok (.istore_n 2, 1) := by decide +kernel
theorem dX5_reference_28 : decode cX5_reference 28 = .ok (.iconst 0, 1) := by decide +kernel
theorem dX5_reference_29 : decode cX5_reference 29 = .ok (.istore_n 3, 1) := by decide +kernel
theorem dX5_reference_30 : decode cX5_reference 30 = .ok (.iload_n 3, 1) := by decide +kernel
theorem dX5_reference_31 : decode cX5_reference 31 = .ok (.bipush 40, 2) := by decide +kernel
theorem dX5_reference_33 : decode cX5_reference 33 = .ok (.if_icmp .ge 26, 3) := by decide +kernel
theorem dX5_reference_36 : decode cX5_reference 36 = .ok (.iload_n 2, 1) := by decide +kernel
theorem dX5_reference_37 : decode cX5_reference 37 = .ok (.aload_n 0, 1) := by decide +kernel
theorem dX5_reference_38 : decode cX5_reference 38 = .ok (.iload_n 1, 1) := by decide +kernel
theorem dX5_reference_39 : decode cX5_reference 39 = .ok (.iload_n 3, 1) := by decide +kernel
theorem dX5_reference_40 : decode cX5_reference 40 = .ok (.invokevirtual 169, 3) := by decide +kernel
theorem dX5_reference_43 : decode cX5_reference 43 = .ok (.ifCond .eq 7, 3) := by decide +kernel
theorem dX5_reference_46 : decode cX5_reference 46 = .ok (.iconst 2, 1) := by decide +kernel
theorem dX5_reference_47 : decode cX5_reference 47 = .ok (.goto 4, 3) := by decide +kernel
theorem dX5_reference_50 : decode cX5_reference 50 = .ok (.iconst 0, 1) := by decide +kernel
theorem dX5_reference_51 : decode cX5_reference 51 = .ok (.iadd, 1) := by decide +kernel
theorem dX5_reference_52 : decode cX5_reference 52 = .ok (.istore_n 2, 1) := by decide +kernel
theorem dX5_reference_53 : decode cX5_reference 53 = .ok (.iinc 3 1, 3) := by decide +kernel
theorem dX5_reference_56 : decode cX5_reference 56 = .ok (.goto (-26), 3) := by decide +kernel
theorem dX5_reference_59 : decode cX5_reference 59 = .ok (.iload_n 2, 1) := by decide +kernel
theorem dX5_reference_60 : decode cX5_reference 60 = .ok (.aload_n 0, 1) := by decide +kernel
theorem dX5_reference_61 : decode cX5_reference 61 = .ok (.getfield 45, 3) := by decide +kernel
theorem dX5_reference_64 : decode cX5_reference 64 = .ok (.iload_n 1, 1) := by decide +kernel
theorem dX5_reference_65 : decode cX5_reference 65 = .ok (.baload, 1) := by decide +kernel
theorem dX5_reference_66 : decode cX5_reference 66 = .ok (.ifCond .eq 7, 3) := by decide +kernel
theorem dX5_reference_69 : decode cX5_reference 69 = .ok (.iconst 1, 1) := by decide +kernel
theorem dX5_reference_70 : decode cX5_reference 70 = .ok (.goto 4, 3) := by decide +kernel
theorem dX5_reference_73 : decode cX5_reference 73 = .ok (.iconst 0, 1) := by decide +kernel
theorem dX5_reference_74 : decode cX5_reference 74 = .ok (.iadd, 1) := by decide +kernel
theorem dX5_reference_75 : decode cX5_reference 75 = .ok (.ireturn, 1) := by decide +kernel
theorem dX5_means_0 : decode cX5_means 0 = .ok (.iload_n 1, 1) := by decide +kernel
theorem dX5_means_1 : decode cX5_means 1 = .ok (.invokestatic 115, 3) := by decide +kernel
theorem dX5_means_4 : decode cX5_means 4 = .ok (.ifCond .eq 15, 3) := by decide +kernel
theorem dX5_means_7 : decode cX5_means 7 = .ok (.iload_n 2, 1) := by decide +kernel
theorem dX5_means_8 : decode cX5_means 8 = .ok (.ifCond .lt 11, 3) := by decide +kernel
theorem dX5_means_11 : decode cX5_means 11 = .ok (.iload_n 2, 1) := by decide +kernel
theorem dX5_means_12 : decode cX5_means 12 = .ok (.aload_n 0, 1) := by decide +kernel
theorem dX5_means_13 : decode cX5_means 13 = .ok (.getfield 110, 3) := by decide +kernel
theorem dX5_means_16 : decode cX5_means 16 = .ok (.if_icmp .lt 6, 3) := by decide +kernel
theorem dX5_means_19 : decode cX5_means 19 = .ok (.bipush (-2), 2) := by decide +kernel
theorem dX5_means_21 : decode cX5_means 21 = .ok (.ireturn, 1) := by decide +kernel
theorem dX5_means_22 : decode cX5_means 22 = .ok (.aload_n 0, 1) := by decide +kernel
theorem dX5_means_23 : decode cX5_means 23 = .ok (.invokevirtual 253, 3) := by decide +kernel
theorem dX5_means_26 : decode cX5_means 26 = .ok (.aload_n 0, 1) := by decide +kernel
theorem dX5_means_27 : decode cX5_means 27 = .ok (.getfield 32, 3) := by decide +kernel
theorem dX5_means_30 : decode cX5_means 30 = .ok (.iconst 0, 1) := by decide +kernel
theorem dX5_means_31 : decode cX5_means 31 = .ok (.baload, 1) := by decide +kernel
theorem dX5_means_32 : decode cX5_means 32 = .ok (.ifCond .ne 8, 3) := by decide +kernel
theorem dX5_means_35 : decode cX5_means 35 = .ok (.bipush (-3), 2) := by decide +kernel
theorem dX5_means_37 : decode cX5_means 37 = .ok (.goto 17, 3) := by decide +kernel
theorem dX5_means_40 : decode cX5_means 40 = .ok (.aload_n 0, 1) := by decide +kernel
theorem dX5_means_41 : decode cX5_means 41 = .ok (.iload_n 1, 1) := by decide +kernel
theorem dX5_means_42 : decode cX5_means 42 = .ok (.iload_n 2, 1) := by decide +kernel
theorem dX5_means_43 : decode cX5_means 43 = .ok (.invokevirtual 169, 3) := by decide +kernel
theorem dX5_means_46 : decode cX5_means 46 = .ok (.ifCond .eq 7, 3) := by decide +kernel
theorem dX5_means_49 : decode cX5_means 49 = .ok (.iconst 1, 1) := by decide +kernel
theorem dX5_means_50 : decode cX5_means 50 = .ok (.goto 4, 3) := by decide +kernel
theorem dX5_means_53 : decode cX5_means 53 = .ok (.iconst 0, 1) := by decide +kernel
theorem dX5_means_54 : decode cX5_means 54 = .ok (.ireturn, 1) := by decide +kernel
theorem dX5_barred_0 : decode cX5_barred 0 = .ok (.aload_n 0, 1) := by decide +kernel
theorem dX5_barred_1 : decode cX5_barred 1 = .ok (.invokevirtual 253, 3) := by decide +kernel
theorem dX5_barred_4 : decode cX5_barred 4 = .ok (.aload_n 0, 1) := by decide +kernel
theorem dX5_barred_5 : decode cX5_barred 5 = .ok (.getfield 32, 3) := by decide +kernel
theorem dX5_barred_8 : decode cX5_barred 8 = .ok (.iconst 0, 1) := by decide +kernel
theorem dX5_barred_9 : decode cX5_barred 9 = .ok (.baload, 1) := by decide +kernel
theorem dX5_barred_10 : decode cX5_barred 10 = .ok (.ifCond .ne 8, 3) := by decide +kernel
theorem dX5_barred_13 : decode cX5_barred 13 = .ok (.bipush (-3), 2) := by decide +kernel
theorem dX5_barred_15 : decode cX5_barred 15 = .ok (.goto 17, 3) := by decide +kernel
theorem dX5_barred_18 : decode cX5_barred 18 = .ok (.aload_n 0, 1) := by decide +kernel
theorem dX5_barred_19 : decode cX5_barred 19 = .ok (.getfield 48, 3) := by decide +kernel
theorem dX5_barred_22 : decode cX5_barred 22 = .ok (.iload_n 1, 1) := by decide +kernel
theorem dX5_barred_23 : decode cX5_barred 23 = .ok (.baload, 1) := by decide +kernel
theorem dX5_barred_24 : decode cX5_barred 24 = .ok (.ifCond .ne 7, 3) := by decide +kernel
theorem dX5_barred_27 : decode cX5_barred 27 = .ok (.iconst (-1), 1) := by decide +kernel
theorem dX5_barred_28 : decode cX5_barred 28 = .ok (.goto 4, 3) := by decide +kernel
theorem dX5_barred_31 : decode cX5_barred 31 = .ok (.iconst 0, 1) := by decide +kernel
theorem dX5_barred_32 : decode cX5_barred 32 = .ok (.ireturn, 1) := by decide +kernel
theorem dX5_isLike_0 : decode cX5_isLike 0 = .ok (.bipush 12, 2) := by decide +kernel
theorem dX5_isLike_2 : decode cX5_isLike 2 = .ok (.iload_n 1, 1) := by decide +kernel
theorem dX5_isLike_3 : decode cX5_isLike 3 = .ok (.imul, 1) := by decide +kernel
theorem dX5_isLike_4 : decode cX5_isLike 4 = .ok (.iload_n 2, 1) := by decide +kernel
theorem dX5_isLike_5 : decode cX5_isLike 5 = .ok (.iadd, 1) := by decide +kernel
theorem dX5_isLike_6 : decode cX5_isLike 6 = .ok (.istore_n 3, 1) := by decide +kernel
theorem dX5_isLike_7 : decode cX5_isLike 7 = .ok (.aload_n 0, 1) := by decide +kernel
theorem dX5_isLike_8 : decode cX5_isLike 8 = .ok (.getfield 60, 3) := by decide +kernel
theorem dX5_isLike_11 : decode cX5_isLike 11 = .ok (.iload_n 3, 1) := by decide +kernel
theorem dX5_isLike_12 : decode cX5_isLike 12 = .ok (.laload, 1) := by decide +kernel
theorem dX5_isLike_13 : decode cX5_isLike 13 = .ok (.aload_n 0, 1) := by decide +kernel
theorem dX5_isLike_14 : decode cX5_isLike 14 = .ok (.getfield 60, 3) := by decide +kernel
theorem dX5_isLike_17 : decode cX5_isLike 17 = .ok (.iload_n 3, 1) := by decide +kernel
theorem dX5_isLike_18 : decode cX5_isLike 18 = .ok (.iconst 1, 1) := by decide +kernel
theorem dX5_isLike_19 : decode cX5_isLike 19 = .ok (.isub, 1) := by decide +kernel
theorem dX5_isLike_20 : decode cX5_isLike 20 = .ok (.laload, 1) := by decide +kernel
theorem dX5_isLike_21 : decode cX5_isLike 21 = .ok (.lcmp, 1) := by decide +kernel
theorem dX5_isLike_22 : decode cX5_isLike 22 = .ok (.ifCond .ne 25, 3) := by decide +kernel
theorem dX5_isLike_25 : decode cX5_isLike 25 = .ok (.aload_n 0, 1) := by decide +kernel
theorem dX5_isLike_26 : decode cX5_isLike 26 = .ok (.getfield 63, 3) := by decide +kernel
theorem dX5_isLike_29 : decode cX5_isLike 29 = .ok (.iload_n 3, 1) := by decide +kernel
theorem dX5_isLike_30 : decode cX5_isLike 30 = .ok (.laload, 1) := by decide +kernel
theorem dX5_isLike_31 : decode cX5_isLike 31 = .ok (.aload_n 0, 1) := by decide +kernel
theorem dX5_isLike_32 : decode cX5_isLike 32 = .ok (.getfield 63, 3) := by decide +kernel
theorem dX5_isLike_35 : decode cX5_isLike 35 = .ok (.iload_n 3, 1) := by decide +kernel
theorem dX5_isLike_36 : decode cX5_isLike 36 = .ok (.iconst 1, 1) := by decide +kernel
theorem dX5_isLike_37 : decode cX5_isLike 37 = .ok (.isub, 1) := by decide +kernel
theorem dX5_isLike_38 : decode cX5_isLike 38 = .ok (.laload, 1) := by decide +kernel
theorem dX5_isLike_39 : decode cX5_isLike 39 = .ok (.lcmp, 1) := by decide +kernel
theorem dX5_isLike_40 : decode cX5_isLike 40 = .ok (.ifCond .ne 7, 3) := by decide +kernel
theorem dX5_isLike_43 : decode cX5_isLike 43 = .ok (.iconst 1, 1) := by decide +kernel
theorem dX5_isLike_44 : decode cX5_isLike 44 = .ok (.goto 4, 3) := by decide +kernel
theorem dX5_isLike_47 : decode cX5_isLike 47 = .ok (.iconst 0, 1) := by decide +kernel
theorem dX5_isLike_48 : decode cX5_isLike 48 = .ok (.ireturn, 1) := by decide +kernel
theorem dX5_segments_0 : decode cX5_segments 0 = .ok (.aload_n 0, 1) := by decide +kernel
theorem dX5_segments_1 : decode cX5_segments 1 = .ok (.getfield 57, 3) := by decide +kernel
theorem dX5_segments_4 : decode cX5_segments 4 = .ok (.iload_n 1, 1) := by decide +kernel
theorem dX5_segments_5 : decode cX5_segments 5 = .ok (.laload, 1) := by decide +kernel
theorem dX5_segments_6 : decode cX5_segments 6 = .ok (.lconst 0, 1) := by decide +kernel
theorem dX5_segments_7 : decode cX5_segments 7 = .ok (.lcmp, 1) := by decide +kernel
theorem dX5_segments_8 : decode cX5_segments 8 = .ok (.ifCond .le 7, 3) := by decide +kernel
theorem dX5_segments_11 : decode cX5_segments 11 = .ok (.iconst 1, 1) := by decide +kernel
theorem dX5_segments_12 : decode cX5_segments 12 = .ok (.goto 4, 3) := by decide +kernel
theorem dX5_segments_15 : decode cX5_segments 15 = .ok (.iconst 0, 1) := by decide +kernel
theorem dX5_segments_16 : decode cX5_segments 16 = .ok (.istore_n 2, 1) := by decide +kernel
theorem dX5_segments_17 : decode cX5_segments 17 = .ok (.iconst 1, 1) := by decide +kernel
theorem dX5_segments_18 : decode cX5_segments 18 = .ok (.istore_n 3, 1) := by decide +kernel
theorem dX5_segments_19 : decode cX5_segments 19 = .ok (.iload_n 3, 1) := by decide +kernel
theorem dX5_segments_20 : decode cX5_segments 20 = .ok (.i2l, 1) := by decide +kernel
theorem dX5_segments_21 : decode cX5_segments 21 = .ok (.aload_n 0, 1) := by decide +kernel
theorem dX5_segments_22 : decode cX5_segments 22 = .ok (.getfield 57, 3) := by decide +kernel
theorem dX5_segments_25 : decode cX5_segments 25 = .ok (.iload_n 1, 1) := by decide +kernel
theorem dX5_segments_26 : decode cX5_segments 26 = .ok (.laload, 1) := by decide +kernel
theorem dX5_segments_27 : decode cX5_segments 27 = .ok (.lcmp, 1) := by decide +kernel
theorem dX5_segments_28 : decode cX5_segments 28 = .ok (.ifCond .ge 26, 3) := by decide +kernel
theorem dX5_segments_31 : decode cX5_segments 31 = .ok (.iload_n 2, 1) := by decide +kernel
theorem dX5_segments_32 : decode cX5_segments 32 = .ok (.aload_n 0, 1) := by decide +kernel
theorem dX5_segments_33 : decode cX5_segments 33 = .ok (.iload_n 1, 1) := by decide +kernel
theorem dX5_segments_34 : decode cX5_segments 34 = .ok (.iload_n 3, 1) := by decide +kernel
theorem dX5_segments_35 : decode cX5_segments 35 = .ok (.invokevirtual 266, 3) := by decide +kernel
theorem dX5_segments_38 : decode cX5_segments 38 = .ok (.ifCond .eq 7, 3) := by decide +kernel
theorem dX5_segments_41 : decode cX5_segments 41 = .ok (.iconst 0, 1) := by decide +kernel
theorem dX5_segments_42 : decode cX5_segments 42 = .ok (.goto 4, 3) := by decide +kernel
theorem dX5_segments_45 : decode cX5_segments 45 = .ok (.iconst 1, 1) := by decide +kernel
theorem dX5_segments_46 : decode cX5_segments 46 = .ok (.iadd, 1) := by decide +kernel
theorem dX5_segments_47 : decode cX5_segments 47 = .ok (.istore_n 2, 1) := by decide +kernel
theorem dX5_segments_48 : decode cX5_segments 48 = .ok (.iinc 3 1, 3) := by decide +kernel
theorem dX5_segments_51 : decode cX5_segments 51 = .ok (.goto (-32), 3) := by decide +kernel
theorem dX5_segments_54 : decode cX5_segments 54 = .ok (.iload_n 2, 1) := by decide +kernel
theorem dX5_segments_55 : decode cX5_segments 55 = .ok (.ireturn, 1) := by decide +kernel
theorem dX5_isSorted_0 : decode cX5_isSorted 0 = .ok (.iconst 1, 1) := by decide +kernel
theorem dX5_isSorted_1 : decode cX5_isSorted 1 = .ok (.istore_n 2, 1) := by decide +kernel
theorem dX5_isSorted_2 : decode cX5_isSorted 2 = .ok (.iconst 1, 1) := by decide +kernel
theorem dX5_isSorted_3 : decode cX5_isSorted 3 = .ok (.istore_n 3, 1) := by decide +kernel
theorem dX5_isSorted_4 : decode cX5_isSorted 4 = .ok (.iload_n 3, 1) := by decide +kernel
theorem dX5_isSorted_5 : decode cX5_isSorted 5 = .ok (.i2l, 1) := by decide +kernel
theorem dX5_isSorted_6 : decode cX5_isSorted 6 = .ok (.aload_n 0, 1) := by decide +kernel
theorem dX5_isSorted_7 : decode cX5_isSorted 7 = .ok (.getfield 57, 3) := by decide +kernel
theorem dX5_isSorted_10 : decode cX5_isSorted 10 = .ok (.iload_n 1, 1) := by decide +kernel
theorem dX5_isSorted_11 : decode cX5_isSorted 11 = .ok (.laload, 1) := by decide +kernel
theorem dX5_isSorted_12 : decode cX5_isSorted 12 = .ok (.lcmp, 1) := by decide +kernel
theorem dX5_isSorted_13 : decode cX5_isSorted 13 = .ok (.ifCond .ge 45, 3) := by decide +kernel
theorem dX5_isSorted_16 : decode cX5_isSorted 16 = .ok (.iload_n 2, 1) := by decide +kernel
theorem dX5_isSorted_17 : decode cX5_isSorted 17 = .ok (.aload_n 0, 1) := by decide +kernel
theorem dX5_isSorted_18 : decode cX5_isSorted 18 = .ok (.getfield 63, 3) := by decide +kernel
theorem dX5_isSorted_21 : decode cX5_isSorted 21 = .ok (.bipush 12, 2) := by decide +kernel
theorem dX5_isSorted_23 : decode cX5_isSorted 23 = .ok (.iload_n 1, 1) := by decide +kernel
theorem dX5_isSorted_24 : decode cX5_isSorted 24 = .ok (.imul, 1) := by decide +kernel
theorem dX5_isSorted_25 : decode cX5_isSorted 25 = .ok (.iload_n 3, 1) := by decide +kernel
theorem dX5_isSorted_26 : decode cX5_isSorted 26 = .ok (.iadd, 1) := by decide +kernel
theorem dX5_isSorted_27 : decode cX5_isSorted 27 = .ok (.iconst 1, 1) := by decide +kernel
theorem dX5_isSorted_28 : decode cX5_isSorted 28 = .ok (.isub, 1) := by decide +kernel
theorem dX5_isSorted_29 : decode cX5_isSorted 29 = .ok (.laload, 1) := by decide +kernel
theorem dX5_isSorted_30 : decode cX5_isSorted 30 = .ok (.aload_n 0, 1) := by decide +kernel
theorem dX5_isSorted_31 : decode cX5_isSorted 31 = .ok (.getfield 60, 3) := by decide +kernel
theorem dX5_isSorted_34 : decode cX5_isSorted 34 = .ok (.bipush 12, 2) := by decide +kernel
theorem dX5_isSorted_36 : decode cX5_isSorted 36 = .ok (.iload_n 1, 1) := by decide +kernel
theorem dX5_isSorted_37 : decode cX5_isSorted 37 = .ok (.imul, 1) := by decide +kernel
theorem dX5_isSorted_38 : decode cX5_isSorted 38 = .ok (.iload_n 3, 1) := by decide +kernel
theorem dX5_isSorted_39 : decode cX5_isSorted 39 = .ok (.iadd, 1) := by decide +kernel
theorem dX5_isSorted_40 : decode cX5_isSorted 40 = .ok (.laload, 1) := by decide +kernel
theorem dX5_isSorted_41 : decode cX5_isSorted 41 = .ok (.lcmp, 1) := by decide +kernel
theorem dX5_isSorted_42 : decode cX5_isSorted 42 = .ok (.ifCond .gt 7, 3) := by decide +kernel
