theorem dX0_init_0 : decode cX0_init 0 = .ok (.aload_n 0, 1) := by decide +kernel
theorem dX0_init_1 : decode cX0_init 1 = .ok (.invokespecial 3, 3) := by decide +kernel
theorem dX0_init_4 : decode cX0_init 4 = .ok (.aload_n 0, 1) := by decide +kernel
theorem dX0_init_5 : decode cX0_init 5 = .ok (.iconst 0, 1) := by decide +kernel
theorem dX0_init_6 : decode cX0_init 6 = .ok (.putfield 9, 3) := by decide +kernel
theorem dX0_init_9 : decode cX0_init 9 = .ok (.aload_n 0, 1) := by decide +kernel
theorem dX0_init_10 : decode cX0_init 10 = .ok (.bipush 6, 2) := by decide +kernel
theorem dX0_init_12 : decode cX0_init 12 = .ok (.newarray .int, 2) := by decide +kernel
theorem dX0_init_14 : decode cX0_init 14 = .ok (.putfield 15, 3) := by decide +kernel
theorem dX0_init_17 : decode cX0_init 17 = .ok (.aload_n 0, 1) := by decide +kernel
theorem dX0_init_18 : decode cX0_init 18 = .ok (.bipush 6, 2) := by decide +kernel
theorem dX0_init_20 : decode cX0_init 20 = .ok (.newarray .int, 2) := by decide +kernel
theorem dX0_init_22 : decode cX0_init 22 = .ok (.putfield 19, 3) := by decide +kernel
theorem dX0_init_25 : decode cX0_init 25 = .ok (.aload_n 0, 1) := by decide +kernel
theorem dX0_init_26 : decode cX0_init 26 = .ok (.bipush 6, 2) := by decide +kernel
theorem dX0_init_28 : decode cX0_init 28 = .ok (.newarray .long, 2) := by decide +kernel
theorem dX0_init_30 : decode cX0_init 30 = .ok (.putfield 22, 3) := by decide +kernel
theorem dX0_init_33 : decode cX0_init 33 = .ok (.aload_n 0, 1) := by decide +kernel
theorem dX0_init_34 : decode cX0_init 34 = .ok (.bipush 6, 2) := by decide +kernel
theorem dX0_init_36 : decode cX0_init 36 = .ok (.newarray .boolean, 2) := by decide +kernel
theorem dX0_init_38 : decode cX0_init 38 = .ok (.putfield 26, 3) := by decide +kernel
theorem dX0_init_41 : decode cX0_init 41 = .ok (.aload_n 0, 1) := by decide +kernel
theorem dX0_init_42 : decode cX0_init 42 = .ok (.bipush 40, 2) := by decide +kernel
theorem dX0_init_44 : decode cX0_init 44 = .ok (.newarray .boolean, 2) := by decide +kernel
theorem dX0_init_46 : decode cX0_init 46 = .ok (.putfield 30, 3) := by decide +kernel
theorem dX0_init_49 : decode cX0_init 49 = .ok (.aload_n 0, 1) := by decide +kernel
theorem dX0_init_50 : decode cX0_init 50 = .ok (.bipush 40, 2) := by decide +kernel
theorem dX0_init_52 : decode cX0_init 52 = .ok (.newarray .int, 2) := by decide +kernel
theorem dX0_init_54 : decode cX0_init 54 = .ok (.putfield 33, 3) := by decide +kernel
theorem dX0_init_57 : decode cX0_init 57 = .ok (.aload_n 0, 1) := by decide +kernel
theorem dX0_init_58 : decode cX0_init 58 = .ok (.bipush 40, 2) := by decide +kernel
theorem dX0_init_60 : decode cX0_init 60 = .ok (.newarray .int, 2) := by decide +kernel
theorem dX0_init_62 : decode cX0_init 62 = .ok (.putfield 36, 3) := by decide +kernel
theorem dX0_init_65 : decode cX0_init 65 = .ok (.aload_n 0, 1) := by decide +kernel
theorem dX0_init_66 : decode cX0_init 66 = .ok (.bipush 40, 2) := by decide +kernel
theorem dX0_init_68 : decode cX0_init 68 = .ok (.newarray .int, 2) := by decide +kernel
theorem dX0_init_70 : decode cX0_init 70 = .ok (.putfield 39, 3) := by decide +kernel
theorem dX0_init_73 : decode cX0_init 73 = .ok (.aload_n 0, 1) := by decide +kernel
theorem dX0_init_74 : decode cX0_init 74 = .ok (.sipush 480, 3) := by decide +kernel
theorem dX0_init_77 : decode cX0_init 77 = .ok (.newarray .int, 2) := by decide +kernel
theorem dX0_init_79 : decode cX0_init 79 = .ok (.putfield 42, 3) := by decide +kernel
theorem dX0_init_82 : decode cX0_init 82 = .ok (.aload_n 0, 1) := by decide +kernel
theorem dX0_init_83 : decode cX0_init 83 = .ok (.sipush 480, 3) := by decide +kernel
theorem dX0_init_86 : decode cX0_init 86 = .ok (.newarray .int, 2) := by decide +kernel
theorem dX0_init_88 : decode cX0_init 88 = .ok (.putfield 45, 3) := by decide +kernel
theorem dX0_init_91 : decode cX0_init 91 = .ok (.return_, 1) := by decide +kernel
theorem dX0_begin_0 : decode cX0_begin 0 = .ok (.aload_n 0, 1) := by decide +kernel
theorem dX0_begin_1 : decode cX0_begin 1 = .ok (.iconst 1, 1) := by decide +kernel
theorem dX0_begin_2 : decode cX0_begin 2 = .ok (.putfield 9, 3) := by decide +kernel
theorem dX0_begin_5 : decode cX0_begin 5 = .ok (.iconst 0, 1) := by decide +kernel
theorem dX0_begin_6 : decode cX0_begin 6 = .ok (.istore_n 1, 1) := by decide +kernel
theorem dX0_begin_7 : decode cX0_begin 7 = .ok (.iload_n 1, 1) := by decide +kernel
theorem dX0_begin_8 : decode cX0_begin 8 = .ok (.bipush 6, 2) := by decide +kernel
theorem dX0_begin_10 : decode cX0_begin 10 = .ok (.if_icmp .ge 16, 3) := by decide +kernel
theorem dX0_begin_13 : decode cX0_begin 13 = .ok (.aload_n 0, 1) := by decide +kernel
theorem dX0_begin_14 : decode cX0_begin 14 = .ok (.iload_n 1, 1) := by decide +kernel
theorem dX0_begin_15 : decode cX0_begin 15 = .ok (.iconst 0, 1) := by decide +kernel
theorem dX0_begin_16 : decode cX0_begin 16 = .ok (.iconst 0, 1) := by decide +kernel
theorem dX0_begin_17 : decode cX0_begin 17 = .ok (.invokevirtual 48, 3) := by decide +kernel
theorem dX0_begin_20 : decode cX0_begin 20 = .ok (.iinc 1 1, 3) := by decide +kernel
theorem dX0_begin_23 : decode cX0_begin 23 = .ok (.goto (-16), 3) := by decide +kernel
theorem dX0_begin_26 : decode cX0_begin 26 = .ok (.iconst 0, 1) := by decide +kernel
theorem dX0_begin_27 : decode cX0_begin 27 = .ok (.istore_n 1, 1) := by decide +kernel
theorem dX0_begin_28 : decode cX0_begin 28 = .ok (.iload_n 1, 1) := by decide +kernel
theorem dX0_begin_29 : decode cX0_begin 29 = .ok (.bipush 6, 2) := by decide +kernel
theorem dX0_begin_31 : decode cX0_begin 31 = .ok (.if_icmp .ge 23, 3) := by decide +kernel
theorem dX0_begin_34 : decode cX0_begin 34 = .ok (.aload_n 0, 1) := by decide +kernel
theorem dX0_begin_35 : decode cX0_begin 35 = .ok (.getfield 22, 3) := by decide +kernel
theorem dX0_begin_38 : decode cX0_begin 38 = .ok (.iload_n 1, 1) := by decide +kernel
theorem dX0_begin_39 : decode cX0_begin 39 = .ok (.lconst 0, 1) := by decide +kernel
theorem dX0_begin_40 : decode cX0_begin 40 = .ok (.lastore, 1) := by decide +kernel
theorem dX0_begin_41 : decode cX0_begin 41 = .ok (.aload_n 0, 1) := by decide +kernel
theorem dX0_begin_42 : decode cX0_begin 42 = .ok (.getfield 26, 3) := by decide +kernel
theorem dX0_begin_45 : decode cX0_begin 45 = .ok (.iload_n 1, 1) := by decide +kernel
theorem dX0_begin_46 : decode cX0_begin 46 = .ok (.iconst 1, 1) := by decide +kernel
theorem dX0_begin_47 : decode cX0_begin 47 = .ok (.bastore, 1) := by decide +kernel
theorem dX0_begin_48 : decode cX0_begin 48 = .ok (.iinc 1 1, 3) := by decide +kernel
theorem dX0_begin_51 : decode cX0_begin 51 = .ok (.goto (-23), 3) := by decide +kernel
theorem dX0_begin_54 : decode cX0_begin 54 = .ok (.iconst 0, 1) := by decide +kernel
theorem dX0_begin_55 : decode cX0_begin 55 = .ok (.istore_n 1, 1) := by decide +kernel
theorem dX0_begin_56 : decode cX0_begin 56 = .ok (.iload_n 1, 1) := by decide +kernel
theorem dX0_begin_57 : decode cX0_begin 57 = .ok (.bipush 40, 2) := by decide +kernel
theorem dX0_begin_59 : decode cX0_begin 59 = .ok (.if_icmp .ge 16, 3) := by decide +kernel
theorem dX0_begin_62 : decode cX0_begin 62 = .ok (.aload_n 0, 1) := by decide +kernel
theorem dX0_begin_63 : decode cX0_begin 63 = .ok (.getfield 30, 3) := by decide +kernel
theorem dX0_begin_66 : decode cX0_begin 66 = .ok (.iload_n 1, 1) := by decide +kernel
theorem dX0_begin_67 : decode cX0_begin 67 = .ok (.iconst 0, 1) := by decide +kernel
theorem dX0_begin_68 : decode cX0_begin 68 = .ok (.bastore, 1) := by decide +kernel
theorem dX0_begin_69 : decode cX0_begin 69 = .ok (.iinc 1 1, 3) := by decide +kernel
theorem dX0_begin_72 : decode cX0_begin 72 = .ok (.goto (-16), 3) := by decide +kernel
theorem dX0_begin_75 : decode cX0_begin 75 = .ok (.return_, 1) := by decide +kernel
theorem dX0_takeOver_0 : decode cX0_takeOver 0 = .ok (.aload_n 0, 1) := by decide +kernel
theorem dX0_takeOver_1 : decode cX0_takeOver 1 = .ok (.aload_n 1, 1) := by decide +kernel
theorem dX0_takeOver_2 : decode cX0_takeOver 2 = .ok (.getfield 9, 3) := by decide +kernel
theorem dX0_takeOver_5 : decode cX0_takeOver 5 = .ok (.putfield 9, 3) := by decide +kernel
theorem dX0_takeOver_8 : decode cX0_takeOver 8 = .ok (.aload_n 1, 1) := by decide +kernel
theorem dX0_takeOver_9 : decode cX0_takeOver 9 = .ok (.getfield 15, 3) := by decide +kernel
theorem dX0_takeOver_12 : decode cX0_takeOver 12 = .ok (.iconst 0, 1) := by decide +kernel
theorem dX0_takeOver_13 : decode cX0_takeOver 13 = .ok (.aload_n 0, 1) := by decide +kernel
theorem dX0_takeOver_14 : decode cX0_takeOver 14 = .ok (.getfield 15, 3) := by decide +kernel
theorem dX0_takeOver_17 : decode cX0_takeOver 17 = .ok (.iconst 0, 1) := by decide +kernel
theorem dX0_takeOver_18 : decode cX0_takeOver 18 = .ok (.bipush 6, 2) := by decide +kernel
theorem dX0_takeOver_20 : decode cX0_takeOver 20 = .ok (.invokestatic 52, 3) := by decide +kernel
theorem dX0_takeOver_23 : decode cX0_takeOver 23 = .ok (.aload_n 1, 1) := by decide +kernel
theorem dX0_takeOver_24 : decode cX0_takeOver 24 = .ok (.getfield 19, 3) := by decide +kernel
theorem dX0_takeOver_27 : decode cX0_takeOver 27 = .ok (.iconst 0, 1) := by decide +kernel
theorem dX0_takeOver_28 : decode cX0_takeOver 28 = .ok (.aload_n 0, 1) := by decide +kernel
theorem dX0_takeOver_29 : decode cX0_takeOver 29 = .ok (.getfield 19, 3) := by decide +kernel
theorem dX0_takeOver_32 : decode cX0_takeOver 32 = .ok (.iconst 0, 1) := by decide +kernel
theorem dX0_takeOver_33 : decode cX0_takeOver 33 = .ok (.bipush 6, 2) := by decide +kernel
theorem dX0_takeOver_35 : decode cX0_takeOver 35 = .ok (.invokestatic 52, 3) := by decide +kernel
theorem dX0_takeOver_38 : decode cX0_takeOver 38 = .ok (.aload_n 1, 1) := by decide +kernel
theorem dX0_takeOver_39 : decode cX0_takeOver 39 = .ok (.getfield 22, 3) := by decide +kernel
theorem dX0_takeOver_42 : decode cX0_takeOver 42 = .ok (.iconst 0, 1) := by decide +kernel
theorem dX0_takeOver_43 : decode cX0_takeOver 43 = .ok (.aload_n 0, 1) := by decide +kernel
theorem dX0_takeOver_44 : decode cX0_takeOver 44 = .ok (.getfield 22, 3) := by decide +kernel
theorem dX0_takeOver_47 : decode cX0_takeOver 47 = .ok (.iconst 0, 1) := by decide +kernel
theorem dX0_takeOver_48 : decode cX0_takeOver 48 = .ok (.bipush 6, 2) := by decide +kernel
theorem dX0_takeOver_50 : decode cX0_takeOver 50 = .ok (.invokestatic 52, 3) := by decide +kernel
theorem dX0_takeOver_53 : decode cX0_takeOver 53 = .ok (.iconst 0, 1) := by decide +kernel
theorem dX0_takeOver_54 : decode cX0_takeOver 54 = .ok (.istore_n 2, 1) := by decide +kernel
theorem dX0_takeOver_55 : decode cX0_takeOver 55 = .ok (.iload_n 2, 1) := by decide +kernel
theorem dX0_takeOver_56 : decode cX0_takeOver 56 = .ok (.bipush 6, 2) := by decide +kernel
theorem dX0_takeOver_58 : decode cX0_takeOver 58 = .ok (.if_icmp .ge 21, 3) := by decide +kernel
theorem dX0_takeOver_61 : decode cX0_takeOver 61 = .ok (.aload_n 0, 1) := by decide +kernel
theorem dX0_takeOver_62 : decode cX0_takeOver 62 = .ok (.getfield 26, 3) := by decide +kernel
theorem dX0_takeOver_65 : decode cX0_takeOver 65 = .ok (.iload_n 2, 1) := by decide +kernel
theorem dX0_takeOver_66 : decode cX0_takeOver 66 = .ok (.aload_n 1, 1) := by decide +kernel
theorem dX0_takeOver_67 : decode cX0_takeOver 67 = .ok (.getfield 26, 3) := by decide +kernel
theorem dX0_takeOver_70 : decode cX0_takeOver 70 = .ok (.iload_n 2, 1) := by decide +kernel
theorem dX0_takeOver_71 : decode cX0_takeOver 71 = .ok (.baload, 1) := by decide +kernel
theorem dX0_takeOver_72 : decode cX0_takeOver 72 = .ok (.bastore, 1) := by decide +kernel
theorem dX0_takeOver_73 : decode cX0_takeOver 73 = .ok (.iinc 2 1, 3) := by decide +kernel
theorem dX0_takeOver_76 : decode cX0_takeOver 76 = .ok (.goto (-21), 3) := by decide +kernel
theorem dX0_takeOver_79 : decode cX0_takeOver 79 = .ok (.iconst 0, 1) := by decide +kernel
theorem dX0_takeOver_80 : decode cX0_takeOver 80 = .ok (.istore_n 2, 1) := by decide +kernel
theorem dX0_takeOver_81 : decode cX0_takeOver 81 = .ok (.iload_n 2, 1) := by decide +kernel
theorem dX0_takeOver_82 : decode cX0_takeOver 82 = .ok (.bipush 40, 2) := by decide +kernel
theorem dX0_takeOver_84 : decode cX0_takeOver 84 = .ok (.if_icmp .ge 21, 3) := by decide +kernel
theorem dX0_takeOver_87 : decode cX0_takeOver 87 = .ok (.aload_n 0, 1) := by decide +kernel
theorem dX0_takeOver_88 : decode cX0_takeOver 88 = .ok (.getfield 30, 3) := by decide +kernel
theorem dX0_takeOver_91 : decode cX0_takeOver 91 = .ok (.iload_n 2, 1) := by decide +kernel
theorem dX0_takeOver_92 : decode cX0_takeOver 92 = .ok (.aload_n 1, 1) := by decide +kernel
theorem dX0_takeOver_93 : decode cX0_takeOver 93 = .ok (.getfield 30, 3) := by decide +kernel
theorem dX0_takeOver_96 : decode cX0_takeOver 96 = .ok (.iload_n 2, 1) := by decide +kernel
theorem dX0_takeOver_97 : decode cX0_takeOver 97 = .ok (.baload, 1) := by decide +kernel
theorem dX0_takeOver_98 : decode cX0_takeOver 98 = .ok (.bastore, 1) := by decide +kernel
theorem dX0_takeOver_99 : decode cX0_takeOver 99 = .ok (.iinc 2 1, 3) := by decide +kernel
theorem dX0_takeOver_102 : decode cX0_takeOver 102 = .ok (.goto (-21), 3) := by decide +kernel
theorem dX0_takeOver_105 : decode cX0_takeOver 105 = .ok (.aload_n 1, 1) := by decide +kernel
theorem dX0_takeOver_106 : decode cX0_takeOver 106 = .ok (.getfield 33, 3) := by decide +kernel
theorem dX0_takeOver_109 : decode cX0_takeOver 109 = .ok (.iconst 0, 1) := by decide +kernel
theorem dX0_takeOver_110 : decode cX0_takeOver 110 = .ok (.aload_n 0, 1) := by decide +kernel
theorem dX0_takeOver_111 : decode cX0_takeOver 111 = .ok (.getfield 33, 3) := by decide +kernel
theorem dX0_takeOver_114 : decode cX0_takeOver 114 = .ok (.iconst 0, 1) := by decide +kernel
theorem dX0_takeOver_115 : decode cX0_takeOver 115 = .ok (.bipush 40, 2) := by decide +kernel
theorem dX0_takeOver_117 : decode cX0_takeOver 117 = .ok (.invokestatic 52, 3) := by decide +kernel
theorem dX0_takeOver_120 : decode cX0_takeOver 120 = .ok (.aload_n 1, 1) := by decide +kernel
theorem dX0_takeOver_121 : decode cX0_takeOver 121 = .ok (.getfield 36, 3) := by decide +kernel
theorem dX0_takeOver_124 : decode cX0_takeOver 124 = .ok (.iconst 0, 1) := by decide +kernel
theorem dX0_takeOver_125 : decode cX0_takeOver 125 = .ok (.aload_n 0, 1) := by decide +kernel
theorem dX0_takeOver_126 : decode cX0_takeOver 126 = .ok (.getfield 36, 3) := by decide +kernel
theorem dX0_takeOver_129 : decode cX0_takeOver 129 = .ok (.iconst 0, 1) := by decide +kernel
theorem dX0_takeOver_130 : decode cX0_takeOver 130 = .ok (.bipush 40, 2) := by decide +kernel
theorem dX0_takeOver_132 : decode cX0_takeOver 132 = .ok (.invokestatic 52, 3) := by decide +kernel
theorem dX0_takeOver_135 : decode cX0_takeOver 135 = .ok (.aload_n 1, 1) := by decide +kernel
theorem dX0_takeOver_136 : decode cX0_takeOver 136 = .ok (.getfield 39, 3) := by decide +kernel
theorem dX0_takeOver_139 : decode cX0_takeOver 139 = .ok (.iconst 0, 1) := by decide +kernel
theorem dX0_takeOver_140 : decode cX0_takeOver 140 = .ok (.aload_n 0, 1) := by decide +kernel
theorem dX0_takeOver_141 : decode cX0_takeOver 141 = .ok (.getfield 39, 3) := by decide +kernel
theorem dX0_takeOver_144 : decode cX0_takeOver 144 = .ok (.iconst 0, 1) := by decide +kernel
theorem dX0_takeOver_145 : decode cX0_takeOver 145 = .ok (.bipush 40, 2) := by decide +kernel
theorem dX0_takeOver_147 : decode cX0_takeOver 147 = .ok (.invokestatic 52, 3) := by decide +kernel
theorem dX0_takeOver_150 : decode cX0_takeOver 150 = .ok (.aload_n 1, 1) := by decide +kernel
theorem dX0_takeOver_151 : decode cX0_takeOver 151 = .ok (.getfield 42, 3) := by decide +kernel
theorem dX0_takeOver_154 : decode cX0_takeOver 154 = .ok (.iconst 0, 1) := by decide +kernel
theorem dX0_takeOver_155 : decode cX0_takeOver 155 = .ok (.aload_n 0, 1) := by decide +kernel
theorem dX0_takeOver_156 : decode cX0_takeOver 156 = .ok (.getfield 42, 3) := by decide +kernel
theorem dX0_takeOver_159 : decode cX0_takeOver 159 = .ok (.iconst 0, 1) := by decide +kernel
theorem dX0_takeOver_160 : decode cX0_takeOver 160 = .ok (.sipush 480, 3) := by decide +kernel
theorem dX0_takeOver_163 : decode cX0_takeOver 163 = .ok (.invokestatic 52, 3) := by decide +kernel
theorem dX0_takeOver_166 : decode cX0_takeOver 166 = .ok (.aload_n 1, 1) := by decide +kernel
theorem dX0_takeOver_167 : decode cX0_takeOver 167 = .ok (.getfield 45, 3) := by decide +kernel
theorem dX0_takeOver_170 : decode cX0_takeOver 170 = .ok (.iconst 0, 1) := by decide +kernel
theorem dX0_takeOver_171 : decode cX0_takeOver 171 = .ok (.aload_n 0, 1) := by decide +kernel
theorem dX0_takeOver_172 : decode cX0_takeOver 172 = .ok (.getfield 45, 3) := by decide +kernel
theorem dX0_takeOver_175 : decode cX0_takeOver 175 = .ok (.iconst 0, 1) := by decide +kernel
theorem dX0_takeOver_176 : decode cX0_takeOver 176 = .ok (.sipush 480, 3) := by decide +kernel
theorem dX0_takeOver_179 : decode cX0_takeOver 179 = .ok (.invokestatic 52, 3) := by decide +kernel
theorem dX0_takeOver_182 : decode cX0_takeOver 182 = .ok (.return_, 1) := by decide +kernel
theorem dX0_joinWith_0 : decode cX0_joinWith 0 = .ok (.aload_n 1, 1) := by decide +kernel
theorem dX0_joinWith_1 : decode cX0_joinWith 1 = .ok (.getfield 9, 3) := by decide +kernel
theorem dX0_joinWith_4 : decode cX0_joinWith 4 = .ok (.ifCond .ne 4, 3) := by decide +kernel
theorem dX0_joinWith_7 : decode cX0_joinWith 7 = .ok (.return_, 1) := by decide +kernel
theorem dX0_joinWith_8 : decode cX0_joinWith 8 = .ok (.aload_n 0, 1) := by decide +kernel
theorem dX0_joinWith_9 : decode cX0_joinWith 9 = .ok (.getfield 9, 3) := by decide +kernel
theorem dX0_joinWith_12 : decode cX0_joinWith 12 = .ok (.ifCond .ne 9, 3) := by decide +kernel
theorem dX0_joinWith_15 : decode cX0_joinWith 15 = .ok (.aload_n 0, 1) := by decide +kernel
theorem dX0_joinWith_16 : decode cX0_joinWith 16 = .ok (.aload_n 1, 1) := by decide +kernel
theorem dX0_joinWith_17 : decode cX0_joinWith 17 = .ok (.invokevirtual 58, 3) := by decide +kernel
theorem dX0_joinWith_20 : decode cX0_joinWith 20 = .ok (.return_, 1) := by decide +kernel
theorem dX0_joinWith_21 : decode cX0_joinWith 21 = .ok (.iconst 0, 1) := by decide +kernel
theorem dX0_joinWith_22 : decode cX0_joinWith 22 = .ok (.istore_n 2, 1) := by decide +kernel
theorem dX0_joinWith_23 : decode cX0_joinWith 23 = .ok (.iload_n 2, 1) := by decide +kernel
theorem dX0_joinWith_24 : decode cX0_joinWith 24 = .ok (.bipush 6, 2) := by decide +kernel
theorem dX0_joinWith_26 : decode cX0_joinWith 26 = .ok (.if_icmp .ge 51, 3) := by decide +kernel
theorem dX0_joinWith_29 : decode cX0_joinWith 29 = .ok (.aload_n 0, 1) := by decide +kernel
theorem dX0_joinWith_30 : decode cX0_joinWith 30 = .ok (.getfield 15, 3) := by decide +kernel
theorem dX0_joinWith_33 : decode cX0_joinWith 33 = .ok (.iload_n 2, 1) := by decide +kernel
theorem dX0_joinWith_34 : decode cX0_joinWith 34 = .ok (.aload_n 0, 1) := by decide +kernel
theorem dX0_joinWith_35 : decode cX0_joinWith 35 = .ok (.getfield 15, 3) := by decide +kernel
theorem dX0_joinWith_38 : decode cX0_joinWith 38 = .ok (.iload_n 2, 1) := by decide +kernel
theorem dX0_joinWith_39 : decode cX0_joinWith 39 = .ok (.iaload, 1) := by decide +kernel
theorem dX0_joinWith_40 : decode cX0_joinWith 40 = .ok (.aload_n 1, 1) := by decide +kernel
theorem dX0_joinWith_41 : decode cX0_joinWith 41 = .ok (.getfield 15, 3) := by decide +kernel
theorem dX0_joinWith_44 : decode cX0_joinWith 44 = .ok (.iload_n 2, 1) := by decide +kernel
theorem dX0_joinWith_45 : decode cX0_joinWith 45 = .ok (.iaload, 1) := by decide +kernel
theorem dX0_joinWith_46 : decode cX0_joinWith 46 = .ok (.invokestatic 62, 3) := by decide +kernel
theorem dX0_joinWith_49 : decode cX0_joinWith 49 = .ok (.iastore, 1) := by decide +kernel
theorem dX0_joinWith_50 : decode cX0_joinWith 50 = .ok (.aload_n 0, 1) := by decide +kernel
theorem dX0_joinWith_51 : decode cX0_joinWith 51 = .ok (.getfield 19, 3) := by decide +kernel
theorem dX0_joinWith_54 : decode cX0_joinWith 54 = .ok (.iload_n 2, 1) := by decide +kernel
theorem dX0_joinWith_55 : decode cX0_joinWith 55 = .ok (.aload_n 0, 1) := by decide +kernel
theorem dX0_joinWith_56 : decode cX0_joinWith 56 = .ok (.getfield 19, 3) := by decide +kernel
theorem dX0_joinWith_59 : decode cX0_joinWith 59 = .ok (.iload_n 2, 1) := by decide +kernel
theorem dX0_joinWith_60 : decode cX0_joinWith 60 = .ok (.iaload, 1) := by decide +kernel
theorem dX0_joinWith_61 : decode cX0_joinWith 61 = .ok (.aload_n 1, 1) := by decide +kernel
theorem dX0_joinWith_62 : decode cX0_joinWith 62 = .ok (.getfield 19, 3) := by decide +kernel
theorem dX0_joinWith_65 : decode cX0_joinWith 65 = .ok (.iload_n 2, 1) := by decide +kernel
theorem dX0_joinWith_66 : decode cX0_joinWith 66 = .ok (.iaload, 1) := by decide +kernel
theorem dX0_joinWith_67 : decode cX0_joinWith 67 = .ok (.invokestatic 68, 3) := by decide +kernel
theorem dX0_joinWith_70 : decode cX0_joinWith 70 = .ok (.iastore, 1) := by decide +kernel
theorem dX0_joinWith_71 : decode cX0_joinWith 71 = .ok (.iinc 2 1, 3) := by decide +kernel
theorem dX0_joinWith_74 : decode cX0_joinWith 74 = .ok (.goto (-51), 3) := by decide +kernel
theorem dX0_joinWith_77 : decode cX0_joinWith 77 = .ok (.iconst 0, 1) := by decide +kernel
theorem dX0_joinWith_78 : decode cX0_joinWith 78 = .ok (.istore_n 2, 1) := by decide +kernel
theorem dX0_joinWith_79 : decode cX0_joinWith 79 = .ok (.iload_n 2, 1) := by decide +kernel
theorem dX0_joinWith_80 : decode cX0_joinWith 80 = .ok (.bipush 6, 2) := by decide +kernel
theorem dX0_joinWith_82 : decode cX0_joinWith 82 = .ok (.if_icmp .ge 53, 3) := by decide +kernel
theorem dX0_joinWith_85 : decode cX0_joinWith 85 = .ok (.aload_n 0, 1) := by decide +kernel
theorem dX0_joinWith_86 : decode cX0_joinWith 86 = .ok (.getfield 22, 3) := by decide +kernel
theorem dX0_joinWith_89 : decode cX0_joinWith 89 = .ok (.iload_n 2, 1) := by decide +kernel
theorem dX0_joinWith_90 : decode cX0_joinWith 90 = .ok (.dup2, 1) := by decide +kernel
theorem dX0_joinWith_91 : decode cX0_joinWith 91 = .ok (.laload, 1) := by decide +kernel
theorem dX0_joinWith_92 : decode cX0_joinWith 92 = .ok (.aload_n 1, 1) := by decide +kernel
theorem dX0_joinWith_93 : decode cX0_joinWith 93 = .ok (.getfield 22, 3) := by decide +kernel
theorem dX0_joinWith_96 : decode cX0_joinWith 96 = .ok (.iload_n 2, 1) := by decide +kernel
theorem dX0_joinWith_97 : decode cX0_joinWith 97 = .ok (.laload, 1) := by decide +kernel
theorem dX0_joinWith_98 : decode cX0_joinWith 98 = .ok (.lor, 1) := by decide +kernel
theorem dX0_joinWith_99 : decode cX0_joinWith 99 = .ok (.lastore, 1) := by decide +kernel
theorem dX0_joinWith_100 : decode cX0_joinWith 100 = .ok (.aload_n 0, 1) := by decide +kernel
theorem dX0_joinWith_101 : decode cX0_joinWith 101 = .ok (.getfield 26, 3) := by decide +kernel
theorem dX0_joinWith_104 : decode cX0_joinWith 104 = .ok (.iload_n 2, 1) := by decide +kernel
theorem dX0_joinWith_105 : decode cX0_joinWith 105 = .ok (.aload_n 0, 1) := by decide +kernel
theorem dX0_joinWith_106 : decode cX0_joinWith 106 = .ok (.getfield 26, 3) := by decide +kernel
theorem dX0_joinWith_109 : decode cX0_joinWith 109 = .ok (.iload_n 2, 1) := by decide +kernel
theorem dX0_joinWith_110 : decode cX0_joinWith 110 = .ok (.baload, 1) := by decide +kernel
theorem dX0_joinWith_111 : decode cX0_joinWith 111 = .ok (.ifCond .ne 12, 3) := by decide +kernel
theorem dX0_joinWith_114 : decode cX0_joinWith 114 = .ok (.aload_n 1, 1) := by decide +kernel
theorem dX0_joinWith_115 : decode cX0_joinWith 115 = .ok (.getfield 26, 3) := by decide +kernel
theorem dX0_joinWith_118 : decode cX0_joinWith 118 = .ok (.iload_n 2, 1) := by decide +kernel
theorem dX0_joinWith_119 : decode cX0_joinWith 119 = .ok (.baload, 1) := by decide +kernel
theorem dX0_joinWith_120 : decode cX0_joinWith 120 = .ok (.ifCond .eq 7, 3) := by decide +kernel
theorem dX0_joinWith_123 : decode cX0_joinWith 123 = .ok (.iconst 1, 1) := by decide +kernel
theorem dX0_joinWith_124 : decode cX0_joinWith 124 = .ok (.goto 4, 3) := by decide +kernel
theorem dX0_joinWith_127 : decode cX0_joinWith 127 = .ok (.iconst 0, 1) := by decide +kernel
theorem dX0_joinWith_128 : decode cX0_joinWith 128 = .ok (.bastore, 1) := by decide +kernel
theorem dX0_joinWith_129 : decode cX0_joinWith 129 = .ok (.iinc 2 1, 3) := by decide +kernel
theorem dX0_joinWith_132 : decode cX0_joinWith 132 = .ok (.goto (-53), 3) := by decide +kernel
theorem dX0_joinWith_135 : decode cX0_joinWith 135 = .ok (.iconst 0, 1) := by decide +kernel
theorem dX0_joinWith_136 : decode cX0_joinWith 136 = .ok (.istore_n 2, 1) := by decide +kernel
theorem dX0_joinWith_137 : decode cX0_joinWith 137 = .ok (.iload_n 2, 1) := by decide +kernel
theorem dX0_joinWith_138 : decode cX0_joinWith 138 = .ok (.bipush 40, 2) := by decide +kernel
theorem dX0_joinWith_140 : decode cX0_joinWith 140 = .ok (.if_icmp .ge 25, 3) := by decide +kernel
theorem dX0_joinWith_143 : decode cX0_joinWith 143 = .ok (.aload_n 1, 1) := by decide +kernel
theorem dX0_joinWith_144 : decode cX0_joinWith 144 = .ok (.getfield 30, 3) := by decide +kernel
theorem dX0_joinWith_147 : decode cX0_joinWith 147 = .ok (.iload_n 2, 1) := by decide +kernel
theorem dX0_joinWith_148 : decode cX0_joinWith 148 = .ok (.baload, 1) := by decide +kernel
theorem dX0_joinWith_149 : decode cX0_joinWith 149 = .ok (.ifCond .eq 10, 3) := by decide +kernel
theorem dX0_joinWith_152 : decode cX0_joinWith 152 = .ok (.aload_n 0, 1) := by decide +kernel
theorem dX0_joinWith_153 : decode cX0_joinWith 153 = .ok (.iload_n 2, 1) := by decide +kernel
theorem dX0_joinWith_154 : decode cX0_joinWith 154 = .ok (.aload_n 1, 1) := by decide +kernel
theorem dX0_joinWith_155 : decode cX0_joinWith 155 = .ok (.iload_n 2, 1) := by decide +kernel
theorem dX0_joinWith_156 : decode cX0_joinWith 156 = .ok (.invokevirtual 71, 3) := by decide +kernel
theorem dX0_joinWith_159 : decode cX0_joinWith 159 = .ok (.iinc 2 1, 3) := by decide +kernel
theorem dX0_joinWith_162 : decode cX0_joinWith 162 = .ok (.goto (-25), 3) := by decide +kernel
theorem dX0_joinWith_165 : decode cX0_joinWith 165 = .ok (.return_, 1) := by decide +kernel
theorem dX0_addArray_0 : decode cX0_addArray 0 = .ok (.aload_n 0, 1) := by decide +kernel
theorem dX0_addArray_1 : decode cX0_addArray 1 = .ok (.getfield 30, 3) := by decide +kernel
theorem dX0_addArray_4 : decode cX0_addArray 4 = .ok (.iload_n 1, 1) := by decide +kernel
theorem dX0_addArray_5 : decode cX0_addArray 5 = .ok (.baload, 1) := by decide +kernel
theorem dX0_addArray_6 : decode cX0_addArray 6 = .ok (.istore 4, 2) := by decide +kernel
theorem dX0_addArray_8 : decode cX0_addArray 8 = .ok (.aload_n 0, 1) := by decide +kernel
theorem dX0_addArray_9 : decode cX0_addArray 9 = .ok (.getfield 30, 3) := by decide +kernel
theorem dX0_addArray_12 : decode cX0_addArray 12 = .ok (.iload_n 1, 1) := by decide +kernel
theorem dX0_addArray_13 : decode cX0_addArray 13 = .ok (.iconst 1, 1) := by decide +kernel
theorem dX0_addArray_14 : decode cX0_addArray 14 = .ok (.bastore, 1) := by decide +kernel
theorem dX0_addArray_15 : decode cX0_addArray 15 = .ok (.aload_n 0, 1) := by decide +kernel
theorem dX0_addArray_16 : decode cX0_addArray 16 = .ok (.getfield 33, 3) := by decide +kernel
theorem dX0_addArray_19 : decode cX0_addArray 19 = .ok (.iload_n 1, 1) := by decide +kernel
theorem dX0_addArray_20 : decode cX0_addArray 20 = .ok (.iload 4, 2) := by decide +kernel
theorem dX0_addArray_22 : decode cX0_addArray 22 = .ok (.ifCond .eq 19, 3) := by decide +kernel
theorem dX0_addArray_25 : decode cX0_addArray 25 = .ok (.aload_n 0, 1) := by decide +kernel
theorem dX0_addArray_26 : decode cX0_addArray 26 = .ok (.getfield 33, 3) := by decide +kernel
theorem dX0_addArray_29 : decode cX0_addArray 29 = .ok (.iload_n 1, 1) := by decide +kernel
theorem dX0_addArray_30 : decode cX0_addArray 30 = .ok (.iaload, 1) := by decide +kernel
theorem dX0_addArray_31 : decode cX0_addArray 31 = .ok (.aload_n 2, 1) := by decide +kernel
theorem dX0_addArray_32 : decode cX0_addArray 32 = .ok (.getfield 33, 3) := by decide +kernel
theorem dX0_addArray_35 : decode cX0_addArray 35 = .ok (.iload_n 3, 1) := by decide +kernel
theorem dX0_addArray_36 : decode cX0_addArray 36 = .ok (.iaload, 1) := by decide +kernel
theorem dX0_addArray_37 : decode cX0_addArray 37 = .ok (.ior, 1) := by decide +kernel
theorem dX0_addArray_38 : decode cX0_addArray 38 = .ok (.goto 9, 3) := by decide +kernel
theorem dX0_addArray_41 : decode cX0_addArray 41 = .ok (.aload_n 2, 1) := by decide +kernel
theorem dX0_addArray_42 : decode cX0_addArray 42 = .ok (.getfield 33, 3) := by decide +kernel
theorem dX0_addArray_45 : decode cX0_addArray 45 = .ok (.iload_n 3, 1) := by decide +kernel
theorem dX0_addArray_46 : decode cX0_addArray 46 = .ok (.iaload, 1) := by decide +kernel
theorem dX0_addArray_47 : decode cX0_addArray 47 = .ok (.iastore, 1) := by decide +kernel
theorem dX0_addArray_48 : decode cX0_addArray 48 = .ok (.aload_n 0, 1) := by decide +kernel
theorem dX0_addArray_49 : decode cX0_addArray 49 = .ok (.getfield 36, 3) := by decide +kernel
theorem dX0_addArray_52 : decode cX0_addArray 52 = .ok (.iload_n 1, 1) := by decide +kernel
theorem dX0_addArray_53 : decode cX0_addArray 53 = .ok (.iload 4, 2) := by decide +kernel
theorem dX0_addArray_55 : decode cX0_addArray 55 = .ok (.ifCond .eq 21, 3) := by decide +kernel
theorem dX0_addArray_58 : decode cX0_addArray 58 = .ok (.aload_n 0, 1) := by decide +kernel
theorem dX0_addArray_59 : decode cX0_addArray 59 = .ok (.getfield 36, 3) := by decide +kernel
theorem dX0_addArray_62 : decode cX0_addArray 62 = .ok (.iload_n 1, 1) := by decide +kernel
theorem dX0_addArray_63 : decode cX0_addArray 63 = .ok (.iaload, 1) := by decide +kernel
theorem dX0_addArray_64 : decode cX0_addArray 64 = .ok (.aload_n 2, 1) := by decide +kernel
theorem dX0_addArray_65 : decode cX0_addArray 65 = .ok (.getfield 36, 3) := by decide +kernel
theorem dX0_addArray_68 : decode cX0_addArray 68 = .ok (.iload_n 3, 1) := by decide +kernel
theorem dX0_addArray_69 : decode cX0_addArray 69 = .ok (.iaload, 1) := by decide +kernel
theorem dX0_addArray_70 : decode cX0_addArray 70 = .ok (.invokestatic 62, 3) := by decide +kernel
theorem dX0_addArray_73 : decode cX0_addArray 73 = .ok (.goto 9, 3) := by decide +kernel
theorem dX0_addArray_76 : decode cX0_addArray 76 = .ok (.aload_n 2, 1) := by decide +kernel
theorem dX0_addArray_77 : decode cX0_addArray 77 = .ok (.getfield 36, 3) := by decide +kernel
theorem dX0_addArray_80 : decode cX0_addArray 80 = .ok (.iload_n 3, 1) := by decide +kernel
theorem dX0_addArray_81 : decode cX0_addArray 81 = .ok (.iaload, 1) := by decide +kernel
theorem dX0_addArray_82 : decode cX0_addArray 82 = .ok (.iastore, 1) := by decide +kernel
theorem dX0_addArray_83 : decode cX0_addArray 83 = .ok (.aload_n 0, 1) := by decide +kernel
theorem dX0_addArray_84 : decode cX0_addArray 84 = .ok (.getfield 39, 3) := by decide +kernel
theorem dX0_addArray_87 : decode cX0_addArray 87 = .ok (.iload_n 1, 1) := by decide +kernel
theorem dX0_addArray_88 : decode cX0_addArray 88 = .ok (.iload 4, 2) := by decide +kernel
theorem dX0_addArray_90 : decode cX0_addArray 90 = .ok (.ifCond .eq 21, 3) := by decide +kernel
theorem dX0_addArray_93 : decode cX0_addArray 93 = .ok (.aload_n 0, 1) := by decide +kernel
theorem dX0_addArray_94 : decode cX0_addArray 94 = .ok (.getfield 39, 3) := by decide +kernel
theorem dX0_addArray_97 : decode cX0_addArray 97 = .ok (.iload_n 1, 1) := by decide +kernel
theorem dX0_addArray_98 : decode cX0_addArray 98 = .ok (.iaload, 1) := by decide +kernel
theorem dX0_addArray_99 : decode cX0_addArray 99 = .ok (.aload_n 2, 1) := by decide +kernel
theorem dX0_addArray_100 : decode cX0_addArray 100 = .ok (.getfield 39, 3) := by decide +kernel
theorem dX0_addArray_103 : decode cX0_addArray 103 = .ok (.iload_n 3, 1) := by decide +kernel
theorem dX0_addArray_104 : decode cX0_addArray 104 = .ok (.iaload, 1) := by decide +kernel
theorem dX0_addArray_105 : decode cX0_addArray 105 = .ok (.invokestatic 68, 3) := by decide +kernel
theorem dX0_addArray_108 : decode cX0_addArray 108 = .ok (.goto 9, 3) := by decide +kernel
theorem dX0_addArray_111 : decode cX0_addArray 111 = .ok (.aload_n 2, 1) := by decide +kernel
theorem dX0_addArray_112 : decode cX0_addArray 112 = .ok (.getfield 39, 3) := by decide +kernel
theorem dX0_addArray_115 : decode cX0_addArray 115 = .ok (.iload_n 3, 1) := by decide +kernel
theorem dX0_addArray_116 : decode cX0_addArray 116 = .ok (.iaload, 1) := by decide +kernel
theorem dX0_addArray_117 : decode cX0_addArray 117 = .ok (.iastore, 1) := by decide +kernel
theorem dX0_addArray_118 : decode cX0_addArray 118 = .ok (.iconst 0, 1) := by decide +kernel
theorem dX0_addArray_119 : decode cX0_addArray 119 = .ok (.istore 5, 2) := by decide +kernel
theorem dX0_addArray_121 : decode cX0_addArray 121 = .ok (.iload 5, 2) := by decide +kernel
theorem dX0_addArray_123 : decode cX0_addArray 123 = .ok (.bipush 12, 2) := by decide +kernel
theorem dX0_addArray_125 : decode cX0_addArray 125 = .ok (.if_icmp .ge 105, 3) := by decide +kernel
theorem dX0_addArray_128 : decode cX0_addArray 128 = .ok (.iload_n 1, 1) := by decide +kernel
theorem dX0_addArray_129 : decode cX0_addArray 129 = .ok (.bipush 12, 2) := by decide +kernel
theorem dX0_addArray_131 : decode cX0_addArray 131 = .ok (.imul, 1) := by decide +kernel
theorem dX0_addArray_132 : decode cX0_addArray 132 = .ok (.iload 5, 2) := by decide +kernel
theorem dX0_addArray_134 : decode cX0_addArray 134 = .ok (.iadd, 1) := by decide +kernel
theorem dX0_addArray_135 : decode cX0_addArray 135 = .ok (.istore 6, 2) := by decide +kernel
theorem dX0_addArray_137 : decode cX0_addArray 137 = .ok (.iload_n 3, 1) := by decide +kernel
theorem dX0_addArray_138 : decode cX0_addArray 138 = .ok (.bipush 12, 2) := by decide +kernel
theorem dX0_addArray_140 : decode cX0_addArray 140 = .ok (.imul, 1) := by decide +kernel
theorem dX0_addArray_141 : decode cX0_addArray 141 = .ok (.iload 5, 2) := by decide +kernel
theorem dX0_addArray_143 : decode cX0_addArray 143 = .ok (.iadd, 1) := by decide +kernel
theorem dX0_addArray_144 : decode cX0_addArray 144 = .ok (.istore 7, 2) := by decide +kernel
theorem dX0_addArray_146 : decode cX0_addArray 146 = .ok (.aload_n 0, 1) := by decide +kernel
theorem dX0_addArray_147 : decode cX0_addArray 147 = .ok (.getfield 42, 3) := by decide +kernel
theorem dX0_addArray_150 : decode cX0_addArray 150 = .ok (.iload 6, 2) := by decide +kernel
theorem dX0_addArray_152 : decode cX0_addArray 152 = .ok (.iload 4, 2) := by decide +kernel
theorem dX0_addArray_154 : decode cX0_addArray 154 = .ok (.ifCond .eq 23, 3) := by decide +kernel
theorem dX0_addArray_157 : decode cX0_addArray 157 = .ok (.aload_n 0, 1) := by decide +kernel
theorem dX0_addArray_158 : decode cX0_addArray 158 = .ok (.getfield 42, 3) := by decide +kernel
theorem dX0_addArray_161 : decode cX0_addArray 161 = .ok (.iload 6, 2) := by decide +kernel
theorem dX0_addArray_163 : decode cX0_addArray 163 = .ok (.iaload, 1) := by decide +kernel
theorem dX0_addArray_164 : decode cX0_addArray 164 = .ok (.aload_n 2, 1) := by decide +kernel
theorem dX0_addArray_165 : decode cX0_addArray 165 = .ok (.getfield 42, 3) := by decide +kernel
theorem dX0_addArray_168 : decode cX0_addArray 168 = .ok (.iload 7, 2) := by decide +kernel
theorem dX0_addArray_170 : decode cX0_addArray 170 = .ok (.iaload, 1) := by decide +kernel
theorem dX0_addArray_171 : decode cX0_addArray 171 = .ok (.invokestatic 62, 3) := by decide +kernel
theorem dX0_addArray_174 : decode cX0_addArray 174 = .ok (.goto 10, 3) := by decide +kernel
theorem dX0_addArray_177 : decode cX0_addArray 177 = .ok (.aload_n 2, 1) := by decide +kernel
theorem dX0_addArray_178 : decode cX0_addArray 178 = .ok (.getfield 42, 3) := by decide +kernel
theorem dX0_addArray_181 : decode cX0_addArray 181 = .ok (.iload 7, 2) := by decide +kernel
theorem dX0_addArray_183 : decode cX0_addArray 183 = .ok (.iaload, 1) := by decide +kernel
theorem dX0_addArray_184 : decode cX0_addArray 184 = .ok (.iastore, 1) := by decide +kernel
theorem dX0_addArray_185 : decode cX0_addArray 185 = .ok (.aload_n 0, 1) := by decide +kernel
theorem dX0_addArray_186 : decode cX0_addArray 186 = .ok (.getfield 45, 3) := by decide +kernel
theorem dX0_addArray_189 : decode cX0_addArray 189 = .ok (.iload 6, 2) := by decide +kernel
theorem dX0_addArray_191 : decode cX0_addArray 191 = .ok (.iload 4, 2) := by decide +kernel
theorem dX0_addArray_193 : decode cX0_addArray 193 = .ok (.ifCond .eq 23, 3) := by decide +kernel
theorem dX0_addArray_196 : decode cX0_addArray 196 = .ok (.aload_n 0, 1) := by decide +kernel
theorem dX0_addArray_197 : decode cX0_addArray 197 = .ok (.getfield 45, 3) := by decide +kernel
theorem dX0_addArray_200 : decode cX0_addArray 200 = .ok (.iload 6, 2) := by decide +kernel
theorem dX0_addArray_202 : decode cX0_addArray 202 = .ok (.iaload, 1) := by decide +kernel
theorem dX0_addArray_203 : decode cX0_addArray 203 = .ok (.aload_n 2, 1) := by decide +kernel
theorem dX0_addArray_204 : decode cX0_addArray 204 = .ok (.getfield 45, 3) := by decide +kernel
theorem dX0_addArray_207 : decode cX0_addArray 207 = .ok (.iload 7, 2) := by decide +kernel
theorem dX0_addArray_209 : decode cX0_addArray 209 = .ok (.iaload, 1) := by decide +kernel
theorem dX0_addArray_210 : decode cX0_addArray 210 = .ok (.invokestatic 68, 3) := by decide +kernel
theorem dX0_addArray_213 : decode cX0_addArray 213 = .ok (.goto 10, 3) := by decide +kernel
theorem dX0_addArray_216 : decode cX0_addArray 216 = .ok (.aload_n 2, 1) := by decide +kernel
theorem dX0_addArray_217 : decode cX0_addArray 217 = .ok (.getfield 45, 3) := by decide +kernel
theorem dX0_addArray_220 : decode cX0_addArray 220 = .ok (.iload 7, 2) := by decide +kernel
theorem dX0_addArray_222 : decode cX0_addArray 222 = .ok (.iaload, 1) := by decide +kernel
theorem dX0_addArray_223 : decode cX0_addArray 223 = .ok (.iastore, 1) := by decide +kernel
theorem dX0_addArray_224 : decode cX0_addArray 224 = .ok (.iinc 5 1, 3) := by decide +kernel
theorem dX0_addArray_227 : decode cX0_addArray 227 = .ok (.goto (-106), 3) := by decide +kernel
theorem dX0_addArray_230 : decode cX0_addArray 230 = .ok (.return_, 1) := by decide +kernel
theorem dX0_makeArray_0 : decode cX0_makeArray 0 = .ok (.aload_n 0, 1) := by decide +kernel
theorem dX0_makeArray_1 : decode cX0_makeArray 1 = .ok (.getfield 30, 3) := by decide +kernel
theorem dX0_makeArray_4 : decode cX0_makeArray 4 = .ok (.iload_n 1, 1) := by decide +kernel
theorem dX0_makeArray_5 : decode cX0_makeArray 5 = .ok (.iconst 1, 1) := by decide +kernel
theorem dX0_makeArray_6 : decode cX0_makeArray 6 = .ok (.bastore, 1) := by decide +kernel
theorem dX0_makeArray_7 : decode cX0_makeArray 7 = .ok (.aload_n 0, 1) := by decide +kernel
theorem dX0_makeArray_8 : decode cX0_makeArray 8 = .ok (.getfield 33, 3) := by decide +kernel
theorem dX0_makeArray_11 : decode cX0_makeArray 11 = .ok (.iload_n 1, 1) := by decide +kernel
theorem dX0_makeArray_12 : decode cX0_makeArray 12 = .ok (.iconst 1, 1) := by decide +kernel
theorem dX0_makeArray_13 : decode cX0_makeArray 13 = .ok (.iload_n 2, 1) := by decide +kernel
theorem dX0_makeArray_14 : decode cX0_makeArray 14 = .ok (.ishl, 1) := by decide +kernel
theorem dX0_makeArray_15 : decode cX0_makeArray 15 = .ok (.iastore, 1) := by decide +kernel
theorem dX0_makeArray_16 : decode cX0_makeArray 16 = .ok (.aload_n 0, 1) := by decide +kernel
theorem dX0_makeArray_17 : decode cX0_makeArray 17 = .ok (.getfield 36, 3) := by decide +kernel
theorem dX0_makeArray_20 : decode cX0_makeArray 20 = .ok (.iload_n 1, 1) := by decide +kernel
theorem dX0_makeArray_21 : decode cX0_makeArray 21 = .ok (.iload_n 3, 1) := by decide +kernel
theorem dX0_makeArray_22 : decode cX0_makeArray 22 = .ok (.iastore, 1) := by decide +kernel
theorem dX0_makeArray_23 : decode cX0_makeArray 23 = .ok (.aload_n 0, 1) := by decide +kernel
theorem dX0_makeArray_24 : decode cX0_makeArray 24 = .ok (.getfield 39, 3) := by decide +kernel
theorem dX0_makeArray_27 : decode cX0_makeArray 27 = .ok (.iload_n 1, 1) := by decide +kernel
theorem dX0_makeArray_28 : decode cX0_makeArray 28 = .ok (.iload 4, 2) := by decide +kernel
theorem dX0_makeArray_30 : decode cX0_makeArray 30 = .ok (.iastore, 1) := by decide +kernel
theorem dX0_makeArray_31 : decode cX0_makeArray 31 = .ok (.aload_n 0, 1) := by decide +kernel
theorem dX0_makeArray_32 : decode cX0_makeArray 32 = .ok (.iload_n 1, 1) := by decide +kernel
theorem dX0_makeArray_33 : decode cX0_makeArray 33 = .ok (.iconst 0, 1) := by decide +kernel
theorem dX0_makeArray_34 : decode cX0_makeArray 34 = .ok (.ldc2_w 75, 3) := by decide +kernel
theorem dX0_makeArray_37 : decode cX0_makeArray 37 = .ok (.iconst 0, 1) := by decide +kernel
theorem dX0_makeArray_38 : decode cX0_makeArray 38 = .ok (.iconst 0, 1) := by decide +kernel
theorem dX0_makeArray_39 : decode cX0_makeArray 39 = .ok (.iconst 1, 1) := by decide +kernel
theorem dX0_makeArray_40 : decode cX0_makeArray 40 = .ok (.invokevirtual 77, 3) := by decide +kernel
theorem dX0_makeArray_43 : decode cX0_makeArray 43 = .ok (.return_, 1) := by decide +kernel
theorem dX0_putSpan_0 : decode cX0_putSpan 0 = .ok (.iload_n 2, 1) := by decide +kernel
theorem dX0_putSpan_1 : decode cX0_putSpan 1 = .ok (.iconst 0, 1) := by decide +kernel
theorem dX0_putSpan_2 : decode cX0_putSpan 2 = .ok (.invokestatic 68, 3) := by decide +kernel
theorem dX0_putSpan_5 : decode cX0_putSpan 5 = .ok (.istore 8, 2) := by decide +kernel
theorem dX0_putSpan_7 : decode cX0_putSpan 7 = .ok (.iload 8, 2) := by decide +kernel
theorem dX0_putSpan_9 : decode cX0_putSpan 9 = .ok (.i2l, 1) := by decide +kernel
theorem dX0_putSpan_10 : decode cX0_putSpan 10 = .ok (.lload_n 3, 1) := by decide +kernel
theorem dX0_putSpan_11 : decode cX0_putSpan 11 = .ok (.lcmp, 1) := by decide +kernel
theorem dX0_putSpan_12 : decode cX0_putSpan 12 = .ok (.ifCond .ge 83, 3) := by decide +kernel
theorem dX0_putSpan_15 : decode cX0_putSpan 15 = .ok (.iload 8, 2) := by decide +kernel
theorem dX0_putSpan_17 : decode cX0_putSpan 17 = .ok (.bipush 12, 2) := by decide +kernel
theorem dX0_putSpan_19 : decode cX0_putSpan 19 = .ok (.if_icmp .ge 76, 3) := by decide +kernel
theorem dX0_putSpan_22 : decode cX0_putSpan 22 = .ok (.iload_n 1, 1) := by decide +kernel
theorem dX0_putSpan_23 : decode cX0_putSpan 23 = .ok (.bipush 12, 2) := by decide +kernel
theorem dX0_putSpan_25 : decode cX0_putSpan 25 = .ok (.imul, 1) := by decide +kernel
theorem dX0_putSpan_26 : decode cX0_putSpan 26 = .ok (.iload 8, 2) := by decide +kernel
theorem dX0_putSpan_28 : decode cX0_putSpan 28 = .ok (.iadd, 1) := by decide +kernel
theorem dX0_putSpan_29 : decode cX0_putSpan 29 = .ok (.istore 9, 2) := by decide +kernel
theorem dX0_putSpan_31 : decode cX0_putSpan 31 = .ok (.aload_n 0, 1) := by decide +kernel
theorem dX0_putSpan_32 : decode cX0_putSpan 32 = .ok (.getfield 42, 3) := by decide +kernel
theorem dX0_putSpan_35 : decode cX0_putSpan 35 = .ok (.iload 9, 2) := by decide +kernel
theorem dX0_putSpan_37 : decode cX0_putSpan 37 = .ok (.iload 7, 2) := by decide +kernel
theorem dX0_putSpan_39 : decode cX0_putSpan 39 = .ok (.ifCond .eq 8, 3) := by decide +kernel
theorem dX0_putSpan_42 : decode cX0_putSpan 42 = .ok (.iload 5, 2) := by decide +kernel
theorem dX0_putSpan_44 : decode cX0_putSpan 44 = .ok (.goto 15, 3) := by decide +kernel
theorem dX0_putSpan_47 : decode cX0_putSpan 47 = .ok (.aload_n 0, 1) := by decide +kernel
theorem dX0_putSpan_48 : decode cX0_putSpan 48 = .ok (.getfield 42, 3) := by decide +kernel
theorem dX0_putSpan_51 : decode cX0_putSpan 51 = .ok (.iload 9, 2) := by decide +kernel
theorem dX0_putSpan_53 : decode cX0_putSpan 53 = .ok (.iaload, 1) := by decide +kernel
theorem dX0_putSpan_54 : decode cX0_putSpan 54 = .ok (.iload 5, 2) := by decide +kernel
theorem dX0_putSpan_56 : decode cX0_putSpan 56 = .ok (.invokestatic 62, 3) := by decide +kernel
theorem dX0_putSpan_59 : decode cX0_putSpan 59 = .ok (.iastore, 1) := by decide +kernel
theorem dX0_putSpan_60 : decode cX0_putSpan 60 = .ok (.aload_n 0, 1) := by decide +kernel
theorem dX0_putSpan_61 : decode cX0_putSpan 61 = .ok (.getfield 45, 3) := by decide +kernel
theorem dX0_putSpan_64 : decode cX0_putSpan 64 = .ok (.iload 9, 2) := by decide +kernel
theorem dX0_putSpan_66 : decode cX0_putSpan 66 = .ok (.iload 7, 2) := by decide +kernel
theorem dX0_putSpan_68 : decode cX0_putSpan 68 = .ok (.ifCond .eq 8, 3) := by decide +kernel
theorem dX0_putSpan_71 : decode cX0_putSpan 71 = .ok (.iload 6, 2) := by decide +kernel
theorem dX0_putSpan_73 : decode cX0_putSpan 73 = .ok (.goto 15, 3) := by decide +kernel
theorem dX0_putSpan_76 : decode cX0_putSpan 76 = .ok (.aload_n 0, 1) := by decide +kernel
theorem dX0_putSpan_77 : decode cX0_putSpan 77 = .ok (.getfield 45, 3) := by decide +kernel
theorem dX0_putSpan_80 : decode cX0_putSpan 80 = .ok (.iload 9, 2) := by decide +kernel
theorem dX0_putSpan_82 : decode cX0_putSpan 82 = .ok (.iaload, 1) := by decide +kernel
theorem dX0_putSpan_83 : decode cX0_putSpan 83 = .ok (.iload 6, 2) := by decide +kernel
theorem dX0_putSpan_85 : decode cX0_putSpan 85 = .ok (.invokestatic 68, 3) := by decide +kernel
theorem dX0_putSpan_88 : decode cX0_putSpan 88 = .ok (.iastore, 1) := by decide +kernel
theorem dX0_putSpan_89 : decode cX0_putSpan 89 = .ok (.iinc 8 1, 3) := by decide +kernel
theorem dX0_putSpan_92 : decode cX0_putSpan 92 = .ok (.goto (-85), 3) := by decide +kernel
theorem dX0_putSpan_95 : decode cX0_putSpan 95 = .ok (.return_, 1) := by decide +kernel
theorem dX0_movePlaces_0 : decode cX0_movePlaces 0 = .ok (.iload 5, 2) := by decide +kernel
theorem dX0_movePlaces_2 : decode cX0_movePlaces 2 = .ok (.bipush 12, 2) := by decide +kernel
theorem dX0_movePlaces_4 : decode cX0_movePlaces 4 = .ok (.iload_n 2, 1) := by decide +kernel
theorem dX0_movePlaces_5 : decode cX0_movePlaces 5 = .ok (.iload 4, 2) := by decide +kernel
theorem dX0_movePlaces_7 : decode cX0_movePlaces 7 = .ok (.invokestatic 68, 3) := by decide +kernel
theorem dX0_movePlaces_10 : decode cX0_movePlaces 10 = .ok (.isub, 1) := by decide +kernel
theorem dX0_movePlaces_11 : decode cX0_movePlaces 11 = .ok (.invokestatic 62, 3) := by decide +kernel
theorem dX0_movePlaces_14 : decode cX0_movePlaces 14 = .ok (.istore 6, 2) := by decide +kernel
theorem dX0_movePlaces_16 : decode cX0_movePlaces 16 = .ok (.iload 6, 2) := by decide +kernel
theorem dX0_movePlaces_18 : decode cX0_movePlaces 18 = .ok (.ifCond .le 64, 3) := by decide +kernel
theorem dX0_movePlaces_21 : decode cX0_movePlaces 21 = .ok (.iload_n 2, 1) := by decide +kernel
theorem dX0_movePlaces_22 : decode cX0_movePlaces 22 = .ok (.ifCond .lt 60, 3) := by decide +kernel
theorem dX0_movePlaces_25 : decode cX0_movePlaces 25 = .ok (.iload 4, 2) := by decide +kernel
theorem dX0_movePlaces_27 : decode cX0_movePlaces 27 = .ok (.ifCond .lt 55, 3) := by decide +kernel
theorem dX0_movePlaces_30 : decode cX0_movePlaces 30 = .ok (.aload_n 0, 1) := by decide +kernel
theorem dX0_movePlaces_31 : decode cX0_movePlaces 31 = .ok (.getfield 42, 3) := by decide +kernel
theorem dX0_movePlaces_34 : decode cX0_movePlaces 34 = .ok (.iload_n 1, 1) := by decide +kernel
theorem dX0_movePlaces_35 : decode cX0_movePlaces 35 = .ok (.bipush 12, 2) := by decide +kernel
theorem dX0_movePlaces_37 : decode cX0_movePlaces 37 = .ok (.imul, 1) := by decide +kernel
theorem dX0_movePlaces_38 : decode cX0_movePlaces 38 = .ok (.iload_n 2, 1) := by decide +kernel
theorem dX0_movePlaces_39 : decode cX0_movePlaces 39 = .ok (.iadd, 1) := by decide +kernel
theorem dX0_movePlaces_40 : decode cX0_movePlaces 40 = .ok (.aload_n 0, 1) := by decide +kernel
theorem dX0_movePlaces_41 : decode cX0_movePlaces 41 = .ok (.getfield 42, 3) := by decide +kernel
theorem dX0_movePlaces_44 : decode cX0_movePlaces 44 = .ok (.iload_n 3, 1) := by decide +kernel
theorem dX0_movePlaces_45 : decode cX0_movePlaces 45 = .ok (.bipush 12, 2) := by decide +kernel
theorem dX0_movePlaces_47 : decode cX0_movePlaces 47 = .ok (.imul, 1) := by decide +kernel
theorem dX0_movePlaces_48 : decode cX0_movePlaces 48 = .ok (.iload 4, 2) := by decide +kernel
theorem dX0_movePlaces_50 : decode cX0_movePlaces 50 = .ok (.iadd, 1) := by decide +kernel
theorem dX0_movePlaces_51 : decode cX0_movePlaces 51 = .ok (.iload 6, 2) := by decide +kernel
theorem dX0_movePlaces_53 : decode cX0_movePlaces 53 = .ok (.invokestatic 52, 3) := by decide +kernel
theorem dX0_movePlaces_56 : decode cX0_movePlaces 56 = .ok (.aload_n 0, 1) := by decide +kernel
theorem dX0_movePlaces_57 : decode cX0_movePlaces 57 = .ok (.getfield 45, 3) := by decide +kernel
theorem dX0_movePlaces_60 : decode cX0_movePlaces 60 = .ok (.iload_n 1, 1) := by decide +kernel
theorem dX0_movePlaces_61 : decode cX0_movePlaces 61 = .ok (.bipush 12, 2) := by decide +kernel
theorem dX0_movePlaces_63 : decode cX0_movePlaces 63 = .ok (.imul, 1) := by decide +kernel
theorem dX0_movePlaces_64 : decode cX0_movePlaces 64 = .ok (.iload_n 2, 1) := by decide +kernel
theorem dX0_movePlaces_65 : decode cX0_movePlaces 65 = .ok (.iadd, 1) := by decide +kernel
theorem dX0_movePlaces_66 : decode cX0_movePlaces 66 = .ok (.aload_n 0, 1) := by decide +kernel
theorem dX0_movePlaces_67 : decode cX0_movePlaces 67 = .ok (.getfield 45, 3) := by decide +kernel
theorem dX0_movePlaces_70 : decode cX0_movePlaces 70 = .ok (.iload_n 3, 1) := by decide +kernel
theorem dX0_movePlaces_71 : decode cX0_movePlaces 71 = .ok (.bipush 12, 2) := by decide +kernel
theorem dX0_movePlaces_73 : decode cX0_movePlaces 73 = .ok (.imul, 1) := by decide +kernel
theorem dX0_movePlaces_74 : decode cX0_movePlaces 74 = .ok (.iload 4, 2) := by decide +kernel
theorem dX0_movePlaces_76 : decode cX0_movePlaces 76 = .ok (.iadd, 1) := by decide +kernel
theorem dX0_movePlaces_77 : decode cX0_movePlaces 77 = .ok (.iload 6, 2) := by decide +kernel
theorem dX0_movePlaces_79 : decode cX0_movePlaces 79 = .ok (.invokestatic 52, 3) := by decide +kernel
theorem dX0_movePlaces_82 : decode cX0_movePlaces 82 = .ok (.return_, 1) := by decide +kernel
theorem dX0_setSpan_0 : decode cX0_setSpan 0 = .ok (.aload_n 0, 1) := by decide +kernel
theorem dX0_setSpan_1 : decode cX0_setSpan 1 = .ok (.getfield 15, 3) := by decide +kernel
theorem dX0_setSpan_4 : decode cX0_setSpan 4 = .ok (.iload_n 1, 1) := by decide +kernel
theorem dX0_setSpan_5 : decode cX0_setSpan 5 = .ok (.iload_n 2, 1) := by decide +kernel
theorem dX0_setSpan_6 : decode cX0_setSpan 6 = .ok (.iastore, 1) := by decide +kernel
theorem dX0_setSpan_7 : decode cX0_setSpan 7 = .ok (.aload_n 0, 1) := by decide +kernel
theorem dX0_setSpan_8 : decode cX0_setSpan 8 = .ok (.getfield 19, 3) := by decide +kernel
theorem dX0_setSpan_11 : decode cX0_setSpan 11 = .ok (.iload_n 1, 1) := by decide +kernel
theorem dX0_setSpan_12 : decode cX0_setSpan 12 = .ok (.iload_n 3, 1) := by decide +kernel
theorem dX0_setSpan_13 : decode cX0_setSpan 13 = .ok (.iastore, 1) := by decide +kernel
theorem dX0_setSpan_14 : decode cX0_setSpan 14 = .ok (.return_, 1) := by decide +kernel
theorem dX0_setOutcome_0 : decode cX0_setOutcome 0 = .ok (.lload_n 2, 1) := by decide +kernel
theorem dX0_setOutcome_1 : decode cX0_setOutcome 1 = .ok (.ldc2_w 81, 3) := by decide +kernel
theorem dX0_setOutcome_4 : decode cX0_setOutcome 4 = .ok (.lcmp, 1) := by decide +kernel
theorem dX0_setOutcome_5 : decode cX0_setOutcome 5 = .ok (.ifCond .lt 12, 3) := by decide +kernel
theorem dX0_setOutcome_8 : decode cX0_setOutcome 8 = .ok (.lload 4, 2) := by decide +kernel
theorem dX0_setOutcome_10 : decode cX0_setOutcome 10 = .ok (.ldc2_w 83, 3) := by decide +kernel
theorem dX0_setOutcome_13 : decode cX0_setOutcome 13 = .ok (.lcmp, 1) := by decide +kernel
theorem dX0_setOutcome_14 : decode cX0_setOutcome 14 = .ok (.ifCond .le 15, 3) := by decide +kernel
theorem dX0_setOutcome_17 : decode cX0_setOutcome 17 = .ok (.aload_n 0, 1) := by decide +kernel
theorem dX0_setOutcome_18 : decode cX0_setOutcome 18 = .ok (.iload_n 1, 1) := by decide +kernel
theorem dX0_setOutcome_19 : decode cX0_setOutcome 19 = .ok (.ldc 85, 2) := by decide +kernel
theorem dX0_setOutcome_21 : decode cX0_setOutcome 21 = .ok (.ldc 86, 2) := by decide +kernel
theorem dX0_setOutcome_23 : decode cX0_setOutcome 23 = .ok (.invokevirtual 48, 3) := by decide +kernel
theorem dX0_setOutcome_26 : decode cX0_setOutcome 26 = .ok (.goto 13, 3) := by decide +kernel
theorem dX0_setOutcome_29 : decode cX0_setOutcome 29 = .ok (.aload_n 0, 1) := by decide +kernel
theorem dX0_setOutcome_30 : decode cX0_setOutcome 30 = .ok (.iload_n 1, 1) := by decide +kernel
theorem dX0_setOutcome_31 : decode cX0_setOutcome 31 = .ok (.lload_n 2, 1) := by decide +kernel
theorem dX0_setOutcome_32 : decode cX0_setOutcome 32 = .ok (.l2i, 1) := by decide +kernel
theorem dX0_setOutcome_33 : decode cX0_setOutcome 33 = .ok (.lload 4, 2) := by decide +kernel
theorem dX0_setOutcome_35 : decode cX0_setOutcome 35 = .ok (.l2i, 1) := by decide +kernel
theorem dX0_setOutcome_36 : decode cX0_setOutcome 36 = .ok (.invokevirtual 48, 3) := by decide +kernel
theorem dX0_setOutcome_39 : decode cX0_setOutcome 39 = .ok (.return_, 1) := by decide +kernel
theorem dX0_isOneNumber_0 : decode cX0_isOneNumber 0 = .ok (.aload_n 0, 1) := by decide +kernel
theorem dX0_isOneNumber_1 : decode cX0_isOneNumber 1 = .ok (.getfield 15, 3) := by decide +kernel
theorem dX0_isOneNumber_4 : decode cX0_isOneNumber 4 = .ok (.iload_n 1, 1) := by decide +kernel
theorem dX0_isOneNumber_5 : decode cX0_isOneNumber 5 = .ok (.iaload, 1) := by decide +kernel
theorem dX0_isOneNumber_6 : decode cX0_isOneNumber 6 = .ok (.aload_n 0, 1) := by decide +kernel
theorem dX0_isOneNumber_7 : decode cX0_isOneNumber 7 = .ok (.getfield 19, 3) := by decide +kernel
theorem dX0_isOneNumber_10 : decode cX0_isOneNumber 10 = .ok (.iload_n 1, 1) := by decide +kernel
theorem dX0_isOneNumber_11 : decode cX0_isOneNumber 11 = .ok (.iaload, 1) := by decide +kernel
theorem dX0_isOneNumber_12 : decode cX0_isOneNumber 12 = .ok (.if_icmp .ne 7, 3) := by decide +kernel
theorem dX0_isOneNumber_15 : decode cX0_isOneNumber 15 = .ok (.iconst 1, 1) := by decide +kernel
theorem dX0_isOneNumber_16 : decode cX0_isOneNumber 16 = .ok (.goto 4, 3) := by decide +kernel
theorem dX0_isOneNumber_19 : decode cX0_isOneNumber 19 = .ok (.iconst 0, 1) := by decide +kernel
theorem dX0_isOneNumber_20 : decode cX0_isOneNumber 20 = .ok (.ireturn, 1) := by decide +kernel
theorem dX0_narrow_0 : decode cX0_narrow 0 = .ok (.aload_n 0, 1) := by decide +kernel
theorem dX0_narrow_1 : decode cX0_narrow 1 = .ok (.iload_n 1, 1) := by decide +kernel
theorem dX0_narrow_2 : decode cX0_narrow 2 = .ok (.aload_n 0, 1) := by decide +kernel
theorem dX0_narrow_3 : decode cX0_narrow 3 = .ok (.getfield 15, 3) := by decide +kernel
theorem dX0_narrow_6 : decode cX0_narrow 6 = .ok (.iload_n 1, 1) := by decide +kernel
theorem dX0_narrow_7 : decode cX0_narrow 7 = .ok (.iaload, 1) := by decide +kernel
theorem dX0_narrow_8 : decode cX0_narrow 8 = .ok (.iload_n 2, 1) := by decide +kernel
theorem dX0_narrow_9 : decode cX0_narrow 9 = .ok (.invokestatic 68, 3) := by decide +kernel
theorem dX0_narrow_12 : decode cX0_narrow 12 = .ok (.aload_n 0, 1) := by decide +kernel
theorem dX0_narrow_13 : decode cX0_narrow 13 = .ok (.getfield 19, 3) := by decide +kernel
theorem dX0_narrow_16 : decode cX0_narrow 16 = .ok (.iload_n 1, 1) := by decide +kernel
theorem dX0_narrow_17 : decode cX0_narrow 17 = .ok (.iaload, 1) := by decide +kernel
theorem dX0_narrow_18 : decode cX0_narrow 18 = .ok (.iload_n 3, 1) := by decide +kernel
theorem dX0_narrow_19 : decode cX0_narrow 19 = .ok (.invokestatic 62, 3) := by decide +kernel
theorem dX0_narrow_22 : decode cX0_narrow 22 = .ok (.invokevirtual 48, 3) := by decide +kernel
theorem dX0_narrow_25 : decode cX0_narrow 25 = .ok (.aload_n 0, 1) := by decide +kernel
theorem dX0_narrow_26 : decode cX0_narrow 26 = .ok (.getfield 15, 3) := by decide +kernel
theorem dX0_narrow_29 : decode cX0_narrow 29 = .ok (.iload_n 1, 1) := by decide +kernel
theorem dX0_narrow_30 : decode cX0_narrow 30 = .ok (.iaload, 1) := by decide +kernel
theorem dX0_narrow_31 : decode cX0_narrow 31 = .ok (.aload_n 0, 1) := by decide +kernel
theorem dX0_narrow_32 : decode cX0_narrow 32 = .ok (.getfield 19, 3) := by decide +kernel
theorem dX0_narrow_35 : decode cX0_narrow 35 = .ok (.iload_n 1, 1) := by decide +kernel
theorem dX0_narrow_36 : decode cX0_narrow 36 = .ok (.iaload, 1) := by decide +kernel
theorem dX0_narrow_37 : decode cX0_narrow 37 = .ok (.if_icmp .le 8, 3) := by decide +kernel
theorem dX0_narrow_40 : decode cX0_narrow 40 = .ok (.aload_n 0, 1) := by decide +kernel
theorem dX0_narrow_41 : decode cX0_narrow 41 = .ok (.iconst 0, 1) := by decide +kernel
theorem dX0_narrow_42 : decode cX0_narrow 42 = .ok (.putfield 9, 3) := by decide +kernel
theorem dX0_narrow_45 : decode cX0_narrow 45 = .ok (.return_, 1) := by decide +kernel
theorem dX0_setReference_0 : decode cX0_setReference 0 = .ok (.aload_n 0, 1) := by decide +kernel
theorem dX0_setReference_1 : decode cX0_setReference 1 = .ok (.getfield 22, 3) := by decide +kernel
theorem dX0_setReference_4 : decode cX0_setReference 4 = .ok (.iload_n 1, 1) := by decide +kernel
theorem dX0_setReference_5 : decode cX0_setReference 5 = .ok (.lload_n 2, 1) := by decide +kernel
theorem dX0_setReference_6 : decode cX0_setReference 6 = .ok (.lastore, 1) := by decide +kernel
theorem dX0_setReference_7 : decode cX0_setReference 7 = .ok (.aload_n 0, 1) := by decide +kernel
theorem dX0_setReference_8 : decode cX0_setReference 8 = .ok (.getfield 26, 3) := by decide +kernel
theorem dX0_setReference_11 : decode cX0_setReference 11 = .ok (.iload_n 1, 1) := by decide +kernel
theorem dX0_setReference_12 : decode cX0_setReference 12 = .ok (.iload 4, 2) := by decide +kernel
theorem dX0_setReference_14 : decode cX0_setReference 14 = .ok (.bastore, 1) := by decide +kernel
theorem dX0_setReference_15 : decode cX0_setReference 15 = .ok (.return_, 1) := by decide +kernel
theorem dX0_narrowReference_0 : decode cX0_narrowReference 0 = .ok (.aload_n 0, 1) := by decide +kernel
theorem dX0_narrowReference_1 : decode cX0_narrowReference 1 = .ok (.iload_n 1, 1) := by decide +kernel
theorem dX0_narrowReference_2 : decode cX0_narrowReference 2 = .ok (.lload_n 2, 1) := by decide +kernel
theorem dX0_narrowReference_3 : decode cX0_narrowReference 3 = .ok (.iconst 0, 1) := by decide +kernel
theorem dX0_narrowReference_4 : decode cX0_narrowReference 4 = .ok (.invokevirtual 87, 3) := by decide +kernel
theorem dX0_narrowReference_7 : decode cX0_narrowReference 7 = .ok (.lload_n 2, 1) := by decide +kernel
theorem dX0_narrowReference_8 : decode cX0_narrowReference 8 = .ok (.lconst 0, 1) := by decide +kernel
theorem dX0_narrowReference_9 : decode cX0_narrowReference 9 = .ok (.lcmp, 1) := by decide +kernel
theorem dX0_narrowReference_10 : decode cX0_narrowReference 10 = .ok (.ifCond .ne 8, 3) := by decide +kernel
theorem dX0_narrowReference_13 : decode cX0_narrowReference 13 = .ok (.aload_n 0, 1) := by decide +kernel
theorem dX0_narrowReference_14 : decode cX0_narrowReference 14 = .ok (.iconst 0, 1) := by decide +kernel
theorem dX0_narrowReference_15 : decode cX0_narrowReference 15 = .ok (.putfield 9, 3) := by decide +kernel
theorem dX0_narrowReference_18 : decode cX0_narrowReference 18 = .ok (.return_, 1) := by decide +kernel
theorem dX0_castFits_0 : decode cX0_castFits 0 = .ok (.aload_n 0, 1) := by decide +kernel
theorem dX0_castFits_1 : decode cX0_castFits 1 = .ok (.getfield 15, 3) := by decide +kernel
theorem dX0_castFits_4 : decode cX0_castFits 4 = .ok (.iload_n 2, 1) := by decide +kernel
theorem dX0_castFits_5 : decode cX0_castFits 5 = .ok (.iaload, 1) := by decide +kernel
theorem dX0_castFits_6 : decode cX0_castFits 6 = .ok (.iload_n 1, 1) := by decide +kernel
theorem dX0_castFits_7 : decode cX0_castFits 7 = .ok (.invokestatic 91, 3) := by decide +kernel
theorem dX0_castFits_10 : decode cX0_castFits 10 = .ok (.if_icmp .lt 20, 3) := by decide +kernel
theorem dX0_castFits_13 : decode cX0_castFits 13 = .ok (.aload_n 0, 1) := by decide +kernel
theorem dX0_castFits_14 : decode cX0_castFits 14 = .ok (.getfield 19, 3) := by decide +kernel
theorem dX0_castFits_17 : decode cX0_castFits 17 = .ok (.iload_n 2, 1) := by decide +kernel
theorem dX0_castFits_18 : decode cX0_castFits 18 = .ok (.iaload, 1) := by decide +kernel
theorem dX0_castFits_19 : decode cX0_castFits 19 = .ok (.iload_n 1, 1) := by decide +kernel
theorem dX0_castFits_20 : decode cX0_castFits 20 = .ok (.invokestatic 95, 3) := by decide +kernel
theorem dX0_castFits_23 : decode cX0_castFits 23 = .ok (.if_icmp .gt 7, 3) := by decide +kernel
theorem dX0_castFits_26 : decode cX0_castFits 26 = .ok (.iconst 1, 1) := by decide +kernel
theorem dX0_castFits_27 : decode cX0_castFits 27 = .ok (.goto 4, 3) := by decide +kernel
theorem dX0_castFits_30 : decode cX0_castFits 30 = .ok (.iconst 0, 1) := by decide +kernel
theorem dX0_castFits_31 : decode cX0_castFits 31 = .ok (.ireturn, 1) := by decide +kernel
theorem dX0_castLeast_0 : decode cX0_castLeast 0 = .ok (.aload_n 0, 1) := by decide +kernel
theorem dX0_castLeast_1 : decode cX0_castLeast 1 = .ok (.iload_n 1, 1) := by decide +kernel
theorem dX0_castLeast_2 : decode cX0_castLeast 2 = .ok (.iload_n 2, 1) := by decide +kernel
theorem dX0_castLeast_3 : decode cX0_castLeast 3 = .ok (.invokevirtual 98, 3) := by decide +kernel
theorem dX0_castLeast_6 : decode cX0_castLeast 6 = .ok (.ifCond .eq 12, 3) := by decide +kernel
theorem dX0_castLeast_9 : decode cX0_castLeast 9 = .ok (.aload_n 0, 1) := by decide +kernel
theorem dX0_castLeast_10 : decode cX0_castLeast 10 = .ok (.getfield 15, 3) := by decide +kernel
theorem dX0_castLeast_13 : decode cX0_castLeast 13 = .ok (.iload_n 2, 1) := by decide +kernel
theorem dX0_castLeast_14 : decode cX0_castLeast 14 = .ok (.iaload, 1) := by decide +kernel
theorem dX0_castLeast_15 : decode cX0_castLeast 15 = .ok (.goto 7, 3) := by decide +kernel
theorem dX0_castLeast_18 : decode cX0_castLeast 18 = .ok (.iload_n 1, 1) := by decide +kernel
theorem dX0_castLeast_19 : decode cX0_castLeast 19 = .ok (.invokestatic 91, 3) := by decide +kernel
theorem dX0_castLeast_22 : decode cX0_castLeast 22 = .ok (.ireturn, 1) := by decide +kernel
theorem dX0_castGreatest_0 : decode cX0_castGreatest 0 = .ok (.aload_n 0, 1) := by decide +kernel
theorem dX0_castGreatest_1 : decode cX0_castGreatest 1 = .ok (.iload_n 1, 1) := by decide +kernel
theorem dX0_castGreatest_2 : decode cX0_castGreatest 2 = .ok (.iload_n 2, 1) := by decide +kernel
theorem dX0_castGreatest_3 : decode cX0_castGreatest 3 = .ok (.invokevirtual 98, 3) := by decide +kernel
theorem dX0_castGreatest_6 : decode cX0_castGreatest 6 = .ok (.ifCond .eq 12, 3) := by decide +kernel
theorem dX0_castGreatest_9 : decode cX0_castGreatest 9 = .ok (.aload_n 0, 1) := by decide +kernel
theorem dX0_castGreatest_10 : decode cX0_castGreatest 10 = .ok (.getfield 19, 3) := by decide +kernel
theorem dX0_castGreatest_13 : decode cX0_castGreatest 13 = .ok (.iload_n 2, 1) := by decide +kernel
theorem dX0_castGreatest_14 : decode cX0_castGreatest 14 = .ok (.iaload, 1) := by decide +kernel
theorem dX0_castGreatest_15 : decode cX0_castGreatest 15 = .ok (.goto 7, 3) := by decide +kernel
theorem dX0_castGreatest_18 : decode cX0_castGreatest 18 = .ok (.iload_n 1, 1) := by decide +kernel
theorem dX0_castGreatest_19 : decode cX0_castGreatest 19 = .ok (.invokestatic 95, 3) := by decide +kernel
theorem dX0_castGreatest_22 : decode cX0_castGreatest 22 = .ok (.ireturn, 1) := by decide +kernel
theorem dX0_withLane_0 : decode cX0_withLane 0 = .ok (.lconst 0, 1) := by decide +kernel
theorem dX0_withLane_1 : decode cX0_withLane 1 = .ok (.lstore 4, 2) := by decide +kernel
theorem dX0_withLane_3 : decode cX0_withLane 3 = .ok (.iconst 0, 1) := by decide +kernel
theorem dX0_withLane_4 : decode cX0_withLane 4 = .ok (.istore 6, 2) := by decide +kernel
theorem dX0_withLane_6 : decode cX0_withLane 6 = .ok (.iload 6, 2) := by decide +kernel
theorem dX0_withLane_8 : decode cX0_withLane 8 = .ok (.bipush 40, 2) := by decide +kernel
theorem dX0_withLane_10 : decode cX0_withLane 10 = .ok (.if_icmp .ge 42, 3) := by decide +kernel
theorem dX0_withLane_13 : decode cX0_withLane 13 = .ok (.lload_n 1, 1) := by decide +kernel
theorem dX0_withLane_14 : decode cX0_withLane 14 = .ok (.iload 6, 2) := by decide +kernel
theorem dX0_withLane_16 : decode cX0_withLane 16 = .ok (.invokestatic 102, 3) := by decide +kernel
theorem dX0_withLane_19 : decode cX0_withLane 19 = .ok (.ifCond .eq 27, 3) := by decide +kernel
theorem dX0_withLane_22 : decode cX0_withLane 22 = .ok (.aload_n 0, 1) := by decide +kernel
theorem dX0_withLane_23 : decode cX0_withLane 23 = .ok (.getfield 33, 3) := by decide +kernel
theorem dX0_withLane_26 : decode cX0_withLane 26 = .ok (.iload 6, 2) := by decide +kernel
theorem dX0_withLane_28 : decode cX0_withLane 28 = .ok (.iaload, 1) := by decide +kernel
theorem dX0_withLane_29 : decode cX0_withLane 29 = .ok (.iload_n 3, 1) := by decide +kernel
theorem dX0_withLane_30 : decode cX0_withLane 30 = .ok (.iushr, 1) := by decide +kernel
theorem dX0_withLane_31 : decode cX0_withLane 31 = .ok (.iconst 1, 1) := by decide +kernel
theorem dX0_withLane_32 : decode cX0_withLane 32 = .ok (.iand, 1) := by decide +kernel
theorem dX0_withLane_33 : decode cX0_withLane 33 = .ok (.iconst 1, 1) := by decide +kernel
theorem dX0_withLane_34 : decode cX0_withLane 34 = .ok (.if_icmp .ne 12, 3) := by decide +kernel
theorem dX0_withLane_37 : decode cX0_withLane 37 = .ok (.lload 4, 2) := by decide +kernel
theorem dX0_withLane_39 : decode cX0_withLane 39 = .ok (.lconst 1, 1) := by decide +kernel
theorem dX0_withLane_40 : decode cX0_withLane 40 = .ok (.iload 6, 2) := by decide +kernel
theorem dX0_withLane_42 : decode cX0_withLane 42 = .ok (.lshl, 1) := by decide +kernel
theorem dX0_withLane_43 : decode cX0_withLane 43 = .ok (.lor, 1) := by decide +kernel
theorem dX0_withLane_44 : decode cX0_withLane 44 = .ok (.lstore 4, 2) := by decide +kernel
theorem dX0_withLane_46 : decode cX0_withLane 46 = .ok (.iinc 6 1, 3) := by decide +kernel
theorem dX0_withLane_49 : decode cX0_withLane 49 = .ok (.goto (-43), 3) := by decide +kernel
theorem dX0_withLane_52 : decode cX0_withLane 52 = .ok (.lload 4, 2) := by decide +kernel
theorem dX0_withLane_54 : decode cX0_withLane 54 = .ok (.lreturn, 1) := by decide +kernel
theorem dX0_lanesOf_0 : decode cX0_lanesOf 0 = .ok (.iconst 0, 1) := by decide +kernel
theorem dX0_lanesOf_1 : decode cX0_lanesOf 1 = .ok (.istore_n 3, 1) := by decide +kernel
theorem dX0_lanesOf_2 : decode cX0_lanesOf 2 = .ok (.iconst 0, 1) := by decide +kernel
theorem dX0_lanesOf_3 : decode cX0_lanesOf 3 = .ok (.istore 4, 2) := by decide +kernel
theorem dX0_lanesOf_5 : decode cX0_lanesOf 5 = .ok (.iload 4, 2) := by decide +kernel
theorem dX0_lanesOf_7 : decode cX0_lanesOf 7 = .ok (.bipush 40, 2) := by decide +kernel
theorem dX0_lanesOf_9 : decode cX0_lanesOf 9 = .ok (.if_icmp .ge 28, 3) := by decide +kernel
theorem dX0_lanesOf_12 : decode cX0_lanesOf 12 = .ok (.lload_n 1, 1) := by decide +kernel
theorem dX0_lanesOf_13 : decode cX0_lanesOf 13 = .ok (.iload 4, 2) := by decide +kernel
theorem dX0_lanesOf_15 : decode cX0_lanesOf 15 = .ok (.invokestatic 102, 3) := by decide +kernel
theorem dX0_lanesOf_18 : decode cX0_lanesOf 18 = .ok (.ifCond .eq 13, 3) := by decide +kernel
theorem dX0_lanesOf_21 : decode cX0_lanesOf 21 = .ok (.iload_n 3, 1) := by decide +kernel
theorem dX0_lanesOf_22 : decode cX0_lanesOf 22 = .ok (.aload_n 0, 1) := by decide +kernel
theorem dX0_lanesOf_23 : decode cX0_lanesOf 23 = .ok (.getfield 33, 3) := by decide +kernel
theorem dX0_lanesOf_26 : decode cX0_lanesOf 26 = .ok (.iload 4, 2) := by decide +kernel
theorem dX0_lanesOf_28 : decode cX0_lanesOf 28 = .ok (.iaload, 1) := by decide +kernel
theorem dX0_lanesOf_29 : decode cX0_lanesOf 29 = .ok (.ior, 1) := by decide +kernel
theorem dX0_lanesOf_30 : decode cX0_lanesOf 30 = .ok (.istore_n 3, 1) := by decide +kernel
theorem dX0_lanesOf_31 : decode cX0_lanesOf 31 = .ok (.iinc 4 1, 3) := by decide +kernel
theorem dX0_lanesOf_34 : decode cX0_lanesOf 34 = .ok (.goto (-29), 3) := by decide +kernel
theorem dX0_lanesOf_37 : decode cX0_lanesOf 37 = .ok (.iload_n 3, 1) := by decide +kernel
theorem dX0_lanesOf_38 : decode cX0_lanesOf 38 = .ok (.ireturn, 1) := by decide +kernel
theorem dX0_longestOf_0 : decode cX0_longestOf 0 = .ok (.iconst 0, 1) := by decide +kernel
theorem dX0_longestOf_1 : decode cX0_longestOf 1 = .ok (.istore_n 3, 1) := by decide +kernel
theorem dX0_longestOf_2 : decode cX0_longestOf 2 = .ok (.iconst 0, 1) := by decide +kernel
theorem dX0_longestOf_3 : decode cX0_longestOf 3 = .ok (.istore 4, 2) := by decide +kernel
theorem dX0_longestOf_5 : decode cX0_longestOf 5 = .ok (.iload 4, 2) := by decide +kernel
theorem dX0_longestOf_7 : decode cX0_longestOf 7 = .ok (.bipush 40, 2) := by decide +kernel
theorem dX0_longestOf_9 : decode cX0_longestOf 9 = .ok (.if_icmp .ge 30, 3) := by decide +kernel
theorem dX0_longestOf_12 : decode cX0_longestOf 12 = .ok (.lload_n 1, 1) := by decide +kernel
theorem dX0_longestOf_13 : decode cX0_longestOf 13 = .ok (.iload 4, 2) := by decide +kernel
theorem dX0_longestOf_15 : decode cX0_longestOf 15 = .ok (.invokestatic 102, 3) := by decide +kernel
theorem dX0_longestOf_18 : decode cX0_longestOf 18 = .ok (.ifCond .eq 15, 3) := by decide +kernel
theorem dX0_longestOf_21 : decode cX0_longestOf 21 = .ok (.iload_n 3, 1) := by decide +kernel
theorem dX0_longestOf_22 : decode cX0_longestOf 22 = .ok (.aload_n 0, 1) := by decide +kernel
theorem dX0_longestOf_23 : decode cX0_longestOf 23 = .ok (.getfield 39, 3) := by decide +kernel
theorem dX0_longestOf_26 : decode cX0_longestOf 26 = .ok (.iload 4, 2) := by decide +kernel
theorem dX0_longestOf_28 : decode cX0_longestOf 28 = .ok (.iaload, 1) := by decide +kernel
theorem dX0_longestOf_29 : decode cX0_longestOf 29 = .ok (.invokestatic 68, 3) := by decide +kernel
theorem dX0_longestOf_32 : decode cX0_longestOf 32 = .ok (.istore_n 3, 1) := by decide +kernel
theorem dX0_longestOf_33 : decode cX0_longestOf 33 = .ok (.iinc 4 1, 3) := by decide +kernel
theorem dX0_longestOf_36 : decode cX0_longestOf 36 = .ok (.goto (-31), 3) := by decide +kernel
theorem dX0_longestOf_39 : decode cX0_longestOf 39 = .ok (.iload_n 3, 1) := by decide +kernel
theorem dX0_longestOf_40 : decode cX0_longestOf 40 = .ok (.ireturn, 1) := by decide +kernel
theorem dX0_someMayHaveFewer_0 : decode cX0_someMayHaveFewer 0 = .ok (.iconst 0, 1) := by decide +kernel
theorem dX0_someMayHaveFewer_1 : decode cX0_someMayHaveFewer 1 = .ok (.istore 5, 2) := by decide +kernel
theorem dX0_someMayHaveFewer_3 : decode cX0_someMayHaveFewer 3 = .ok (.iload 5, 2) := by decide +kernel
theorem dX0_someMayHaveFewer_5 : decode cX0_someMayHaveFewer 5 = .ok (.bipush 40, 2) := by decide +kernel
theorem dX0_someMayHaveFewer_7 : decode cX0_someMayHaveFewer 7 = .ok (.if_icmp .ge 33, 3) := by decide +kernel
theorem dX0_someMayHaveFewer_10 : decode cX0_someMayHaveFewer 10 = .ok (.lload_n 1, 1) := by decide +kernel
theorem dX0_someMayHaveFewer_11 : decode cX0_someMayHaveFewer 11 = .ok (.iload 5, 2) := by decide +kernel
theorem dX0_someMayHaveFewer_13 : decode cX0_someMayHaveFewer 13 = .ok (.invokestatic 102, 3) := by decide +kernel
theorem dX0_someMayHaveFewer_16 : decode cX0_someMayHaveFewer 16 = .ok (.ifCond .eq 18, 3) := by decide +kernel
theorem dX0_someMayHaveFewer_19 : decode cX0_someMayHaveFewer 19 = .ok (.aload_n 0, 1) := by decide +kernel
theorem dX0_someMayHaveFewer_20 : decode cX0_someMayHaveFewer 20 = .ok (.getfield 36, 3) := by decide +kernel
theorem dX0_someMayHaveFewer_23 : decode cX0_someMayHaveFewer 23 = .ok (.iload 5, 2) := by decide +kernel
theorem dX0_someMayHaveFewer_25 : decode cX0_someMayHaveFewer 25 = .ok (.iaload, 1) := by decide +kernel
theorem dX0_someMayHaveFewer_26 : decode cX0_someMayHaveFewer 26 = .ok (.i2l, 1) := by decide +kernel
theorem dX0_someMayHaveFewer_27 : decode cX0_someMayHaveFewer 27 = .ok (.lload_n 3, 1) := by decide +kernel
theorem dX0_someMayHaveFewer_28 : decode cX0_someMayHaveFewer 28 = .ok (.lcmp, 1) := by decide +kernel
theorem dX0_someMayHaveFewer_29 : decode cX0_someMayHaveFewer 29 = .ok (.ifCond .ge 5, 3) := by decide +kernel
theorem dX0_someMayHaveFewer_32 : decode cX0_someMayHaveFewer 32 = .ok (.iconst 1, 1) := by decide +kernel
theorem dX0_someMayHaveFewer_33 : decode cX0_someMayHaveFewer 33 = .ok (.ireturn, 1) := by decide +kernel
theorem dX0_someMayHaveFewer_34 : decode cX0_someMayHaveFewer 34 = .ok (.iinc 5 1, 3) := by decide +kernel
theorem dX0_someMayHaveFewer_37 : decode cX0_someMayHaveFewer 37 = .ok (.goto (-34), 3) := by decide +kernel
theorem dX0_someMayHaveFewer_40 : decode cX0_someMayHaveFewer 40 = .ok (.iconst 0, 1) := by decide +kernel
theorem dX0_someMayHaveFewer_41 : decode cX0_someMayHaveFewer 41 = .ok (.ireturn, 1) := by decide +kernel
theorem dX0_areAlike_0 : decode cX0_areAlike 0 = .ok (.iload_n 1, 1) := by decide +kernel
theorem dX0_areAlike_1 : decode cX0_areAlike 1 = .ok (.bipush 12, 2) := by decide +kernel
theorem dX0_areAlike_3 : decode cX0_areAlike 3 = .ok (.imul, 1) := by decide +kernel
theorem dX0_areAlike_4 : decode cX0_areAlike 4 = .ok (.iload_n 2, 1) := by decide +kernel
theorem dX0_areAlike_5 : decode cX0_areAlike 5 = .ok (.iadd, 1) := by decide +kernel
theorem dX0_areAlike_6 : decode cX0_areAlike 6 = .ok (.istore 4, 2) := by decide +kernel
theorem dX0_areAlike_8 : decode cX0_areAlike 8 = .ok (.iload_n 1, 1) := by decide +kernel
theorem dX0_areAlike_9 : decode cX0_areAlike 9 = .ok (.bipush 12, 2) := by decide +kernel
theorem dX0_areAlike_11 : decode cX0_areAlike 11 = .ok (.imul, 1) := by decide +kernel
theorem dX0_areAlike_12 : decode cX0_areAlike 12 = .ok (.iload_n 3, 1) := by decide +kernel
theorem dX0_areAlike_13 : decode cX0_areAlike 13 = .ok (.iadd, 1) := by decide +kernel
theorem dX0_areAlike_14 : decode cX0_areAlike 14 = .ok (.istore 5, 2) := by decide +kernel
theorem dX0_areAlike_16 : decode cX0_areAlike 16 = .ok (.aload_n 0, 1) := by decide +kernel
theorem dX0_areAlike_17 : decode cX0_areAlike 17 = .ok (.getfield 42, 3) := by decide +kernel
theorem dX0_areAlike_20 : decode cX0_areAlike 20 = .ok (.iload 4, 2) := by decide +kernel
theorem dX0_areAlike_22 : decode cX0_areAlike 22 = .ok (.iaload, 1) := by decide +kernel
theorem dX0_areAlike_23 : decode cX0_areAlike 23 = .ok (.aload_n 0, 1) := by decide +kernel
theorem dX0_areAlike_24 : decode cX0_areAlike 24 = .ok (.getfield 42, 3) := by decide +kernel
theorem dX0_areAlike_27 : decode cX0_areAlike 27 = .ok (.iload 5, 2) := by decide +kernel
theorem dX0_areAlike_29 : decode cX0_areAlike 29 = .ok (.iaload, 1) := by decide +kernel
theorem dX0_areAlike_30 : decode cX0_areAlike 30 = .ok (.if_icmp .ne 24, 3) := by decide +kernel
theorem dX0_areAlike_33 : decode cX0_areAlike 33 = .ok (.aload_n 0, 1) := by decide +kernel
theorem dX0_areAlike_34 : decode cX0_areAlike 34 = .ok (.getfield 45, 3) := by decide +kernel
theorem dX0_areAlike_37 : decode cX0_areAlike 37 = .ok (.iload 4, 2) := by decide +kernel
theorem dX0_areAlike_39 : decode cX0_areAlike 39 = .ok (.iaload, 1) := by decide +kernel
theorem dX0_areAlike_40 : decode cX0_areAlike 40 = .ok (.aload_n 0, 1) := by decide +kernel
theorem dX0_areAlike_41 : decode cX0_areAlike 41 = .ok (.getfield 45, 3) := by decide +kernel
theorem dX0_areAlike_44 : decode cX0_areAlike 44 = .ok (.iload 5, 2) := by decide +kernel
theorem dX0_areAlike_46 : decode cX0_areAlike 46 = .ok (.iaload, 1) := by decide +kernel
theorem dX0_areAlike_47 : decode cX0_areAlike 47 = .ok (.if_icmp .ne 7, 3) := by decide +kernel
theorem dX0_areAlike_50 : decode cX0_areAlike 50 = .ok (.iconst 1, 1) := by decide +kernel
theorem dX0_areAlike_51 : decode cX0_areAlike 51 = .ok (.goto 4, 3) := by decide +kernel
theorem dX0_areAlike_54 : decode cX0_areAlike 54 = .ok (.iconst 0, 1) := by decide +kernel
theorem dX0_areAlike_55 : decode cX0_areAlike 55 = .ok (.ireturn, 1) := by decide +kernel
theorem dX0_beginsSegment_0 : decode cX0_beginsSegment 0 = .ok (.iload_n 2, 1) := by decide +kernel
theorem dX0_beginsSegment_1 : decode cX0_beginsSegment 1 = .ok (.ifCond .eq 15, 3) := by decide +kernel
theorem dX0_beginsSegment_4 : decode cX0_beginsSegment 4 = .ok (.aload_n 0, 1) := by decide +kernel
theorem dX0_beginsSegment_5 : decode cX0_beginsSegment 5 = .ok (.iload_n 1, 1) := by decide +kernel
theorem dX0_beginsSegment_6 : decode cX0_beginsSegment 6 = .ok (.iload_n 2, 1) := by decide +kernel
theorem dX0_beginsSegment_7 : decode cX0_beginsSegment 7 = .ok (.iconst 1, 1) := by decide +kernel
theorem dX0_beginsSegment_8 : decode cX0_beginsSegment 8 = .ok (.isub, 1) := by decide +kernel
theorem dX0_beginsSegment_9 : decode cX0_beginsSegment 9 = .ok (.iload_n 2, 1) := by decide +kernel
theorem dX0_beginsSegment_10 : decode cX0_beginsSegment 10 = .ok (.invokevirtual 106, 3) := by decide +kernel
theorem dX0_beginsSegment_13 : decode cX0_beginsSegment 13 = .ok (.ifCond .ne 7, 3) := by decide +kernel
theorem dX0_beginsSegment_16 : decode cX0_beginsSegment 16 = .ok (.iconst 1, 1) := by decide +kernel
theorem dX0_beginsSegment_17 : decode cX0_beginsSegment 17 = .ok (.goto 4, 3) := by decide +kernel
theorem dX0_beginsSegment_20 : decode cX0_beginsSegment 20 = .ok (.iconst 0, 1) := by decide +kernel
theorem dX0_beginsSegment_21 : decode cX0_beginsSegment 21 = .ok (.ireturn, 1) := by decide +kernel
theorem dX0_countSegments_0 : decode cX0_countSegments 0 = .ok (.iconst 0, 1) := by decide +kernel
theorem dX0_countSegments_1 : decode cX0_countSegments 1 = .ok (.istore_n 2, 1) := by decide +kernel
theorem dX0_countSegments_2 : decode cX0_countSegments 2 = .ok (.iconst 0, 1) := by decide +kernel
theorem dX0_countSegments_3 : decode cX0_countSegments 3 = .ok (.istore_n 3, 1) := by decide +kernel
theorem dX0_countSegments_4 : decode cX0_countSegments 4 = .ok (.iload_n 3, 1) := by decide +kernel
theorem dX0_countSegments_5 : decode cX0_countSegments 5 = .ok (.aload_n 0, 1) := by decide +kernel
theorem dX0_countSegments_6 : decode cX0_countSegments 6 = .ok (.getfield 39, 3) := by decide +kernel
theorem dX0_countSegments_9 : decode cX0_countSegments 9 = .ok (.iload_n 1, 1) := by decide +kernel
theorem dX0_countSegments_10 : decode cX0_countSegments 10 = .ok (.iaload, 1) := by decide +kernel
theorem dX0_countSegments_11 : decode cX0_countSegments 11 = .ok (.if_icmp .ge 21, 3) := by decide +kernel
theorem dX0_countSegments_14 : decode cX0_countSegments 14 = .ok (.aload_n 0, 1) := by decide +kernel
theorem dX0_countSegments_15 : decode cX0_countSegments 15 = .ok (.iload_n 1, 1) := by decide +kernel
theorem dX0_countSegments_16 : decode cX0_countSegments 16 = .ok (.iload_n 3, 1) := by decide +kernel
theorem dX0_countSegments_17 : decode cX0_countSegments 17 = .ok (.invokevirtual 110, 3) := by decide +kernel
theorem dX0_countSegments_20 : decode cX0_countSegments 20 = .ok (.ifCond .eq 6, 3) := by decide +kernel
theorem dX0_countSegments_23 : decode cX0_countSegments 23 = .ok (.iinc 2 1, 3) := by decide +kernel
theorem dX0_countSegments_26 : decode cX0_countSegments 26 = .ok (.iinc 3 1, 3) := by decide +kernel
theorem dX0_countSegments_29 : decode cX0_countSegments 29 = .ok (.goto (-25), 3) := by decide +kernel
theorem dX0_countSegments_32 : decode cX0_countSegments 32 = .ok (.iload_n 2, 1) := by decide +kernel
theorem dX0_countSegments_33 : decode cX0_countSegments 33 = .ok (.ireturn, 1) := by decide +kernel
theorem dX0_firstOfSegment_0 : decode cX0_firstOfSegment 0 = .ok (.iconst 0, 1) := by decide +kernel
theorem dX0_firstOfSegment_1 : decode cX0_firstOfSegment 1 = .ok (.istore_n 3, 1) := by decide +kernel
theorem dX0_firstOfSegment_2 : decode cX0_firstOfSegment 2 = .ok (.iconst 0, 1) := by decide +kernel
theorem dX0_firstOfSegment_3 : decode cX0_firstOfSegment 3 = .ok (.istore 4, 2) := by decide +kernel
theorem dX0_firstOfSegment_5 : decode cX0_firstOfSegment 5 = .ok (.iload 4, 2) := by decide +kernel
theorem dX0_firstOfSegment_7 : decode cX0_firstOfSegment 7 = .ok (.aload_n 0, 1) := by decide +kernel
theorem dX0_firstOfSegment_8 : decode cX0_firstOfSegment 8 = .ok (.getfield 39, 3) := by decide +kernel
theorem dX0_firstOfSegment_11 : decode cX0_firstOfSegment 11 = .ok (.iload_n 1, 1) := by decide +kernel
theorem dX0_firstOfSegment_12 : decode cX0_firstOfSegment 12 = .ok (.iaload, 1) := by decide +kernel
theorem dX0_firstOfSegment_13 : decode cX0_firstOfSegment 13 = .ok (.if_icmp .ge 30, 3) := by decide +kernel
theorem dX0_firstOfSegment_16 : decode cX0_firstOfSegment 16 = .ok (.aload_n 0, 1) := by decide +kernel
theorem dX0_firstOfSegment_17 : decode cX0_firstOfSegment 17 = .ok (.iload_n 1, 1) := by decide +kernel
theorem dX0_firstOfSegment_18 : decode cX0_firstOfSegment 18 = .ok (.iload 4, 2) := by decide +kernel
theorem dX0_firstOfSegment_20 : decode cX0_firstOfSegment 20 = .ok (.invokevirtual 110, 3) := by decide +kernel
theorem dX0_firstOfSegment_23 : decode cX0_firstOfSegment 23 = .ok (.ifCond .eq 14, 3) := by decide +kernel
theorem dX0_firstOfSegment_26 : decode cX0_firstOfSegment 26 = .ok (.iload_n 3, 1) := by decide +kernel
theorem dX0_firstOfSegment_27 : decode cX0_firstOfSegment 27 = .ok (.iload_n 2, 1) := by decide +kernel
theorem dX0_firstOfSegment_28 : decode cX0_firstOfSegment 28 = .ok (.if_icmp .ne 6, 3) := by decide +kernel
theorem dX0_firstOfSegment_31 : decode cX0_firstOfSegment 31 = .ok (.iload 4, 2) := by decide +kernel
theorem dX0_firstOfSegment_33 : decode cX0_firstOfSegment 33 = .ok (.ireturn, 1) := by decide +kernel
theorem dX0_firstOfSegment_34 : decode cX0_firstOfSegment 34 = .ok (.iinc 3 1, 3) := by decide +kernel
theorem dX0_firstOfSegment_37 : decode cX0_firstOfSegment 37 = .ok (.iinc 4 1, 3) := by decide +kernel
theorem dX0_firstOfSegment_40 : decode cX0_firstOfSegment 40 = .ok (.goto (-35), 3) := by decide +kernel
theorem dX0_firstOfSegment_43 : decode cX0_firstOfSegment 43 = .ok (.iconst (-1), 1) := by decide +kernel
theorem dX0_firstOfSegment_44 : decode cX0_firstOfSegment 44 = .ok (.ireturn, 1) := by decide +kernel
theorem dX0_behindSegment_0 : decode cX0_behindSegment 0 = .ok (.iload_n 2, 1) := by decide +kernel
theorem dX0_behindSegment_1 : decode cX0_behindSegment 1 = .ok (.iconst 1, 1) := by decide +kernel
theorem dX0_behindSegment_2 : decode cX0_behindSegment 2 = .ok (.iadd, 1) := by decide +kernel
theorem dX0_behindSegment_3 : decode cX0_behindSegment 3 = .ok (.istore_n 3, 1) := by decide +kernel
theorem dX0_behindSegment_4 : decode cX0_behindSegment 4 = .ok (.iload_n 3, 1) := by decide +kernel
theorem dX0_behindSegment_5 : decode cX0_behindSegment 5 = .ok (.aload_n 0, 1) := by decide +kernel
theorem dX0_behindSegment_6 : decode cX0_behindSegment 6 = .ok (.getfield 39, 3) := by decide +kernel
theorem dX0_behindSegment_9 : decode cX0_behindSegment 9 = .ok (.iload_n 1, 1) := by decide +kernel
theorem dX0_behindSegment_10 : decode cX0_behindSegment 10 = .ok (.iaload, 1) := by decide +kernel
theorem dX0_behindSegment_11 : decode cX0_behindSegment 11 = .ok (.if_icmp .ge 18, 3) := by decide +kernel
theorem dX0_behindSegment_14 : decode cX0_behindSegment 14 = .ok (.aload_n 0, 1) := by decide +kernel
theorem dX0_behindSegment_15 : decode cX0_behindSegment 15 = .ok (.iload_n 1, 1) := by decide +kernel
theorem dX0_behindSegment_16 : decode cX0_behindSegment 16 = .ok (.iload_n 3, 1) := by decide +kernel
theorem dX0_behindSegment_17 : decode cX0_behindSegment 17 = .ok (.invokevirtual 110, 3) := by decide +kernel
theorem dX0_behindSegment_20 : decode cX0_behindSegment 20 = .ok (.ifCond .ne 9, 3) := by decide +kernel
theorem dX0_behindSegment_23 : decode cX0_behindSegment 23 = .ok (.iinc 3 1, 3) := by decide +kernel
theorem dX0_behindSegment_26 : decode cX0_behindSegment 26 = .ok (.goto (-22), 3) := by decide +kernel
theorem dX0_behindSegment_29 : decode cX0_behindSegment 29 = .ok (.iload_n 3, 1) := by decide +kernel
theorem dX0_behindSegment_30 : decode cX0_behindSegment 30 = .ok (.ireturn, 1) := by decide +kernel
theorem dX0_isSorted_0 : decode cX0_isSorted 0 = .ok (.iconst 1, 1) := by decide +kernel
theorem dX0_isSorted_1 : decode cX0_isSorted 1 = .ok (.istore_n 2, 1) := by decide +kernel
theorem dX0_isSorted_2 : decode cX0_isSorted 2 = .ok (.iload_n 2, 1) := by decide +kernel
theorem dX0_isSorted_3 : decode cX0_isSorted 3 = .ok (.aload_n 0, 1) := by decide +kernel
theorem dX0_isSorted_4 : decode cX0_isSorted 4 = .ok (.getfield 39, 3) := by decide +kernel
theorem dX0_isSorted_7 : decode cX0_isSorted 7 = .ok (.iload_n 1, 1) := by decide +kernel
theorem dX0_isSorted_8 : decode cX0_isSorted 8 = .ok (.iaload, 1) := by decide +kernel
theorem dX0_isSorted_9 : decode cX0_isSorted 9 = .ok (.if_icmp .ge 38, 3) := by decide +kernel
theorem dX0_isSorted_12 : decode cX0_isSorted 12 = .ok (.aload_n 0, 1) := by decide +kernel
theorem dX0_isSorted_13 : decode cX0_isSorted 13 = .ok (.getfield 45, 3) := by decide +kernel
theorem dX0_isSorted_16 : decode cX0_isSorted 16 = .ok (.iload_n 1, 1) := by decide +kernel
theorem dX0_isSorted_17 : decode cX0_isSorted 17 = .ok (.bipush 12, 2) := by decide +kernel
theorem dX0_isSorted_19 : decode cX0_isSorted 19 = .ok (.imul, 1) := by decide +kernel
theorem dX0_isSorted_20 : decode cX0_isSorted 20 = .ok (.iload_n 2, 1) := by decide +kernel
theorem dX0_isSorted_21 : decode cX0_isSorted 21 = .ok (.iadd, 1) := by decide +kernel
theorem dX0_isSorted_22 : decode cX0_isSorted 22 = .ok (.iconst 1, 1) := by decide +kernel
theorem dX0_isSorted_23 : decode cX0_isSorted 23 = .ok (.isub, 1) := by decide +kernel
theorem dX0_isSorted_24 : decode cX0_isSorted 24 = .ok (.iaload, 1) := by decide +kernel
theorem dX0_isSorted_25 : decode cX0_isSorted 25 = .ok (.aload_n 0, 1) := by decide +kernel
theorem dX0_isSorted_26 : decode cX0_isSorted 26 = .ok (.getfield 42, 3) := by decide +kernel
theorem dX0_isSorted_29 : decode cX0_isSorted 29 = .ok (.iload_n 1, 1) := by decide +kernel
theorem dX0_isSorted_30 : decode cX0_isSorted 30 = .ok (.bipush 12, 2) := by decide +kernel
theorem dX0_isSorted_32 : decode cX0_isSorted 32 = .ok (.imul, 1) := by decide +kernel
theorem dX0_isSorted_33 : decode cX0_isSorted 33 = .ok (.iload_n 2, 1) := by decide +kernel
theorem dX0_isSorted_34 : decode cX0_isSorted 34 = .ok (.iadd, 1) := by decide +kernel
theorem dX0_isSorted_35 : decode cX0_isSorted 35 = .ok (.iaload, 1) := by decide +kernel
theorem dX0_isSorted_36 : decode cX0_isSorted 36 = .ok (.if_icmp .le 5, 3) := by decide +kernel
theorem dX0_isSorted_39 : decode cX0_isSorted 39 = .ok (.iconst 0, 1) := by decide +kernel
theorem dX0_isSorted_40 : decode cX0_isSorted 40 = .ok (.ireturn, 1) := by decide +kernel
theorem dX0_isSorted_41 : decode cX0_isSorted 41 = .ok (.iinc 2 1, 3) := by decide +kernel
theorem dX0_isSorted_44 : decode cX0_isSorted 44 = .ok (.goto (-42), 3) := by decide +kernel
theorem dX0_isSorted_47 : decode cX0_isSorted 47 = .ok (.iconst 1, 1) := by decide +kernel
theorem dX0_isSorted_48 : decode cX0_isSorted 48 = .ok (.ireturn, 1) := by decide +kernel
theorem dX0_countKnown_0 : decode cX0_countKnown 0 = .ok (.iconst 0, 1) := by decide +kernel
theorem dX0_countKnown_1 : decode cX0_countKnown 1 = .ok (.istore_n 1, 1) := by decide +kernel
theorem dX0_countKnown_2 : decode cX0_countKnown 2 = .ok (.iconst 0, 1) := by decide +kernel
theorem dX0_countKnown_3 : decode cX0_countKnown 3 = .ok (.istore_n 2, 1) := by decide +kernel
theorem dX0_countKnown_4 : decode cX0_countKnown 4 = .ok (.iload_n 2, 1) := by decide +kernel
theorem dX0_countKnown_5 : decode cX0_countKnown 5 = .ok (.bipush 40, 2) := by decide +kernel
theorem dX0_countKnown_7 : decode cX0_countKnown 7 = .ok (.if_icmp .ge 21, 3) := by decide +kernel
theorem dX0_countKnown_10 : decode cX0_countKnown 10 = .ok (.aload_n 0, 1) := by decide +kernel
theorem dX0_countKnown_11 : decode cX0_countKnown 11 = .ok (.getfield 30, 3) := by decide +kernel
theorem dX0_countKnown_14 : decode cX0_countKnown 14 = .ok (.iload_n 2, 1) := by decide +kernel
theorem dX0_countKnown_15 : decode cX0_countKnown 15 = .ok (.baload, 1) := by decide +kernel
theorem dX0_countKnown_16 : decode cX0_countKnown 16 = .ok (.ifCond .eq 6, 3) := by decide +kernel
theorem dX0_countKnown_19 : decode cX0_countKnown 19 = .ok (.iinc 1 1, 3) := by decide +kernel
theorem dX0_countKnown_22 : decode cX0_countKnown 22 = .ok (.iinc 2 1, 3) := by decide +kernel
theorem dX0_countKnown_25 : decode cX0_countKnown 25 = .ok (.goto (-21), 3) := by decide +kernel
theorem dX0_countKnown_28 : decode cX0_countKnown 28 = .ok (.iload_n 1, 1) := by decide +kernel
theorem dX0_countKnown_29 : decode cX0_countKnown 29 = .ok (.ireturn, 1) := by decide +kernel
theorem dX1_init_0 : decode cX1_init 0 = .ok (.aload_n 0, 1) := by decide +kernel
theorem dX1_init_1 : decode cX1_init 1 = .ok (.invokespecial 3, 3) := by decide +kernel
theorem dX1_init_4 : decode cX1_init 4 = .ok (.aload_n 0, 1) := by decide +kernel
theorem dX1_init_5 : decode cX1_init 5 = .ok (.new 9, 3) := by decide +kernel
theorem dX1_init_8 : decode cX1_init 8 = .ok (.dup, 1) := by decide +kernel
theorem dX1_init_9 : decode cX1_init 9 = .ok (.invokespecial 11, 3) := by decide +kernel
theorem dX1_init_12 : decode cX1_init 12 = .ok (.putfield 12, 3) := by decide +kernel
theorem dX1_init_15 : decode cX1_init 15 = .ok (.aload_n 0, 1) := by decide +kernel
theorem dX1_init_16 : decode cX1_init 16 = .ok (.new 9, 3) := by decide +kernel
theorem dX1_init_19 : decode cX1_init 19 = .ok (.dup, 1) := by decide +kernel
theorem dX1_init_20 : decode cX1_init 20 = .ok (.invokespecial 11, 3) := by decide +kernel
theorem dX1_init_23 : decode cX1_init 23 = .ok (.putfield 18, 3) := by decide +kernel
theorem dX1_init_26 : decode cX1_init 26 = .ok (.aload_n 0, 1) := by decide +kernel
theorem dX1_init_27 : decode cX1_init 27 = .ok (.iconst 1, 1) := by decide +kernel
theorem dX1_init_28 : decode cX1_init 28 = .ok (.putfield 21, 3) := by decide +kernel
theorem dX1_init_31 : decode cX1_init 31 = .ok (.aload_n 0, 1) := by decide +kernel
theorem dX1_init_32 : decode cX1_init 32 = .ok (.bipush 40, 2) := by decide +kernel
theorem dX1_init_34 : decode cX1_init 34 = .ok (.newarray .boolean, 2) := by decide +kernel
theorem dX1_init_36 : decode cX1_init 36 = .ok (.putfield 25, 3) := by decide +kernel
theorem dX1_init_39 : decode cX1_init 39 = .ok (.aload_n 0, 1) := by decide +kernel
theorem dX1_init_40 : decode cX1_init 40 = .ok (.bipush 40, 2) := by decide +kernel
theorem dX1_init_42 : decode cX1_init 42 = .ok (.newarray .int, 2) := by decide +kernel
theorem dX1_init_44 : decode cX1_init 44 = .ok (.putfield 29, 3) := by decide +kernel
theorem dX1_init_47 : decode cX1_init 47 = .ok (.aload_n 0, 1) := by decide +kernel
theorem dX1_init_48 : decode cX1_init 48 = .ok (.iconst 0, 1) := by decide +kernel
theorem dX1_init_49 : decode cX1_init 49 = .ok (.putfield 33, 3) := by decide +kernel
theorem dX1_init_52 : decode cX1_init 52 = .ok (.aload_n 0, 1) := by decide +kernel
theorem dX1_init_53 : decode cX1_init 53 = .ok (.iconst 0, 1) := by decide +kernel
theorem dX1_init_54 : decode cX1_init 54 = .ok (.putfield 36, 3) := by decide +kernel
theorem dX1_init_57 : decode cX1_init 57 = .ok (.aload_n 0, 1) := by decide +kernel
theorem dX1_init_58 : decode cX1_init 58 = .ok (.iconst 0, 1) := by decide +kernel
theorem dX1_init_59 : decode cX1_init 59 = .ok (.putfield 40, 3) := by decide +kernel
theorem dX1_init_62 : decode cX1_init 62 = .ok (.return_, 1) := by decide +kernel
theorem dX1_follow_0 : decode cX1_follow 0 = .ok (.aload_n 0, 1) := by decide +kernel
theorem dX1_follow_1 : decode cX1_follow 1 = .ok (.getfield 21, 3) := by decide +kernel
theorem dX1_follow_4 : decode cX1_follow 4 = .ok (.ifCond .ne 4, 3) := by decide +kernel
theorem dX1_follow_7 : decode cX1_follow 7 = .ok (.return_, 1) := by decide +kernel
theorem dX1_follow_8 : decode cX1_follow 8 = .ok (.aload_n 0, 1) := by decide +kernel
theorem dX1_follow_9 : decode cX1_follow 9 = .ok (.iconst 0, 1) := by decide +kernel
theorem dX1_follow_10 : decode cX1_follow 10 = .ok (.putfield 21, 3) := by decide +kernel
theorem dX1_follow_13 : decode cX1_follow 13 = .ok (.aload_n 0, 1) := by decide +kernel
theorem dX1_follow_14 : decode cX1_follow 14 = .ok (.getfield 12, 3) := by decide +kernel
theorem dX1_follow_17 : decode cX1_follow 17 = .ok (.invokevirtual 43, 3) := by decide +kernel
theorem dX1_follow_20 : decode cX1_follow 20 = .ok (.iconst 0, 1) := by decide +kernel
theorem dX1_follow_21 : decode cX1_follow 21 = .ok (.istore_n 2, 1) := by decide +kernel
theorem dX1_follow_22 : decode cX1_follow 22 = .ok (.iconst 0, 1) := by decide +kernel
theorem dX1_follow_23 : decode cX1_follow 23 = .ok (.istore_n 3, 1) := by decide +kernel
theorem dX1_follow_24 : decode cX1_follow 24 = .ok (.iload_n 3, 1) := by decide +kernel
theorem dX1_follow_25 : decode cX1_follow 25 = .ok (.bipush 40, 2) := by decide +kernel
theorem dX1_follow_27 : decode cX1_follow 27 = .ok (.if_icmp .ge 152, 3) := by decide +kernel
theorem dX1_follow_30 : decode cX1_follow 30 = .ok (.aload_n 1, 1) := by decide +kernel
theorem dX1_follow_31 : decode cX1_follow 31 = .ok (.iload_n 3, 1) := by decide +kernel
theorem dX1_follow_32 : decode cX1_follow 32 = .ok (.invokevirtual 46, 3) := by decide +kernel
theorem dX1_follow_35 : decode cX1_follow 35 = .ok (.ifCond .eq 16, 3) := by decide +kernel
theorem dX1_follow_38 : decode cX1_follow 38 = .ok (.aload_n 1, 1) := by decide +kernel
theorem dX1_follow_39 : decode cX1_follow 39 = .ok (.getfield 52, 3) := by decide +kernel
theorem dX1_follow_42 : decode cX1_follow 42 = .ok (.iload_n 3, 1) := by decide +kernel
theorem dX1_follow_43 : decode cX1_follow 43 = .ok (.baload, 1) := by decide +kernel
theorem dX1_follow_44 : decode cX1_follow 44 = .ok (.ifCond .ne 7, 3) := by decide +kernel
theorem dX1_follow_47 : decode cX1_follow 47 = .ok (.iconst 1, 1) := by decide +kernel
theorem dX1_follow_48 : decode cX1_follow 48 = .ok (.goto 4, 3) := by decide +kernel
theorem dX1_follow_51 : decode cX1_follow 51 = .ok (.iconst 0, 1) := by decide +kernel
theorem dX1_follow_52 : decode cX1_follow 52 = .ok (.istore 4, 2) := by decide +kernel
theorem dX1_follow_54 : decode cX1_follow 54 = .ok (.aload_n 0, 1) := by decide +kernel
theorem dX1_follow_55 : decode cX1_follow 55 = .ok (.getfield 25, 3) := by decide +kernel
theorem dX1_follow_58 : decode cX1_follow 58 = .ok (.iload_n 3, 1) := by decide +kernel
theorem dX1_follow_59 : decode cX1_follow 59 = .ok (.iload 4, 2) := by decide +kernel
theorem dX1_follow_61 : decode cX1_follow 61 = .ok (.ifCond .eq 17, 3) := by decide +kernel
theorem dX1_follow_64 : decode cX1_follow 64 = .ok (.aload_n 0, 1) := by decide +kernel
theorem dX1_follow_65 : decode cX1_follow 65 = .ok (.getfield 12, 3) := by decide +kernel
theorem dX1_follow_68 : decode cX1_follow 68 = .ok (.getfield 55, 3) := by decide +kernel
theorem dX1_follow_71 : decode cX1_follow 71 = .ok (.ifCond .eq 7, 3) := by decide +kernel
theorem dX1_follow_74 : decode cX1_follow 74 = .ok (.iconst 1, 1) := by decide +kernel
theorem dX1_follow_75 : decode cX1_follow 75 = .ok (.goto 4, 3) := by decide +kernel
theorem dX1_follow_78 : decode cX1_follow 78 = .ok (.iconst 0, 1) := by decide +kernel
theorem dX1_follow_79 : decode cX1_follow 79 = .ok (.bastore, 1) := by decide +kernel
theorem dX1_follow_80 : decode cX1_follow 80 = .ok (.aload_n 0, 1) := by decide +kernel
theorem dX1_follow_81 : decode cX1_follow 81 = .ok (.getfield 29, 3) := by decide +kernel
theorem dX1_follow_84 : decode cX1_follow 84 = .ok (.iload_n 3, 1) := by decide +kernel
theorem dX1_follow_85 : decode cX1_follow 85 = .ok (.iconst 0, 1) := by decide +kernel
theorem dX1_follow_86 : decode cX1_follow 86 = .ok (.iastore, 1) := by decide +kernel
theorem dX1_follow_87 : decode cX1_follow 87 = .ok (.iload 4, 2) := by decide +kernel
theorem dX1_follow_89 : decode cX1_follow 89 = .ok (.ifCond .ne 6, 3) := by decide +kernel
theorem dX1_follow_92 : decode cX1_follow 92 = .ok (.goto 81, 3) := by decide +kernel
theorem dX1_follow_95 : decode cX1_follow 95 = .ok (.iload_n 2, 1) := by decide +kernel
theorem dX1_follow_96 : decode cX1_follow 96 = .ok (.ifCond .ne 33, 3) := by decide +kernel
theorem dX1_follow_99 : decode cX1_follow 99 = .ok (.aload_n 1, 1) := by decide +kernel
theorem dX1_follow_100 : decode cX1_follow 100 = .ok (.iload_n 3, 1) := by decide +kernel
theorem dX1_follow_101 : decode cX1_follow 101 = .ok (.invokevirtual 57, 3) := by decide +kernel
theorem dX1_follow_104 : decode cX1_follow 104 = .ok (.bipush 14, 2) := by decide +kernel
theorem dX1_follow_106 : decode cX1_follow 106 = .ok (.if_icmp .ne 23, 3) := by decide +kernel
theorem dX1_follow_109 : decode cX1_follow 109 = .ok (.aload_n 0, 1) := by decide +kernel
theorem dX1_follow_110 : decode cX1_follow 110 = .ok (.getfield 18, 3) := by decide +kernel
theorem dX1_follow_113 : decode cX1_follow 113 = .ok (.aload_n 0, 1) := by decide +kernel
theorem dX1_follow_114 : decode cX1_follow 114 = .ok (.getfield 12, 3) := by decide +kernel
theorem dX1_follow_117 : decode cX1_follow 117 = .ok (.invokevirtual 61, 3) := by decide +kernel
theorem dX1_follow_120 : decode cX1_follow 120 = .ok (.aload_n 1, 1) := by decide +kernel
theorem dX1_follow_121 : decode cX1_follow 121 = .ok (.iload_n 3, 1) := by decide +kernel
theorem dX1_follow_122 : decode cX1_follow 122 = .ok (.invokevirtual 65, 3) := by decide +kernel
theorem dX1_follow_125 : decode cX1_follow 125 = .ok (.istore_n 2, 1) := by decide +kernel
theorem dX1_follow_126 : decode cX1_follow 126 = .ok (.goto 47, 3) := by decide +kernel
theorem dX1_follow_129 : decode cX1_follow 129 = .ok (.aload_n 0, 1) := by decide +kernel
theorem dX1_follow_130 : decode cX1_follow 130 = .ok (.getfield 12, 3) := by decide +kernel
theorem dX1_follow_133 : decode cX1_follow 133 = .ok (.getfield 55, 3) := by decide +kernel
theorem dX1_follow_136 : decode cX1_follow 136 = .ok (.ifCond .eq 15, 3) := by decide +kernel
theorem dX1_follow_139 : decode cX1_follow 139 = .ok (.aload_n 0, 1) := by decide +kernel
theorem dX1_follow_140 : decode cX1_follow 140 = .ok (.getfield 29, 3) := by decide +kernel
theorem dX1_follow_143 : decode cX1_follow 143 = .ok (.iload_n 3, 1) := by decide +kernel
theorem dX1_follow_144 : decode cX1_follow 144 = .ok (.aload_n 0, 1) := by decide +kernel
theorem dX1_follow_145 : decode cX1_follow 145 = .ok (.aload_n 1, 1) := by decide +kernel
theorem dX1_follow_146 : decode cX1_follow 146 = .ok (.iload_n 3, 1) := by decide +kernel
theorem dX1_follow_147 : decode cX1_follow 147 = .ok (.invokevirtual 68, 3) := by decide +kernel
theorem dX1_follow_150 : decode cX1_follow 150 = .ok (.iastore, 1) := by decide +kernel
theorem dX1_follow_151 : decode cX1_follow 151 = .ok (.iload_n 2, 1) := by decide +kernel
theorem dX1_follow_152 : decode cX1_follow 152 = .ok (.ifCond .le 21, 3) := by decide +kernel
theorem dX1_follow_155 : decode cX1_follow 155 = .ok (.iinc 2 (-1), 3) := by decide +kernel
theorem dX1_follow_158 : decode cX1_follow 158 = .ok (.iload_n 2, 1) := by decide +kernel
theorem dX1_follow_159 : decode cX1_follow 159 = .ok (.ifCond .ne 14, 3) := by decide +kernel
theorem dX1_follow_162 : decode cX1_follow 162 = .ok (.aload_n 0, 1) := by decide +kernel
theorem dX1_follow_163 : decode cX1_follow 163 = .ok (.getfield 12, 3) := by decide +kernel
theorem dX1_follow_166 : decode cX1_follow 166 = .ok (.aload_n 0, 1) := by decide +kernel
theorem dX1_follow_167 : decode cX1_follow 167 = .ok (.getfield 18, 3) := by decide +kernel
theorem dX1_follow_170 : decode cX1_follow 170 = .ok (.invokevirtual 72, 3) := by decide +kernel
theorem dX1_follow_173 : decode cX1_follow 173 = .ok (.iinc 3 1, 3) := by decide +kernel
theorem dX1_follow_176 : decode cX1_follow 176 = .ok (.goto (-152), 3) := by decide +kernel
theorem dX1_follow_179 : decode cX1_follow 179 = .ok (.iload_n 2, 1) := by decide +kernel
theorem dX1_follow_180 : decode cX1_follow 180 = .ok (.ifCond .le 14, 3) := by decide +kernel
theorem dX1_follow_183 : decode cX1_follow 183 = .ok (.aload_n 0, 1) := by decide +kernel
theorem dX1_follow_184 : decode cX1_follow 184 = .ok (.getfield 12, 3) := by decide +kernel
theorem dX1_follow_187 : decode cX1_follow 187 = .ok (.aload_n 0, 1) := by decide +kernel
theorem dX1_follow_188 : decode cX1_follow 188 = .ok (.getfield 18, 3) := by decide +kernel
theorem dX1_follow_191 : decode cX1_follow 191 = .ok (.invokevirtual 72, 3) := by decide +kernel
theorem dX1_follow_194 : decode cX1_follow 194 = .ok (.return_, 1) := by decide +kernel
theorem dX1_countReached_0 : decode cX1_countReached 0 = .ok (.iconst 0, 1) := by decide +kernel
theorem dX1_countReached_1 : decode cX1_countReached 1 = .ok (.istore_n 1, 1) := by decide +kernel
theorem dX1_countReached_2 : decode cX1_countReached 2 = .ok (.iconst 0, 1) := by decide +kernel
theorem dX1_countReached_3 : decode cX1_countReached 3 = .ok (.istore_n 2, 1) := by decide +kernel
theorem dX1_countReached_4 : decode cX1_countReached 4 = .ok (.iload_n 2, 1) := by decide +kernel
theorem dX1_countReached_5 : decode cX1_countReached 5 = .ok (.bipush 40, 2) := by decide +kernel
theorem dX1_countReached_7 : decode cX1_countReached 7 = .ok (.if_icmp .ge 21, 3) := by decide +kernel
theorem dX1_countReached_10 : decode cX1_countReached 10 = .ok (.aload_n 0, 1) := by decide +kernel
theorem dX1_countReached_11 : decode cX1_countReached 11 = .ok (.getfield 25, 3) := by decide +kernel
theorem dX1_countReached_14 : decode cX1_countReached 14 = .ok (.iload_n 2, 1) := by decide +kernel
theorem dX1_countReached_15 : decode cX1_countReached 15 = .ok (.baload, 1) := by decide +kernel
theorem dX1_countReached_16 : decode cX1_countReached 16 = .ok (.ifCond .eq 6, 3) := by decide +kernel
theorem dX1_countReached_19 : decode cX1_countReached 19 = .ok (.iinc 1 1, 3) := by decide +kernel
theorem dX1_countReached_22 : decode cX1_countReached 22 = .ok (.iinc 2 1, 3) := by decide +kernel
theorem dX1_countReached_25 : decode cX1_countReached 25 = .ok (.goto (-21), 3) := by decide +kernel
theorem dX1_countReached_28 : decode cX1_countReached 28 = .ok (.iload_n 1, 1) := by decide +kernel
theorem dX1_countReached_29 : decode cX1_countReached 29 = .ok (.ireturn, 1) := by decide +kernel
theorem dX1_countThrowing_0 : decode cX1_countThrowing 0 = .ok (.iconst 0, 1) := by decide +kernel
theorem dX1_countThrowing_1 : decode cX1_countThrowing 1 = .ok (.istore_n 1, 1) := by decide +kernel
theorem dX1_countThrowing_2 : decode cX1_countThrowing 2 = .ok (.iconst 0, 1) := by decide +kernel
theorem dX1_countThrowing_3 : decode cX1_countThrowing 3 = .ok (.istore_n 2, 1) := by decide +kernel
theorem dX1_countThrowing_4 : decode cX1_countThrowing 4 = .ok (.iload_n 2, 1) := by decide +kernel
theorem dX1_countThrowing_5 : decode cX1_countThrowing 5 = .ok (.bipush 40, 2) := by decide +kernel
theorem dX1_countThrowing_7 : decode cX1_countThrowing 7 = .ok (.if_icmp .ge 21, 3) := by decide +kernel
theorem dX1_countThrowing_10 : decode cX1_countThrowing 10 = .ok (.aload_n 0, 1) := by decide +kernel
theorem dX1_countThrowing_11 : decode cX1_countThrowing 11 = .ok (.getfield 29, 3) := by decide +kernel
theorem dX1_countThrowing_14 : decode cX1_countThrowing 14 = .ok (.iload_n 2, 1) := by decide +kernel
theorem dX1_countThrowing_15 : decode cX1_countThrowing 15 = .ok (.iaload, 1) := by decide +kernel
theorem dX1_countThrowing_16 : decode cX1_countThrowing 16 = .ok (.ifCond .eq 6, 3) := by decide +kernel
theorem dX1_countThrowing_19 : decode cX1_countThrowing 19 = .ok (.iinc 1 1, 3) := by decide +kernel
theorem dX1_countThrowing_22 : decode cX1_countThrowing 22 = .ok (.iinc 2 1, 3) := by decide +kernel
theorem dX1_countThrowing_25 : decode cX1_countThrowing 25 = .ok (.goto (-21), 3) := by decide +kernel
theorem dX1_countThrowing_28 : decode cX1_countThrowing 28 = .ok (.iload_n 1, 1) := by decide +kernel
theorem dX1_countThrowing_29 : decode cX1_countThrowing 29 = .ok (.ireturn, 1) := by decide +kernel
theorem dX1_pass_0 : decode cX1_pass 0 = .ok (.aload_n 1, 1) := by decide +kernel
theorem dX1_pass_1 : decode cX1_pass 1 = .ok (.iload_n 2, 1) := by decide +kernel
theorem dX1_pass_2 : decode cX1_pass 2 = .ok (.invokevirtual 75, 3) := by decide +kernel
theorem dX1_pass_5 : decode cX1_pass 5 = .ok (.istore_n 3, 1) := by decide +kernel
theorem dX1_pass_6 : decode cX1_pass 6 = .ok (.aload_n 1, 1) := by decide +kernel
theorem dX1_pass_7 : decode cX1_pass 7 = .ok (.iload_n 2, 1) := by decide +kernel
theorem dX1_pass_8 : decode cX1_pass 8 = .ok (.invokevirtual 65, 3) := by decide +kernel
theorem dX1_pass_11 : decode cX1_pass 11 = .ok (.istore 4, 2) := by decide +kernel
theorem dX1_pass_13 : decode cX1_pass 13 = .ok (.aload_n 1, 1) := by decide +kernel
theorem dX1_pass_14 : decode cX1_pass 14 = .ok (.iload_n 2, 1) := by decide +kernel
theorem dX1_pass_15 : decode cX1_pass 15 = .ok (.invokevirtual 78, 3) := by decide +kernel
theorem dX1_pass_18 : decode cX1_pass 18 = .ok (.istore 5, 2) := by decide +kernel
theorem dX1_pass_20 : decode cX1_pass 20 = .ok (.aload_n 1, 1) := by decide +kernel
theorem dX1_pass_21 : decode cX1_pass 21 = .ok (.iload_n 2, 1) := by decide +kernel
theorem dX1_pass_22 : decode cX1_pass 22 = .ok (.invokevirtual 81, 3) := by decide +kernel
theorem dX1_pass_25 : decode cX1_pass 25 = .ok (.istore 6, 2) := by decide +kernel
theorem dX1_pass_27 : decode cX1_pass 27 = .ok (.aload_n 1, 1) := by decide +kernel
theorem dX1_pass_28 : decode cX1_pass 28 = .ok (.iload_n 2, 1) := by decide +kernel
theorem dX1_pass_29 : decode cX1_pass 29 = .ok (.invokevirtual 84, 3) := by decide +kernel
theorem dX1_pass_32 : decode cX1_pass 32 = .ok (.istore 7, 2) := by decide +kernel
theorem dX1_pass_34 : decode cX1_pass 34 = .ok (.aload_n 1, 1) := by decide +kernel
theorem dX1_pass_35 : decode cX1_pass 35 = .ok (.iload_n 2, 1) := by decide +kernel
theorem dX1_pass_36 : decode cX1_pass 36 = .ok (.invokevirtual 57, 3) := by decide +kernel
theorem dX1_pass_39 : decode cX1_pass 39 = .ok (.tableswitch 393 0 13 #[69, 83, 97, 153, 209, 220, 232, 262, 324, 333, 345, 357, 371, 385], 69) := by decide +kernel
theorem dX1_pass_108 : decode cX1_pass 108 = .ok (.aload_n 0, 1) := by decide +kernel
theorem dX1_pass_109 : decode cX1_pass 109 = .ok (.getfield 12, 3) := by decide +kernel
theorem dX1_pass_112 : decode cX1_pass 112 = .ok (.iload_n 3, 1) := by decide +kernel
theorem dX1_pass_113 : decode cX1_pass 113 = .ok (.iload 4, 2) := by decide +kernel
theorem dX1_pass_115 : decode cX1_pass 115 = .ok (.iload 4, 2) := by decide +kernel
theorem dX1_pass_117 : decode cX1_pass 117 = .ok (.invokevirtual 87, 3) := by decide +kernel
theorem dX1_pass_120 : decode cX1_pass 120 = .ok (.iconst 0, 1) := by decide +kernel
theorem dX1_pass_121 : decode cX1_pass 121 = .ok (.ireturn, 1) := by decide +kernel
theorem dX1_pass_122 : decode cX1_pass 122 = .ok (.aload_n 0, 1) := by decide +kernel
theorem dX1_pass_123 : decode cX1_pass 123 = .ok (.getfield 12, 3) := by decide +kernel
theorem dX1_pass_126 : decode cX1_pass 126 = .ok (.iload_n 3, 1) := by decide +kernel
theorem dX1_pass_127 : decode cX1_pass 127 = .ok (.iload 4, 2) := by decide +kernel
theorem dX1_pass_129 : decode cX1_pass 129 = .ok (.iload 5, 2) := by decide +kernel
theorem dX1_pass_131 : decode cX1_pass 131 = .ok (.invokevirtual 87, 3) := by decide +kernel
theorem dX1_pass_134 : decode cX1_pass 134 = .ok (.iconst 0, 1) := by decide +kernel
theorem dX1_pass_135 : decode cX1_pass 135 = .ok (.ireturn, 1) := by decide +kernel
theorem dX1_pass_136 : decode cX1_pass 136 = .ok (.aload_n 0, 1) := by decide +kernel
theorem dX1_pass_137 : decode cX1_pass 137 = .ok (.getfield 12, 3) := by decide +kernel
theorem dX1_pass_140 : decode cX1_pass 140 = .ok (.iload_n 3, 1) := by decide +kernel
theorem dX1_pass_141 : decode cX1_pass 141 = .ok (.aload_n 0, 1) := by decide +kernel
theorem dX1_pass_142 : decode cX1_pass 142 = .ok (.getfield 12, 3) := by decide +kernel
theorem dX1_pass_145 : decode cX1_pass 145 = .ok (.getfield 91, 3) := by decide +kernel
theorem dX1_pass_148 : decode cX1_pass 148 = .ok (.iload 4, 2) := by decide +kernel
theorem dX1_pass_150 : decode cX1_pass 150 = .ok (.iaload, 1) := by decide +kernel
theorem dX1_pass_151 : decode cX1_pass 151 = .ok (.i2l, 1) := by decide +kernel
theorem dX1_pass_152 : decode cX1_pass 152 = .ok (.aload_n 0, 1) := by decide +kernel
theorem dX1_pass_153 : decode cX1_pass 153 = .ok (.getfield 12, 3) := by decide +kernel
theorem dX1_pass_156 : decode cX1_pass 156 = .ok (.getfield 91, 3) := by decide +kernel
theorem dX1_pass_159 : decode cX1_pass 159 = .ok (.iload 5, 2) := by decide +kernel
theorem dX1_pass_161 : decode cX1_pass 161 = .ok (.iaload, 1) := by decide +kernel
theorem dX1_pass_162 : decode cX1_pass 162 = .ok (.i2l, 1) := by decide +kernel
theorem dX1_pass_163 : decode cX1_pass 163 = .ok (.ladd, 1) := by decide +kernel
theorem dX1_pass_164 : decode cX1_pass 164 = .ok (.aload_n 0, 1) := by decide +kernel
theorem dX1_pass_165 : decode cX1_pass 165 = .ok (.getfield 12, 3) := by decide +kernel
theorem dX1_pass_168 : decode cX1_pass 168 = .ok (.getfield 94, 3) := by decide +kernel
theorem dX1_pass_171 : decode cX1_pass 171 = .ok (.iload 4, 2) := by decide +kernel
theorem dX1_pass_173 : decode cX1_pass 173 = .ok (.iaload, 1) := by decide +kernel
theorem dX1_pass_174 : decode cX1_pass 174 = .ok (.i2l, 1) := by decide +kernel
theorem dX1_pass_175 : decode cX1_pass 175 = .ok (.aload_n 0, 1) := by decide +kernel
theorem dX1_pass_176 : decode cX1_pass 176 = .ok (.getfield 12, 3) := by decide +kernel
theorem dX1_pass_179 : decode cX1_pass 179 = .ok (.getfield 94, 3) := by decide +kernel
theorem dX1_pass_182 : decode cX1_pass 182 = .ok (.iload 5, 2) := by decide +kernel
theorem dX1_pass_184 : decode cX1_pass 184 = .ok (.iaload, 1) := by decide +kernel
theorem dX1_pass_185 : decode cX1_pass 185 = .ok (.i2l, 1) := by decide +kernel
theorem dX1_pass_186 : decode cX1_pass 186 = .ok (.ladd, 1) := by decide +kernel
theorem dX1_pass_187 : decode cX1_pass 187 = .ok (.invokevirtual 97, 3) := by decide +kernel
theorem dX1_pass_190 : decode cX1_pass 190 = .ok (.iconst 0, 1) := by decide +kernel
theorem dX1_pass_191 : decode cX1_pass 191 = .ok (.ireturn, 1) := by decide +kernel
theorem dX1_pass_192 : decode cX1_pass 192 = .ok (.aload_n 0, 1) := by decide +kernel
theorem dX1_pass_193 : decode cX1_pass 193 = .ok (.getfield 12, 3) := by decide +kernel
theorem dX1_pass_196 : decode cX1_pass 196 = .ok (.iload_n 3, 1) := by decide +kernel
theorem dX1_pass_197 : decode cX1_pass 197 = .ok (.aload_n 0, 1) := by decide +kernel
theorem dX1_pass_198 : decode cX1_pass 198 = .ok (.getfield 12, 3) := by decide +kernel
theorem dX1_pass_201 : decode cX1_pass 201 = .ok (.getfield 91, 3) := by decide +kernel
theorem dX1_pass_204 : decode cX1_pass 204 = .ok (.iload 4, 2) := by decide +kernel
theorem dX1_pass_206 : decode cX1_pass 206 = .ok (.iaload, 1) := by decide +kernel
theorem dX1_pass_207 : decode cX1_pass 207 = .ok (.i2l, 1) := by decide +kernel
theorem dX1_pass_208 : decode cX1_pass 208 = .ok (.aload_n 0, 1) := by decide +kernel
theorem dX1_pass_209 : decode cX1_pass 209 = .ok (.getfield 12, 3) := by decide +kernel
theorem dX1_pass_212 : decode cX1_pass 212 = .ok (.getfield 94, 3) := by decide +kernel
theorem dX1_pass_215 : decode cX1_pass 215 = .ok (.iload 5, 2) := by decide +kernel
theorem dX1_pass_217 : decode cX1_pass 217 = .ok (.iaload, 1) := by decide +kernel
theorem dX1_pass_218 : decode cX1_pass 218 = .ok (.i2l, 1) := by decide +kernel
theorem dX1_pass_219 : decode cX1_pass 219 = .ok (.lsub, 1) := by decide +kernel
theorem dX1_pass_220 : decode cX1_pass 220 = .ok (.aload_n 0, 1) := by decide +kernel
theorem dX1_pass_221 : decode cX1_pass 221 = .ok (.getfield 12, 3) := by decide +kernel
theorem dX1_pass_224 : decode cX1_pass 224 = .ok (.getfield 94, 3) := by decide +kernel
theorem dX1_pass_227 : decode cX1_pass 227 = .ok (.iload 4, 2) := by decide +kernel
theorem dX1_pass_229 : decode cX1_pass 229 = .ok (.iaload, 1) := by decide +kernel
theorem dX1_pass_230 : decode cX1_pass 230 = .ok (.i2l, 1) := by decide +kernel
theorem dX1_pass_231 : decode cX1_pass 231 = .ok (.aload_n 0, 1) := by decide +kernel
theorem dX1_pass_232 : decode cX1_pass 232 = .ok (.getfield 12, 3) := by decide +kernel
theorem dX1_pass_235 : decode cX1_pass 235 = .ok (.getfield 91, 3) := by decide +kernel
theorem dX1_pass_238 : decode cX1_pass 238 = .ok (.iload 5, 2) := by decide +kernel
theorem dX1_pass_240 : decode cX1_pass 240 = .ok (.iaload, 1) := by decide +kernel
theorem dX1_pass_241 : decode cX1_pass 241 = .ok (.i2l, 1) := by decide +kernel
theorem dX1_pass_242 : decode cX1_pass 242 = .ok (.lsub, 1) := by decide +kernel
theorem dX1_pass_243 : decode cX1_pass 243 = .ok (.invokevirtual 97, 3) := by decide +kernel
theorem dX1_pass_246 : decode cX1_pass 246 = .ok (.iconst 0, 1) := by decide +kernel
theorem dX1_pass_247 : decode cX1_pass 247 = .ok (.ireturn, 1) := by decide +kernel
theorem dX1_pass_248 : decode cX1_pass 248 = .ok (.aload_n 0, 1) := by decide +kernel
theorem dX1_pass_249 : decode cX1_pass 249 = .ok (.iload_n 2, 1) := by decide +kernel
theorem dX1_pass_250 : decode cX1_pass 250 = .ok (.iload_n 3, 1) := by decide +kernel
theorem dX1_pass_251 : decode cX1_pass 251 = .ok (.iload 4, 2) := by decide +kernel
theorem dX1_pass_253 : decode cX1_pass 253 = .ok (.iload 5, 2) := by decide +kernel
theorem dX1_pass_255 : decode cX1_pass 255 = .ok (.invokevirtual 101, 3) := by decide +kernel
theorem dX1_pass_258 : decode cX1_pass 258 = .ok (.ireturn, 1) := by decide +kernel
theorem dX1_pass_259 : decode cX1_pass 259 = .ok (.aload_n 0, 1) := by decide +kernel
theorem dX1_pass_260 : decode cX1_pass 260 = .ok (.getfield 12, 3) := by decide +kernel
theorem dX1_pass_263 : decode cX1_pass 263 = .ok (.iload_n 3, 1) := by decide +kernel
theorem dX1_pass_264 : decode cX1_pass 264 = .ok (.lconst 0, 1) := by decide +kernel
theorem dX1_pass_265 : decode cX1_pass 265 = .ok (.iconst 1, 1) := by decide +kernel
theorem dX1_pass_266 : decode cX1_pass 266 = .ok (.invokevirtual 105, 3) := by decide +kernel
theorem dX1_pass_269 : decode cX1_pass 269 = .ok (.iconst 0, 1) := by decide +kernel
theorem dX1_pass_270 : decode cX1_pass 270 = .ok (.ireturn, 1) := by decide +kernel
theorem dX1_pass_271 : decode cX1_pass 271 = .ok (.aload_n 0, 1) := by decide +kernel
theorem dX1_pass_272 : decode cX1_pass 272 = .ok (.getfield 12, 3) := by decide +kernel
theorem dX1_pass_275 : decode cX1_pass 275 = .ok (.iload_n 3, 1) := by decide +kernel
theorem dX1_pass_276 : decode cX1_pass 276 = .ok (.aload_n 0, 1) := by decide +kernel
theorem dX1_pass_277 : decode cX1_pass 277 = .ok (.getfield 12, 3) := by decide +kernel
theorem dX1_pass_280 : decode cX1_pass 280 = .ok (.getfield 109, 3) := by decide +kernel
theorem dX1_pass_283 : decode cX1_pass 283 = .ok (.iload 4, 2) := by decide +kernel
theorem dX1_pass_285 : decode cX1_pass 285 = .ok (.laload, 1) := by decide +kernel
theorem dX1_pass_286 : decode cX1_pass 286 = .ok (.aload_n 0, 1) := by decide +kernel
theorem dX1_pass_287 : decode cX1_pass 287 = .ok (.getfield 12, 3) := by decide +kernel
theorem dX1_pass_290 : decode cX1_pass 290 = .ok (.getfield 113, 3) := by decide +kernel
theorem dX1_pass_293 : decode cX1_pass 293 = .ok (.iload 4, 2) := by decide +kernel
theorem dX1_pass_295 : decode cX1_pass 295 = .ok (.baload, 1) := by decide +kernel
theorem dX1_pass_296 : decode cX1_pass 296 = .ok (.invokevirtual 105, 3) := by decide +kernel
theorem dX1_pass_299 : decode cX1_pass 299 = .ok (.iconst 0, 1) := by decide +kernel
theorem dX1_pass_300 : decode cX1_pass 300 = .ok (.ireturn, 1) := by decide +kernel
theorem dX1_pass_301 : decode cX1_pass 301 = .ok (.aload_n 0, 1) := by decide +kernel
theorem dX1_pass_302 : decode cX1_pass 302 = .ok (.getfield 12, 3) := by decide +kernel
theorem dX1_pass_305 : decode cX1_pass 305 = .ok (.iload_n 3, 1) := by decide +kernel
theorem dX1_pass_306 : decode cX1_pass 306 = .ok (.aload_n 0, 1) := by decide +kernel
theorem dX1_pass_307 : decode cX1_pass 307 = .ok (.getfield 12, 3) := by decide +kernel
theorem dX1_pass_310 : decode cX1_pass 310 = .ok (.getfield 109, 3) := by decide +kernel
theorem dX1_pass_313 : decode cX1_pass 313 = .ok (.iload 4, 2) := by decide +kernel
theorem dX1_pass_315 : decode cX1_pass 315 = .ok (.laload, 1) := by decide +kernel
theorem dX1_pass_316 : decode cX1_pass 316 = .ok (.aload_n 0, 1) := by decide +kernel
theorem dX1_pass_317 : decode cX1_pass 317 = .ok (.getfield 12, 3) := by decide +kernel
theorem dX1_pass_320 : decode cX1_pass 320 = .ok (.getfield 109, 3) := by decide +kernel
theorem dX1_pass_323 : decode cX1_pass 323 = .ok (.iload 5, 2) := by decide +kernel
theorem dX1_pass_325 : decode cX1_pass 325 = .ok (.laload, 1) := by decide +kernel
theorem dX1_pass_326 : decode cX1_pass 326 = .ok (.lor, 1) := by decide +kernel
theorem dX1_pass_327 : decode cX1_pass 327 = .ok (.aload_n 0, 1) := by decide +kernel
theorem dX1_pass_328 : decode cX1_pass 328 = .ok (.getfield 12, 3) := by decide +kernel
theorem dX1_pass_331 : decode cX1_pass 331 = .ok (.getfield 113, 3) := by decide +kernel
theorem dX1_pass_334 : decode cX1_pass 334 = .ok (.iload 4, 2) := by decide +kernel
theorem dX1_pass_336 : decode cX1_pass 336 = .ok (.baload, 1) := by decide +kernel
theorem dX1_pass_337 : decode cX1_pass 337 = .ok (.ifCond .ne 16, 3) := by decide +kernel
theorem dX1_pass_340 : decode cX1_pass 340 = .ok (.aload_n 0, 1) := by decide +kernel
theorem dX1_pass_341 : decode cX1_pass 341 = .ok (.getfield 12, 3) := by decide +kernel
theorem dX1_pass_344 : decode cX1_pass 344 = .ok (.getfield 113, 3) := by decide +kernel
theorem dX1_pass_347 : decode cX1_pass 347 = .ok (.iload 5, 2) := by decide +kernel
theorem dX1_pass_349 : decode cX1_pass 349 = .ok (.baload, 1) := by decide +kernel
theorem dX1_pass_350 : decode cX1_pass 350 = .ok (.ifCond .eq 7, 3) := by decide +kernel
theorem dX1_pass_353 : decode cX1_pass 353 = .ok (.iconst 1, 1) := by decide +kernel
theorem dX1_pass_354 : decode cX1_pass 354 = .ok (.goto 4, 3) := by decide +kernel
theorem dX1_pass_357 : decode cX1_pass 357 = .ok (.iconst 0, 1) := by decide +kernel
theorem dX1_pass_358 : decode cX1_pass 358 = .ok (.invokevirtual 105, 3) := by decide +kernel
theorem dX1_pass_361 : decode cX1_pass 361 = .ok (.iconst 0, 1) := by decide +kernel
theorem dX1_pass_362 : decode cX1_pass 362 = .ok (.ireturn, 1) := by decide +kernel
theorem dX1_pass_363 : decode cX1_pass 363 = .ok (.aload_n 0, 1) := by decide +kernel
theorem dX1_pass_364 : decode cX1_pass 364 = .ok (.iload_n 2, 1) := by decide +kernel
theorem dX1_pass_365 : decode cX1_pass 365 = .ok (.iload_n 3, 1) := by decide +kernel
theorem dX1_pass_366 : decode cX1_pass 366 = .ok (.iload 4, 2) := by decide +kernel
theorem dX1_pass_368 : decode cX1_pass 368 = .ok (.invokevirtual 116, 3) := by decide +kernel
theorem dX1_pass_371 : decode cX1_pass 371 = .ok (.ireturn, 1) := by decide +kernel
theorem dX1_pass_372 : decode cX1_pass 372 = .ok (.aload_n 0, 1) := by decide +kernel
theorem dX1_pass_373 : decode cX1_pass 373 = .ok (.iload_n 3, 1) := by decide +kernel
theorem dX1_pass_374 : decode cX1_pass 374 = .ok (.iload 4, 2) := by decide +kernel
theorem dX1_pass_376 : decode cX1_pass 376 = .ok (.iload 5, 2) := by decide +kernel
theorem dX1_pass_378 : decode cX1_pass 378 = .ok (.iload 6, 2) := by decide +kernel
theorem dX1_pass_380 : decode cX1_pass 380 = .ok (.invokevirtual 120, 3) := by decide +kernel
theorem dX1_pass_383 : decode cX1_pass 383 = .ok (.ireturn, 1) := by decide +kernel
theorem dX1_pass_384 : decode cX1_pass 384 = .ok (.aload_n 0, 1) := by decide +kernel
theorem dX1_pass_385 : decode cX1_pass 385 = .ok (.iload_n 3, 1) := by decide +kernel
theorem dX1_pass_386 : decode cX1_pass 386 = .ok (.iload 4, 2) := by decide +kernel
theorem dX1_pass_388 : decode cX1_pass 388 = .ok (.iload 5, 2) := by decide +kernel
theorem dX1_pass_390 : decode cX1_pass 390 = .ok (.iload 6, 2) := by decide +kernel
theorem dX1_pass_392 : decode cX1_pass 392 = .ok (.invokevirtual 123, 3) := by decide +kernel
theorem dX1_pass_395 : decode cX1_pass 395 = .ok (.ireturn, 1) := by decide +kernel
theorem dX1_pass_396 : decode cX1_pass 396 = .ok (.aload_n 0, 1) := by decide +kernel
theorem dX1_pass_397 : decode cX1_pass 397 = .ok (.iload_n 3, 1) := by decide +kernel
theorem dX1_pass_398 : decode cX1_pass 398 = .ok (.iload 4, 2) := by decide +kernel
theorem dX1_pass_400 : decode cX1_pass 400 = .ok (.iload 5, 2) := by decide +kernel
theorem dX1_pass_402 : decode cX1_pass 402 = .ok (.iload 6, 2) := by decide +kernel
theorem dX1_pass_404 : decode cX1_pass 404 = .ok (.iload 7, 2) := by decide +kernel
theorem dX1_pass_406 : decode cX1_pass 406 = .ok (.invokevirtual 126, 3) := by decide +kernel
theorem dX1_pass_409 : decode cX1_pass 409 = .ok (.ireturn, 1) := by decide +kernel
theorem dX1_pass_410 : decode cX1_pass 410 = .ok (.aload_n 0, 1) := by decide +kernel
theorem dX1_pass_411 : decode cX1_pass 411 = .ok (.iload_n 3, 1) := by decide +kernel
theorem dX1_pass_412 : decode cX1_pass 412 = .ok (.iload 4, 2) := by decide +kernel
theorem dX1_pass_414 : decode cX1_pass 414 = .ok (.iload 5, 2) := by decide +kernel
theorem dX1_pass_416 : decode cX1_pass 416 = .ok (.iload 6, 2) := by decide +kernel
theorem dX1_pass_418 : decode cX1_pass 418 = .ok (.iload 7, 2) := by decide +kernel
theorem dX1_pass_420 : decode cX1_pass 420 = .ok (.invokevirtual 130, 3) := by decide +kernel
theorem dX1_pass_423 : decode cX1_pass 423 = .ok (.ireturn, 1) := by decide +kernel
theorem dX1_pass_424 : decode cX1_pass 424 = .ok (.aload_n 0, 1) := by decide +kernel
theorem dX1_pass_425 : decode cX1_pass 425 = .ok (.iload_n 3, 1) := by decide +kernel
theorem dX1_pass_426 : decode cX1_pass 426 = .ok (.iload 4, 2) := by decide +kernel
theorem dX1_pass_428 : decode cX1_pass 428 = .ok (.invokevirtual 133, 3) := by decide +kernel
theorem dX1_pass_431 : decode cX1_pass 431 = .ok (.ireturn, 1) := by decide +kernel
theorem dX1_pass_432 : decode cX1_pass 432 = .ok (.iconst 0, 1) := by decide +kernel
theorem dX1_pass_433 : decode cX1_pass 433 = .ok (.ireturn, 1) := by decide +kernel
theorem dX1_passNew_0 : decode cX1_passNew 0 = .ok (.aload_n 0, 1) := by decide +kernel
theorem dX1_passNew_1 : decode cX1_passNew 1 = .ok (.getfield 12, 3) := by decide +kernel
theorem dX1_passNew_4 : decode cX1_passNew 4 = .ok (.getfield 91, 3) := by decide +kernel
theorem dX1_passNew_7 : decode cX1_passNew 7 = .ok (.iload 4, 2) := by decide +kernel
theorem dX1_passNew_9 : decode cX1_passNew 9 = .ok (.iaload, 1) := by decide +kernel
theorem dX1_passNew_10 : decode cX1_passNew 10 = .ok (.ifCond .ge 7, 3) := by decide +kernel
theorem dX1_passNew_13 : decode cX1_passNew 13 = .ok (.iconst 1, 1) := by decide +kernel
theorem dX1_passNew_14 : decode cX1_passNew 14 = .ok (.goto 4, 3) := by decide +kernel
theorem dX1_passNew_17 : decode cX1_passNew 17 = .ok (.iconst 0, 1) := by decide +kernel
theorem dX1_passNew_18 : decode cX1_passNew 18 = .ok (.iconst 3, 1) := by decide +kernel
theorem dX1_passNew_19 : decode cX1_passNew 19 = .ok (.invokestatic 137, 3) := by decide +kernel
theorem dX1_passNew_22 : decode cX1_passNew 22 = .ok (.aload_n 0, 1) := by decide +kernel
theorem dX1_passNew_23 : decode cX1_passNew 23 = .ok (.getfield 12, 3) := by decide +kernel
theorem dX1_passNew_26 : decode cX1_passNew 26 = .ok (.getfield 94, 3) := by decide +kernel
theorem dX1_passNew_29 : decode cX1_passNew 29 = .ok (.iload 4, 2) := by decide +kernel
theorem dX1_passNew_31 : decode cX1_passNew 31 = .ok (.iaload, 1) := by decide +kernel
theorem dX1_passNew_32 : decode cX1_passNew 32 = .ok (.bipush 12, 2) := by decide +kernel
theorem dX1_passNew_34 : decode cX1_passNew 34 = .ok (.if_icmp .le 7, 3) := by decide +kernel
theorem dX1_passNew_37 : decode cX1_passNew 37 = .ok (.iconst 1, 1) := by decide +kernel
theorem dX1_passNew_38 : decode cX1_passNew 38 = .ok (.goto 4, 3) := by decide +kernel
theorem dX1_passNew_41 : decode cX1_passNew 41 = .ok (.iconst 0, 1) := by decide +kernel
theorem dX1_passNew_42 : decode cX1_passNew 42 = .ok (.bipush 7, 2) := by decide +kernel
theorem dX1_passNew_44 : decode cX1_passNew 44 = .ok (.invokestatic 137, 3) := by decide +kernel
theorem dX1_passNew_47 : decode cX1_passNew 47 = .ok (.ior, 1) := by decide +kernel
theorem dX1_passNew_48 : decode cX1_passNew 48 = .ok (.istore 5, 2) := by decide +kernel
theorem dX1_passNew_50 : decode cX1_passNew 50 = .ok (.aload_n 0, 1) := by decide +kernel
theorem dX1_passNew_51 : decode cX1_passNew 51 = .ok (.getfield 12, 3) := by decide +kernel
theorem dX1_passNew_54 : decode cX1_passNew 54 = .ok (.iload 4, 2) := by decide +kernel
theorem dX1_passNew_56 : decode cX1_passNew 56 = .ok (.iconst 0, 1) := by decide +kernel
theorem dX1_passNew_57 : decode cX1_passNew 57 = .ok (.bipush 12, 2) := by decide +kernel
theorem dX1_passNew_59 : decode cX1_passNew 59 = .ok (.invokevirtual 141, 3) := by decide +kernel
theorem dX1_passNew_62 : decode cX1_passNew 62 = .ok (.aload_n 0, 1) := by decide +kernel
theorem dX1_passNew_63 : decode cX1_passNew 63 = .ok (.getfield 12, 3) := by decide +kernel
theorem dX1_passNew_66 : decode cX1_passNew 66 = .ok (.getfield 55, 3) := by decide +kernel
theorem dX1_passNew_69 : decode cX1_passNew 69 = .ok (.ifCond .eq 44, 3) := by decide +kernel
theorem dX1_passNew_72 : decode cX1_passNew 72 = .ok (.aload_n 0, 1) := by decide +kernel
theorem dX1_passNew_73 : decode cX1_passNew 73 = .ok (.getfield 12, 3) := by decide +kernel
theorem dX1_passNew_76 : decode cX1_passNew 76 = .ok (.iload_n 1, 1) := by decide +kernel
theorem dX1_passNew_77 : decode cX1_passNew 77 = .ok (.iload_n 3, 1) := by decide +kernel
theorem dX1_passNew_78 : decode cX1_passNew 78 = .ok (.aload_n 0, 1) := by decide +kernel
theorem dX1_passNew_79 : decode cX1_passNew 79 = .ok (.getfield 12, 3) := by decide +kernel
theorem dX1_passNew_82 : decode cX1_passNew 82 = .ok (.getfield 91, 3) := by decide +kernel
theorem dX1_passNew_85 : decode cX1_passNew 85 = .ok (.iload 4, 2) := by decide +kernel
theorem dX1_passNew_87 : decode cX1_passNew 87 = .ok (.iaload, 1) := by decide +kernel
theorem dX1_passNew_88 : decode cX1_passNew 88 = .ok (.aload_n 0, 1) := by decide +kernel
theorem dX1_passNew_89 : decode cX1_passNew 89 = .ok (.getfield 12, 3) := by decide +kernel
theorem dX1_passNew_92 : decode cX1_passNew 92 = .ok (.getfield 94, 3) := by decide +kernel
theorem dX1_passNew_95 : decode cX1_passNew 95 = .ok (.iload 4, 2) := by decide +kernel
theorem dX1_passNew_97 : decode cX1_passNew 97 = .ok (.iaload, 1) := by decide +kernel
theorem dX1_passNew_98 : decode cX1_passNew 98 = .ok (.invokevirtual 144, 3) := by decide +kernel
theorem dX1_passNew_101 : decode cX1_passNew 101 = .ok (.aload_n 0, 1) := by decide +kernel
theorem dX1_passNew_102 : decode cX1_passNew 102 = .ok (.getfield 12, 3) := by decide +kernel
theorem dX1_passNew_105 : decode cX1_passNew 105 = .ok (.iload_n 2, 1) := by decide +kernel
theorem dX1_passNew_106 : decode cX1_passNew 106 = .ok (.lconst 1, 1) := by decide +kernel
theorem dX1_passNew_107 : decode cX1_passNew 107 = .ok (.iload_n 1, 1) := by decide +kernel
theorem dX1_passNew_108 : decode cX1_passNew 108 = .ok (.lshl, 1) := by decide +kernel
theorem dX1_passNew_109 : decode cX1_passNew 109 = .ok (.iconst 0, 1) := by decide +kernel
theorem dX1_passNew_110 : decode cX1_passNew 110 = .ok (.invokevirtual 105, 3) := by decide +kernel
theorem dX1_passNew_113 : decode cX1_passNew 113 = .ok (.iload 5, 2) := by decide +kernel
theorem dX1_passNew_115 : decode cX1_passNew 115 = .ok (.ireturn, 1) := by decide +kernel
theorem dX1_passClone_0 : decode cX1_passClone 0 = .ok (.aload_n 0, 1) := by decide +kernel
theorem dX1_passClone_1 : decode cX1_passClone 1 = .ok (.iload_n 3, 1) := by decide +kernel
theorem dX1_passClone_2 : decode cX1_passClone 2 = .ok (.invokevirtual 148, 3) := by decide +kernel
theorem dX1_passClone_5 : decode cX1_passClone 5 = .ok (.istore 4, 2) := by decide +kernel
theorem dX1_passClone_7 : decode cX1_passClone 7 = .ok (.aload_n 0, 1) := by decide +kernel
theorem dX1_passClone_8 : decode cX1_passClone 8 = .ok (.getfield 12, 3) := by decide +kernel
theorem dX1_passClone_11 : decode cX1_passClone 11 = .ok (.iload_n 3, 1) := by decide +kernel
theorem dX1_passClone_12 : decode cX1_passClone 12 = .ok (.aload_n 0, 1) := by decide +kernel
theorem dX1_passClone_13 : decode cX1_passClone 13 = .ok (.getfield 12, 3) := by decide +kernel
theorem dX1_passClone_16 : decode cX1_passClone 16 = .ok (.getfield 109, 3) := by decide +kernel
theorem dX1_passClone_19 : decode cX1_passClone 19 = .ok (.iload_n 3, 1) := by decide +kernel
theorem dX1_passClone_20 : decode cX1_passClone 20 = .ok (.laload, 1) := by decide +kernel
theorem dX1_passClone_21 : decode cX1_passClone 21 = .ok (.invokevirtual 151, 3) := by decide +kernel
theorem dX1_passClone_24 : decode cX1_passClone 24 = .ok (.aload_n 0, 1) := by decide +kernel
theorem dX1_passClone_25 : decode cX1_passClone 25 = .ok (.getfield 12, 3) := by decide +kernel
theorem dX1_passClone_28 : decode cX1_passClone 28 = .ok (.getfield 55, 3) := by decide +kernel
theorem dX1_passClone_31 : decode cX1_passClone 31 = .ok (.ifCond .eq 62, 3) := by decide +kernel
theorem dX1_passClone_34 : decode cX1_passClone 34 = .ok (.iconst 0, 1) := by decide +kernel
theorem dX1_passClone_35 : decode cX1_passClone 35 = .ok (.istore 5, 2) := by decide +kernel
theorem dX1_passClone_37 : decode cX1_passClone 37 = .ok (.iload 5, 2) := by decide +kernel
theorem dX1_passClone_39 : decode cX1_passClone 39 = .ok (.bipush 40, 2) := by decide +kernel
theorem dX1_passClone_41 : decode cX1_passClone 41 = .ok (.if_icmp .ge 40, 3) := by decide +kernel
theorem dX1_passClone_44 : decode cX1_passClone 44 = .ok (.aload_n 0, 1) := by decide +kernel
theorem dX1_passClone_45 : decode cX1_passClone 45 = .ok (.getfield 12, 3) := by decide +kernel
theorem dX1_passClone_48 : decode cX1_passClone 48 = .ok (.getfield 109, 3) := by decide +kernel
theorem dX1_passClone_51 : decode cX1_passClone 51 = .ok (.iload_n 3, 1) := by decide +kernel
theorem dX1_passClone_52 : decode cX1_passClone 52 = .ok (.laload, 1) := by decide +kernel
theorem dX1_passClone_53 : decode cX1_passClone 53 = .ok (.iload 5, 2) := by decide +kernel
theorem dX1_passClone_55 : decode cX1_passClone 55 = .ok (.invokestatic 155, 3) := by decide +kernel
theorem dX1_passClone_58 : decode cX1_passClone 58 = .ok (.ifCond .eq 17, 3) := by decide +kernel
theorem dX1_passClone_61 : decode cX1_passClone 61 = .ok (.aload_n 0, 1) := by decide +kernel
theorem dX1_passClone_62 : decode cX1_passClone 62 = .ok (.getfield 12, 3) := by decide +kernel
theorem dX1_passClone_65 : decode cX1_passClone 65 = .ok (.iload_n 1, 1) := by decide +kernel
theorem dX1_passClone_66 : decode cX1_passClone 66 = .ok (.aload_n 0, 1) := by decide +kernel
theorem dX1_passClone_67 : decode cX1_passClone 67 = .ok (.getfield 12, 3) := by decide +kernel
theorem dX1_passClone_70 : decode cX1_passClone 70 = .ok (.iload 5, 2) := by decide +kernel
theorem dX1_passClone_72 : decode cX1_passClone 72 = .ok (.invokevirtual 159, 3) := by decide +kernel
theorem dX1_passClone_75 : decode cX1_passClone 75 = .ok (.iinc 5 1, 3) := by decide +kernel
theorem dX1_passClone_78 : decode cX1_passClone 78 = .ok (.goto (-41), 3) := by decide +kernel
theorem dX1_passClone_81 : decode cX1_passClone 81 = .ok (.aload_n 0, 1) := by decide +kernel
theorem dX1_passClone_82 : decode cX1_passClone 82 = .ok (.getfield 12, 3) := by decide +kernel
theorem dX1_passClone_85 : decode cX1_passClone 85 = .ok (.iload_n 2, 1) := by decide +kernel
theorem dX1_passClone_86 : decode cX1_passClone 86 = .ok (.lconst 1, 1) := by decide +kernel
theorem dX1_passClone_87 : decode cX1_passClone 87 = .ok (.iload_n 1, 1) := by decide +kernel
theorem dX1_passClone_88 : decode cX1_passClone 88 = .ok (.lshl, 1) := by decide +kernel
theorem dX1_passClone_89 : decode cX1_passClone 89 = .ok (.iconst 0, 1) := by decide +kernel
theorem dX1_passClone_90 : decode cX1_passClone 90 = .ok (.invokevirtual 105, 3) := by decide +kernel
theorem dX1_passClone_93 : decode cX1_passClone 93 = .ok (.iload 4, 2) := by decide +kernel
theorem dX1_passClone_95 : decode cX1_passClone 95 = .ok (.ireturn, 1) := by decide +kernel
theorem dX1_passLength_0 : decode cX1_passLength 0 = .ok (.aload_n 0, 1) := by decide +kernel
theorem dX1_passLength_1 : decode cX1_passLength 1 = .ok (.iload_n 2, 1) := by decide +kernel
theorem dX1_passLength_2 : decode cX1_passLength 2 = .ok (.invokevirtual 148, 3) := by decide +kernel
theorem dX1_passLength_5 : decode cX1_passLength 5 = .ok (.istore_n 3, 1) := by decide +kernel
theorem dX1_passLength_6 : decode cX1_passLength 6 = .ok (.aload_n 0, 1) := by decide +kernel
theorem dX1_passLength_7 : decode cX1_passLength 7 = .ok (.getfield 12, 3) := by decide +kernel
theorem dX1_passLength_10 : decode cX1_passLength 10 = .ok (.iload_n 2, 1) := by decide +kernel
theorem dX1_passLength_11 : decode cX1_passLength 11 = .ok (.aload_n 0, 1) := by decide +kernel
theorem dX1_passLength_12 : decode cX1_passLength 12 = .ok (.getfield 12, 3) := by decide +kernel
theorem dX1_passLength_15 : decode cX1_passLength 15 = .ok (.getfield 109, 3) := by decide +kernel
theorem dX1_passLength_18 : decode cX1_passLength 18 = .ok (.iload_n 2, 1) := by decide +kernel
theorem dX1_passLength_19 : decode cX1_passLength 19 = .ok (.laload, 1) := by decide +kernel
theorem dX1_passLength_20 : decode cX1_passLength 20 = .ok (.invokevirtual 151, 3) := by decide +kernel
theorem dX1_passLength_23 : decode cX1_passLength 23 = .ok (.aload_n 0, 1) := by decide +kernel
theorem dX1_passLength_24 : decode cX1_passLength 24 = .ok (.getfield 12, 3) := by decide +kernel
theorem dX1_passLength_27 : decode cX1_passLength 27 = .ok (.getfield 55, 3) := by decide +kernel
theorem dX1_passLength_30 : decode cX1_passLength 30 = .ok (.ifCond .eq 83, 3) := by decide +kernel
theorem dX1_passLength_33 : decode cX1_passLength 33 = .ok (.bipush 12, 2) := by decide +kernel
theorem dX1_passLength_35 : decode cX1_passLength 35 = .ok (.istore 4, 2) := by decide +kernel
theorem dX1_passLength_37 : decode cX1_passLength 37 = .ok (.iconst 0, 1) := by decide +kernel
theorem dX1_passLength_38 : decode cX1_passLength 38 = .ok (.istore 5, 2) := by decide +kernel
theorem dX1_passLength_40 : decode cX1_passLength 40 = .ok (.iload 5, 2) := by decide +kernel
theorem dX1_passLength_42 : decode cX1_passLength 42 = .ok (.bipush 40, 2) := by decide +kernel
theorem dX1_passLength_44 : decode cX1_passLength 44 = .ok (.if_icmp .ge 43, 3) := by decide +kernel
theorem dX1_passLength_47 : decode cX1_passLength 47 = .ok (.aload_n 0, 1) := by decide +kernel
theorem dX1_passLength_48 : decode cX1_passLength 48 = .ok (.getfield 12, 3) := by decide +kernel
theorem dX1_passLength_51 : decode cX1_passLength 51 = .ok (.getfield 109, 3) := by decide +kernel
theorem dX1_passLength_54 : decode cX1_passLength 54 = .ok (.iload_n 2, 1) := by decide +kernel
theorem dX1_passLength_55 : decode cX1_passLength 55 = .ok (.laload, 1) := by decide +kernel
theorem dX1_passLength_56 : decode cX1_passLength 56 = .ok (.iload 5, 2) := by decide +kernel
theorem dX1_passLength_58 : decode cX1_passLength 58 = .ok (.invokestatic 155, 3) := by decide +kernel
theorem dX1_passLength_61 : decode cX1_passLength 61 = .ok (.ifCond .eq 20, 3) := by decide +kernel
theorem dX1_passLength_64 : decode cX1_passLength 64 = .ok (.iload 4, 2) := by decide +kernel
theorem dX1_passLength_66 : decode cX1_passLength 66 = .ok (.aload_n 0, 1) := by decide +kernel
theorem dX1_passLength_67 : decode cX1_passLength 67 = .ok (.getfield 12, 3) := by decide +kernel
theorem dX1_passLength_70 : decode cX1_passLength 70 = .ok (.getfield 163, 3) := by decide +kernel
theorem dX1_passLength_73 : decode cX1_passLength 73 = .ok (.iload 5, 2) := by decide +kernel
theorem dX1_passLength_75 : decode cX1_passLength 75 = .ok (.iaload, 1) := by decide +kernel
theorem dX1_passLength_76 : decode cX1_passLength 76 = .ok (.invokestatic 166, 3) := by decide +kernel
theorem dX1_passLength_79 : decode cX1_passLength 79 = .ok (.istore 4, 2) := by decide +kernel
theorem dX1_passLength_81 : decode cX1_passLength 81 = .ok (.iinc 5 1, 3) := by decide +kernel
theorem dX1_passLength_84 : decode cX1_passLength 84 = .ok (.goto (-44), 3) := by decide +kernel
theorem dX1_passLength_87 : decode cX1_passLength 87 = .ok (.aload_n 0, 1) := by decide +kernel
theorem dX1_passLength_88 : decode cX1_passLength 88 = .ok (.getfield 12, 3) := by decide +kernel
theorem dX1_passLength_91 : decode cX1_passLength 91 = .ok (.iload_n 1, 1) := by decide +kernel
theorem dX1_passLength_92 : decode cX1_passLength 92 = .ok (.iload 4, 2) := by decide +kernel
theorem dX1_passLength_94 : decode cX1_passLength 94 = .ok (.aload_n 0, 1) := by decide +kernel
theorem dX1_passLength_95 : decode cX1_passLength 95 = .ok (.getfield 12, 3) := by decide +kernel
theorem dX1_passLength_98 : decode cX1_passLength 98 = .ok (.aload_n 0, 1) := by decide +kernel
theorem dX1_passLength_99 : decode cX1_passLength 99 = .ok (.getfield 12, 3) := by decide +kernel
theorem dX1_passLength_102 : decode cX1_passLength 102 = .ok (.getfield 109, 3) := by decide +kernel
theorem dX1_passLength_105 : decode cX1_passLength 105 = .ok (.iload_n 2, 1) := by decide +kernel
theorem dX1_passLength_106 : decode cX1_passLength 106 = .ok (.laload, 1) := by decide +kernel
theorem dX1_passLength_107 : decode cX1_passLength 107 = .ok (.invokevirtual 171, 3) := by decide +kernel
theorem dX1_passLength_110 : decode cX1_passLength 110 = .ok (.invokevirtual 87, 3) := by decide +kernel
theorem dX1_passLength_113 : decode cX1_passLength 113 = .ok (.iload_n 3, 1) := by decide +kernel
theorem dX1_passLength_114 : decode cX1_passLength 114 = .ok (.ireturn, 1) := by decide +kernel
theorem dX1_passWrite_0 : decode cX1_passWrite 0 = .ok (.aload_n 0, 1) := by decide +kernel
theorem dX1_passWrite_1 : decode cX1_passWrite 1 = .ok (.iload_n 1, 1) := by decide +kernel
theorem dX1_passWrite_2 : decode cX1_passWrite 2 = .ok (.iload_n 2, 1) := by decide +kernel
theorem dX1_passWrite_3 : decode cX1_passWrite 3 = .ok (.aload_n 0, 1) := by decide +kernel
theorem dX1_passWrite_4 : decode cX1_passWrite 4 = .ok (.iload_n 1, 1) := by decide +kernel
theorem dX1_passWrite_5 : decode cX1_passWrite 5 = .ok (.iload_n 3, 1) := by decide +kernel
theorem dX1_passWrite_6 : decode cX1_passWrite 6 = .ok (.invokevirtual 175, 3) := by decide +kernel
theorem dX1_passWrite_9 : decode cX1_passWrite 9 = .ok (.invokevirtual 179, 3) := by decide +kernel
theorem dX1_passWrite_12 : decode cX1_passWrite 12 = .ok (.istore 5, 2) := by decide +kernel
theorem dX1_passWrite_14 : decode cX1_passWrite 14 = .ok (.aload_n 0, 1) := by decide +kernel
theorem dX1_passWrite_15 : decode cX1_passWrite 15 = .ok (.iload_n 1, 1) := by decide +kernel
