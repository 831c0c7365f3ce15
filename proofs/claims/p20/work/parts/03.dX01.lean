theorem dX1_passWrite_16 : decode cX1_passWrite 16 = .ok (.iload_n 2, 1) := by decide +kernel
theorem dX1_passWrite_17 : decode cX1_passWrite 17 = .ok (.iload_n 3, 1) := by decide +kernel
theorem dX1_passWrite_18 : decode cX1_passWrite 18 = .ok (.invokevirtual 183, 3) := by decide +kernel
theorem dX1_passWrite_21 : decode cX1_passWrite 21 = .ok (.aload_n 0, 1) := by decide +kernel
theorem dX1_passWrite_22 : decode cX1_passWrite 22 = .ok (.getfield 12, 3) := by decide +kernel
theorem dX1_passWrite_25 : decode cX1_passWrite 25 = .ok (.getfield 55, 3) := by decide +kernel
theorem dX1_passWrite_28 : decode cX1_passWrite 28 = .ok (.ifCond .eq 145, 3) := by decide +kernel
theorem dX1_passWrite_31 : decode cX1_passWrite 31 = .ok (.aload_n 0, 1) := by decide +kernel
theorem dX1_passWrite_32 : decode cX1_passWrite 32 = .ok (.getfield 12, 3) := by decide +kernel
theorem dX1_passWrite_35 : decode cX1_passWrite 35 = .ok (.getfield 109, 3) := by decide +kernel
theorem dX1_passWrite_38 : decode cX1_passWrite 38 = .ok (.iload_n 1, 1) := by decide +kernel
theorem dX1_passWrite_39 : decode cX1_passWrite 39 = .ok (.laload, 1) := by decide +kernel
theorem dX1_passWrite_40 : decode cX1_passWrite 40 = .ok (.lstore 6, 2) := by decide +kernel
theorem dX1_passWrite_42 : decode cX1_passWrite 42 = .ok (.lload 6, 2) := by decide +kernel
theorem dX1_passWrite_44 : decode cX1_passWrite 44 = .ok (.invokestatic 186, 3) := by decide +kernel
theorem dX1_passWrite_47 : decode cX1_passWrite 47 = .ok (.iconst 1, 1) := by decide +kernel
theorem dX1_passWrite_48 : decode cX1_passWrite 48 = .ok (.if_icmp .ne 18, 3) := by decide +kernel
theorem dX1_passWrite_51 : decode cX1_passWrite 51 = .ok (.aload_n 0, 1) := by decide +kernel
theorem dX1_passWrite_52 : decode cX1_passWrite 52 = .ok (.getfield 12, 3) := by decide +kernel
theorem dX1_passWrite_55 : decode cX1_passWrite 55 = .ok (.iload_n 3, 1) := by decide +kernel
theorem dX1_passWrite_56 : decode cX1_passWrite 56 = .ok (.invokevirtual 191, 3) := by decide +kernel
theorem dX1_passWrite_59 : decode cX1_passWrite 59 = .ok (.ifCond .eq 7, 3) := by decide +kernel
theorem dX1_passWrite_62 : decode cX1_passWrite 62 = .ok (.iconst 1, 1) := by decide +kernel
theorem dX1_passWrite_63 : decode cX1_passWrite 63 = .ok (.goto 4, 3) := by decide +kernel
theorem dX1_passWrite_66 : decode cX1_passWrite 66 = .ok (.iconst 0, 1) := by decide +kernel
theorem dX1_passWrite_67 : decode cX1_passWrite 67 = .ok (.istore 8, 2) := by decide +kernel
theorem dX1_passWrite_69 : decode cX1_passWrite 69 = .ok (.aload_n 0, 1) := by decide +kernel
theorem dX1_passWrite_70 : decode cX1_passWrite 70 = .ok (.getfield 12, 3) := by decide +kernel
theorem dX1_passWrite_73 : decode cX1_passWrite 73 = .ok (.iload_n 2, 1) := by decide +kernel
theorem dX1_passWrite_74 : decode cX1_passWrite 74 = .ok (.iload 4, 2) := by decide +kernel
theorem dX1_passWrite_76 : decode cX1_passWrite 76 = .ok (.invokevirtual 194, 3) := by decide +kernel
theorem dX1_passWrite_79 : decode cX1_passWrite 79 = .ok (.istore 9, 2) := by decide +kernel
theorem dX1_passWrite_81 : decode cX1_passWrite 81 = .ok (.aload_n 0, 1) := by decide +kernel
theorem dX1_passWrite_82 : decode cX1_passWrite 82 = .ok (.getfield 12, 3) := by decide +kernel
theorem dX1_passWrite_85 : decode cX1_passWrite 85 = .ok (.iload_n 2, 1) := by decide +kernel
theorem dX1_passWrite_86 : decode cX1_passWrite 86 = .ok (.iload 4, 2) := by decide +kernel
theorem dX1_passWrite_88 : decode cX1_passWrite 88 = .ok (.invokevirtual 197, 3) := by decide +kernel
theorem dX1_passWrite_91 : decode cX1_passWrite 91 = .ok (.istore 10, 2) := by decide +kernel
theorem dX1_passWrite_93 : decode cX1_passWrite 93 = .ok (.iconst 0, 1) := by decide +kernel
theorem dX1_passWrite_94 : decode cX1_passWrite 94 = .ok (.istore 11, 2) := by decide +kernel
theorem dX1_passWrite_96 : decode cX1_passWrite 96 = .ok (.iload 11, 2) := by decide +kernel
theorem dX1_passWrite_98 : decode cX1_passWrite 98 = .ok (.bipush 40, 2) := by decide +kernel
theorem dX1_passWrite_100 : decode cX1_passWrite 100 = .ok (.if_icmp .ge 73, 3) := by decide +kernel
theorem dX1_passWrite_103 : decode cX1_passWrite 103 = .ok (.lload 6, 2) := by decide +kernel
theorem dX1_passWrite_105 : decode cX1_passWrite 105 = .ok (.iload 11, 2) := by decide +kernel
theorem dX1_passWrite_107 : decode cX1_passWrite 107 = .ok (.invokestatic 155, 3) := by decide +kernel
theorem dX1_passWrite_110 : decode cX1_passWrite 110 = .ok (.ifCond .eq 57, 3) := by decide +kernel
theorem dX1_passWrite_113 : decode cX1_passWrite 113 = .ok (.aload_n 0, 1) := by decide +kernel
theorem dX1_passWrite_114 : decode cX1_passWrite 114 = .ok (.getfield 12, 3) := by decide +kernel
theorem dX1_passWrite_117 : decode cX1_passWrite 117 = .ok (.getfield 94, 3) := by decide +kernel
theorem dX1_passWrite_120 : decode cX1_passWrite 120 = .ok (.iload_n 3, 1) := by decide +kernel
theorem dX1_passWrite_121 : decode cX1_passWrite 121 = .ok (.iaload, 1) := by decide +kernel
theorem dX1_passWrite_122 : decode cX1_passWrite 122 = .ok (.i2l, 1) := by decide +kernel
theorem dX1_passWrite_123 : decode cX1_passWrite 123 = .ok (.lconst 1, 1) := by decide +kernel
theorem dX1_passWrite_124 : decode cX1_passWrite 124 = .ok (.ladd, 1) := by decide +kernel
theorem dX1_passWrite_125 : decode cX1_passWrite 125 = .ok (.aload_n 0, 1) := by decide +kernel
theorem dX1_passWrite_126 : decode cX1_passWrite 126 = .ok (.getfield 12, 3) := by decide +kernel
theorem dX1_passWrite_129 : decode cX1_passWrite 129 = .ok (.getfield 200, 3) := by decide +kernel
theorem dX1_passWrite_132 : decode cX1_passWrite 132 = .ok (.iload 11, 2) := by decide +kernel
theorem dX1_passWrite_134 : decode cX1_passWrite 134 = .ok (.iaload, 1) := by decide +kernel
theorem dX1_passWrite_135 : decode cX1_passWrite 135 = .ok (.i2l, 1) := by decide +kernel
theorem dX1_passWrite_136 : decode cX1_passWrite 136 = .ok (.invokestatic 203, 3) := by decide +kernel
theorem dX1_passWrite_139 : decode cX1_passWrite 139 = .ok (.lstore 12, 2) := by decide +kernel
theorem dX1_passWrite_141 : decode cX1_passWrite 141 = .ok (.aload_n 0, 1) := by decide +kernel
theorem dX1_passWrite_142 : decode cX1_passWrite 142 = .ok (.getfield 12, 3) := by decide +kernel
theorem dX1_passWrite_145 : decode cX1_passWrite 145 = .ok (.iload 11, 2) := by decide +kernel
theorem dX1_passWrite_147 : decode cX1_passWrite 147 = .ok (.aload_n 0, 1) := by decide +kernel
theorem dX1_passWrite_148 : decode cX1_passWrite 148 = .ok (.getfield 12, 3) := by decide +kernel
theorem dX1_passWrite_151 : decode cX1_passWrite 151 = .ok (.getfield 91, 3) := by decide +kernel
theorem dX1_passWrite_154 : decode cX1_passWrite 154 = .ok (.iload_n 3, 1) := by decide +kernel
theorem dX1_passWrite_155 : decode cX1_passWrite 155 = .ok (.iaload, 1) := by decide +kernel
theorem dX1_passWrite_156 : decode cX1_passWrite 156 = .ok (.lload 12, 2) := by decide +kernel
theorem dX1_passWrite_158 : decode cX1_passWrite 158 = .ok (.iload 9, 2) := by decide +kernel
theorem dX1_passWrite_160 : decode cX1_passWrite 160 = .ok (.iload 10, 2) := by decide +kernel
theorem dX1_passWrite_162 : decode cX1_passWrite 162 = .ok (.iload 8, 2) := by decide +kernel
theorem dX1_passWrite_164 : decode cX1_passWrite 164 = .ok (.invokevirtual 206, 3) := by decide +kernel
theorem dX1_passWrite_167 : decode cX1_passWrite 167 = .ok (.iinc 11 1, 3) := by decide +kernel
theorem dX1_passWrite_170 : decode cX1_passWrite 170 = .ok (.goto (-74), 3) := by decide +kernel
theorem dX1_passWrite_173 : decode cX1_passWrite 173 = .ok (.iload 5, 2) := by decide +kernel
theorem dX1_passWrite_175 : decode cX1_passWrite 175 = .ok (.ireturn, 1) := by decide +kernel
theorem dX1_passRead_0 : decode cX1_passRead 0 = .ok (.aload_n 0, 1) := by decide +kernel
theorem dX1_passRead_1 : decode cX1_passRead 1 = .ok (.iload_n 2, 1) := by decide +kernel
theorem dX1_passRead_2 : decode cX1_passRead 2 = .ok (.iload_n 3, 1) := by decide +kernel
theorem dX1_passRead_3 : decode cX1_passRead 3 = .ok (.aload_n 0, 1) := by decide +kernel
theorem dX1_passRead_4 : decode cX1_passRead 4 = .ok (.iload_n 2, 1) := by decide +kernel
theorem dX1_passRead_5 : decode cX1_passRead 5 = .ok (.iload 4, 2) := by decide +kernel
theorem dX1_passRead_7 : decode cX1_passRead 7 = .ok (.invokevirtual 175, 3) := by decide +kernel
theorem dX1_passRead_10 : decode cX1_passRead 10 = .ok (.invokevirtual 179, 3) := by decide +kernel
theorem dX1_passRead_13 : decode cX1_passRead 13 = .ok (.istore 5, 2) := by decide +kernel
theorem dX1_passRead_15 : decode cX1_passRead 15 = .ok (.aload_n 0, 1) := by decide +kernel
theorem dX1_passRead_16 : decode cX1_passRead 16 = .ok (.iload_n 2, 1) := by decide +kernel
theorem dX1_passRead_17 : decode cX1_passRead 17 = .ok (.iload_n 3, 1) := by decide +kernel
theorem dX1_passRead_18 : decode cX1_passRead 18 = .ok (.iload 4, 2) := by decide +kernel
theorem dX1_passRead_20 : decode cX1_passRead 20 = .ok (.invokevirtual 183, 3) := by decide +kernel
theorem dX1_passRead_23 : decode cX1_passRead 23 = .ok (.aload_n 0, 1) := by decide +kernel
theorem dX1_passRead_24 : decode cX1_passRead 24 = .ok (.getfield 12, 3) := by decide +kernel
theorem dX1_passRead_27 : decode cX1_passRead 27 = .ok (.getfield 55, 3) := by decide +kernel
theorem dX1_passRead_30 : decode cX1_passRead 30 = .ok (.ifCond .eq 62, 3) := by decide +kernel
theorem dX1_passRead_33 : decode cX1_passRead 33 = .ok (.aload_n 0, 1) := by decide +kernel
theorem dX1_passRead_34 : decode cX1_passRead 34 = .ok (.aload_n 0, 1) := by decide +kernel
theorem dX1_passRead_35 : decode cX1_passRead 35 = .ok (.getfield 12, 3) := by decide +kernel
theorem dX1_passRead_38 : decode cX1_passRead 38 = .ok (.getfield 109, 3) := by decide +kernel
theorem dX1_passRead_41 : decode cX1_passRead 41 = .ok (.iload_n 2, 1) := by decide +kernel
theorem dX1_passRead_42 : decode cX1_passRead 42 = .ok (.laload, 1) := by decide +kernel
theorem dX1_passRead_43 : decode cX1_passRead 43 = .ok (.aload_n 0, 1) := by decide +kernel
theorem dX1_passRead_44 : decode cX1_passRead 44 = .ok (.getfield 12, 3) := by decide +kernel
theorem dX1_passRead_47 : decode cX1_passRead 47 = .ok (.getfield 91, 3) := by decide +kernel
theorem dX1_passRead_50 : decode cX1_passRead 50 = .ok (.iload 4, 2) := by decide +kernel
theorem dX1_passRead_52 : decode cX1_passRead 52 = .ok (.iaload, 1) := by decide +kernel
theorem dX1_passRead_53 : decode cX1_passRead 53 = .ok (.aload_n 0, 1) := by decide +kernel
theorem dX1_passRead_54 : decode cX1_passRead 54 = .ok (.getfield 12, 3) := by decide +kernel
theorem dX1_passRead_57 : decode cX1_passRead 57 = .ok (.getfield 94, 3) := by decide +kernel
theorem dX1_passRead_60 : decode cX1_passRead 60 = .ok (.iload 4, 2) := by decide +kernel
theorem dX1_passRead_62 : decode cX1_passRead 62 = .ok (.iaload, 1) := by decide +kernel
theorem dX1_passRead_63 : decode cX1_passRead 63 = .ok (.i2l, 1) := by decide +kernel
theorem dX1_passRead_64 : decode cX1_passRead 64 = .ok (.lconst 1, 1) := by decide +kernel
theorem dX1_passRead_65 : decode cX1_passRead 65 = .ok (.ladd, 1) := by decide +kernel
theorem dX1_passRead_66 : decode cX1_passRead 66 = .ok (.invokevirtual 210, 3) := by decide +kernel
theorem dX1_passRead_69 : decode cX1_passRead 69 = .ok (.aload_n 0, 1) := by decide +kernel
theorem dX1_passRead_70 : decode cX1_passRead 70 = .ok (.getfield 33, 3) := by decide +kernel
theorem dX1_passRead_73 : decode cX1_passRead 73 = .ok (.ifCond .eq 19, 3) := by decide +kernel
theorem dX1_passRead_76 : decode cX1_passRead 76 = .ok (.aload_n 0, 1) := by decide +kernel
theorem dX1_passRead_77 : decode cX1_passRead 77 = .ok (.getfield 12, 3) := by decide +kernel
theorem dX1_passRead_80 : decode cX1_passRead 80 = .ok (.iload_n 1, 1) := by decide +kernel
theorem dX1_passRead_81 : decode cX1_passRead 81 = .ok (.aload_n 0, 1) := by decide +kernel
theorem dX1_passRead_82 : decode cX1_passRead 82 = .ok (.getfield 36, 3) := by decide +kernel
theorem dX1_passRead_85 : decode cX1_passRead 85 = .ok (.aload_n 0, 1) := by decide +kernel
theorem dX1_passRead_86 : decode cX1_passRead 86 = .ok (.getfield 40, 3) := by decide +kernel
theorem dX1_passRead_89 : decode cX1_passRead 89 = .ok (.invokevirtual 87, 3) := by decide +kernel
theorem dX1_passRead_92 : decode cX1_passRead 92 = .ok (.iload 5, 2) := by decide +kernel
theorem dX1_passRead_94 : decode cX1_passRead 94 = .ok (.ireturn, 1) := by decide +kernel
theorem dX1_passCopy_0 : decode cX1_passCopy 0 = .ok (.aload_n 0, 1) := by decide +kernel
theorem dX1_passCopy_1 : decode cX1_passCopy 1 = .ok (.iload_n 1, 1) := by decide +kernel
theorem dX1_passCopy_2 : decode cX1_passCopy 2 = .ok (.iload_n 2, 1) := by decide +kernel
theorem dX1_passCopy_3 : decode cX1_passCopy 3 = .ok (.iload_n 3, 1) := by decide +kernel
theorem dX1_passCopy_4 : decode cX1_passCopy 4 = .ok (.iload 4, 2) := by decide +kernel
theorem dX1_passCopy_6 : decode cX1_passCopy 6 = .ok (.iload 5, 2) := by decide +kernel
theorem dX1_passCopy_8 : decode cX1_passCopy 8 = .ok (.invokevirtual 214, 3) := by decide +kernel
theorem dX1_passCopy_11 : decode cX1_passCopy 11 = .ok (.istore 6, 2) := by decide +kernel
theorem dX1_passCopy_13 : decode cX1_passCopy 13 = .ok (.aload_n 0, 1) := by decide +kernel
theorem dX1_passCopy_14 : decode cX1_passCopy 14 = .ok (.getfield 12, 3) := by decide +kernel
theorem dX1_passCopy_17 : decode cX1_passCopy 17 = .ok (.iload_n 1, 1) := by decide +kernel
theorem dX1_passCopy_18 : decode cX1_passCopy 18 = .ok (.aload_n 0, 1) := by decide +kernel
theorem dX1_passCopy_19 : decode cX1_passCopy 19 = .ok (.getfield 12, 3) := by decide +kernel
theorem dX1_passCopy_22 : decode cX1_passCopy 22 = .ok (.getfield 109, 3) := by decide +kernel
theorem dX1_passCopy_25 : decode cX1_passCopy 25 = .ok (.iload_n 1, 1) := by decide +kernel
theorem dX1_passCopy_26 : decode cX1_passCopy 26 = .ok (.laload, 1) := by decide +kernel
theorem dX1_passCopy_27 : decode cX1_passCopy 27 = .ok (.invokevirtual 151, 3) := by decide +kernel
theorem dX1_passCopy_30 : decode cX1_passCopy 30 = .ok (.aload_n 0, 1) := by decide +kernel
theorem dX1_passCopy_31 : decode cX1_passCopy 31 = .ok (.getfield 12, 3) := by decide +kernel
theorem dX1_passCopy_34 : decode cX1_passCopy 34 = .ok (.iload_n 3, 1) := by decide +kernel
theorem dX1_passCopy_35 : decode cX1_passCopy 35 = .ok (.aload_n 0, 1) := by decide +kernel
theorem dX1_passCopy_36 : decode cX1_passCopy 36 = .ok (.getfield 12, 3) := by decide +kernel
theorem dX1_passCopy_39 : decode cX1_passCopy 39 = .ok (.getfield 109, 3) := by decide +kernel
theorem dX1_passCopy_42 : decode cX1_passCopy 42 = .ok (.iload_n 3, 1) := by decide +kernel
theorem dX1_passCopy_43 : decode cX1_passCopy 43 = .ok (.laload, 1) := by decide +kernel
theorem dX1_passCopy_44 : decode cX1_passCopy 44 = .ok (.invokevirtual 151, 3) := by decide +kernel
theorem dX1_passCopy_47 : decode cX1_passCopy 47 = .ok (.aload_n 0, 1) := by decide +kernel
theorem dX1_passCopy_48 : decode cX1_passCopy 48 = .ok (.getfield 12, 3) := by decide +kernel
theorem dX1_passCopy_51 : decode cX1_passCopy 51 = .ok (.iload_n 2, 1) := by decide +kernel
theorem dX1_passCopy_52 : decode cX1_passCopy 52 = .ok (.iconst 0, 1) := by decide +kernel
theorem dX1_passCopy_53 : decode cX1_passCopy 53 = .ok (.ldc 217, 2) := by decide +kernel
theorem dX1_passCopy_55 : decode cX1_passCopy 55 = .ok (.invokevirtual 141, 3) := by decide +kernel
theorem dX1_passCopy_58 : decode cX1_passCopy 58 = .ok (.aload_n 0, 1) := by decide +kernel
theorem dX1_passCopy_59 : decode cX1_passCopy 59 = .ok (.getfield 12, 3) := by decide +kernel
theorem dX1_passCopy_62 : decode cX1_passCopy 62 = .ok (.iload 4, 2) := by decide +kernel
theorem dX1_passCopy_64 : decode cX1_passCopy 64 = .ok (.iconst 0, 1) := by decide +kernel
theorem dX1_passCopy_65 : decode cX1_passCopy 65 = .ok (.ldc 217, 2) := by decide +kernel
theorem dX1_passCopy_67 : decode cX1_passCopy 67 = .ok (.invokevirtual 141, 3) := by decide +kernel
theorem dX1_passCopy_70 : decode cX1_passCopy 70 = .ok (.aload_n 0, 1) := by decide +kernel
theorem dX1_passCopy_71 : decode cX1_passCopy 71 = .ok (.getfield 12, 3) := by decide +kernel
theorem dX1_passCopy_74 : decode cX1_passCopy 74 = .ok (.iload 5, 2) := by decide +kernel
theorem dX1_passCopy_76 : decode cX1_passCopy 76 = .ok (.iconst 0, 1) := by decide +kernel
theorem dX1_passCopy_77 : decode cX1_passCopy 77 = .ok (.ldc 217, 2) := by decide +kernel
theorem dX1_passCopy_79 : decode cX1_passCopy 79 = .ok (.invokevirtual 141, 3) := by decide +kernel
theorem dX1_passCopy_82 : decode cX1_passCopy 82 = .ok (.aload_n 0, 1) := by decide +kernel
theorem dX1_passCopy_83 : decode cX1_passCopy 83 = .ok (.getfield 12, 3) := by decide +kernel
theorem dX1_passCopy_86 : decode cX1_passCopy 86 = .ok (.getfield 55, 3) := by decide +kernel
theorem dX1_passCopy_89 : decode cX1_passCopy 89 = .ok (.ifCond .eq 164, 3) := by decide +kernel
theorem dX1_passCopy_92 : decode cX1_passCopy 92 = .ok (.aload_n 0, 1) := by decide +kernel
theorem dX1_passCopy_93 : decode cX1_passCopy 93 = .ok (.getfield 12, 3) := by decide +kernel
theorem dX1_passCopy_96 : decode cX1_passCopy 96 = .ok (.getfield 109, 3) := by decide +kernel
theorem dX1_passCopy_99 : decode cX1_passCopy 99 = .ok (.iload_n 1, 1) := by decide +kernel
theorem dX1_passCopy_100 : decode cX1_passCopy 100 = .ok (.laload, 1) := by decide +kernel
theorem dX1_passCopy_101 : decode cX1_passCopy 101 = .ok (.invokestatic 218, 3) := by decide +kernel
theorem dX1_passCopy_104 : decode cX1_passCopy 104 = .ok (.istore 7, 2) := by decide +kernel
theorem dX1_passCopy_106 : decode cX1_passCopy 106 = .ok (.aload_n 0, 1) := by decide +kernel
theorem dX1_passCopy_107 : decode cX1_passCopy 107 = .ok (.getfield 12, 3) := by decide +kernel
theorem dX1_passCopy_110 : decode cX1_passCopy 110 = .ok (.getfield 109, 3) := by decide +kernel
theorem dX1_passCopy_113 : decode cX1_passCopy 113 = .ok (.iload_n 3, 1) := by decide +kernel
theorem dX1_passCopy_114 : decode cX1_passCopy 114 = .ok (.laload, 1) := by decide +kernel
theorem dX1_passCopy_115 : decode cX1_passCopy 115 = .ok (.invokestatic 218, 3) := by decide +kernel
theorem dX1_passCopy_118 : decode cX1_passCopy 118 = .ok (.istore 8, 2) := by decide +kernel
theorem dX1_passCopy_120 : decode cX1_passCopy 120 = .ok (.aload_n 0, 1) := by decide +kernel
theorem dX1_passCopy_121 : decode cX1_passCopy 121 = .ok (.getfield 12, 3) := by decide +kernel
theorem dX1_passCopy_124 : decode cX1_passCopy 124 = .ok (.getfield 109, 3) := by decide +kernel
theorem dX1_passCopy_127 : decode cX1_passCopy 127 = .ok (.iload_n 1, 1) := by decide +kernel
theorem dX1_passCopy_128 : decode cX1_passCopy 128 = .ok (.laload, 1) := by decide +kernel
theorem dX1_passCopy_129 : decode cX1_passCopy 129 = .ok (.invokestatic 186, 3) := by decide +kernel
theorem dX1_passCopy_132 : decode cX1_passCopy 132 = .ok (.iconst 1, 1) := by decide +kernel
theorem dX1_passCopy_133 : decode cX1_passCopy 133 = .ok (.if_icmp .ne 23, 3) := by decide +kernel
theorem dX1_passCopy_136 : decode cX1_passCopy 136 = .ok (.aload_n 0, 1) := by decide +kernel
theorem dX1_passCopy_137 : decode cX1_passCopy 137 = .ok (.getfield 12, 3) := by decide +kernel
theorem dX1_passCopy_140 : decode cX1_passCopy 140 = .ok (.getfield 109, 3) := by decide +kernel
theorem dX1_passCopy_143 : decode cX1_passCopy 143 = .ok (.iload_n 3, 1) := by decide +kernel
theorem dX1_passCopy_144 : decode cX1_passCopy 144 = .ok (.laload, 1) := by decide +kernel
theorem dX1_passCopy_145 : decode cX1_passCopy 145 = .ok (.invokestatic 186, 3) := by decide +kernel
theorem dX1_passCopy_148 : decode cX1_passCopy 148 = .ok (.iconst 1, 1) := by decide +kernel
theorem dX1_passCopy_149 : decode cX1_passCopy 149 = .ok (.if_icmp .ne 7, 3) := by decide +kernel
theorem dX1_passCopy_152 : decode cX1_passCopy 152 = .ok (.iconst 1, 1) := by decide +kernel
theorem dX1_passCopy_153 : decode cX1_passCopy 153 = .ok (.goto 4, 3) := by decide +kernel
theorem dX1_passCopy_156 : decode cX1_passCopy 156 = .ok (.iconst 0, 1) := by decide +kernel
theorem dX1_passCopy_157 : decode cX1_passCopy 157 = .ok (.istore 9, 2) := by decide +kernel
theorem dX1_passCopy_159 : decode cX1_passCopy 159 = .ok (.iload 9, 2) := by decide +kernel
theorem dX1_passCopy_161 : decode cX1_passCopy 161 = .ok (.ifCond .eq 81, 3) := by decide +kernel
theorem dX1_passCopy_164 : decode cX1_passCopy 164 = .ok (.aload_n 0, 1) := by decide +kernel
theorem dX1_passCopy_165 : decode cX1_passCopy 165 = .ok (.getfield 12, 3) := by decide +kernel
theorem dX1_passCopy_168 : decode cX1_passCopy 168 = .ok (.iload_n 2, 1) := by decide +kernel
theorem dX1_passCopy_169 : decode cX1_passCopy 169 = .ok (.invokevirtual 191, 3) := by decide +kernel
theorem dX1_passCopy_172 : decode cX1_passCopy 172 = .ok (.ifCond .eq 70, 3) := by decide +kernel
theorem dX1_passCopy_175 : decode cX1_passCopy 175 = .ok (.aload_n 0, 1) := by decide +kernel
theorem dX1_passCopy_176 : decode cX1_passCopy 176 = .ok (.getfield 12, 3) := by decide +kernel
theorem dX1_passCopy_179 : decode cX1_passCopy 179 = .ok (.iload 4, 2) := by decide +kernel
theorem dX1_passCopy_181 : decode cX1_passCopy 181 = .ok (.invokevirtual 191, 3) := by decide +kernel
theorem dX1_passCopy_184 : decode cX1_passCopy 184 = .ok (.ifCond .eq 58, 3) := by decide +kernel
theorem dX1_passCopy_187 : decode cX1_passCopy 187 = .ok (.aload_n 0, 1) := by decide +kernel
theorem dX1_passCopy_188 : decode cX1_passCopy 188 = .ok (.getfield 12, 3) := by decide +kernel
theorem dX1_passCopy_191 : decode cX1_passCopy 191 = .ok (.iload 5, 2) := by decide +kernel
theorem dX1_passCopy_193 : decode cX1_passCopy 193 = .ok (.invokevirtual 191, 3) := by decide +kernel
theorem dX1_passCopy_196 : decode cX1_passCopy 196 = .ok (.ifCond .eq 46, 3) := by decide +kernel
theorem dX1_passCopy_199 : decode cX1_passCopy 199 = .ok (.aload_n 0, 1) := by decide +kernel
theorem dX1_passCopy_200 : decode cX1_passCopy 200 = .ok (.getfield 12, 3) := by decide +kernel
theorem dX1_passCopy_203 : decode cX1_passCopy 203 = .ok (.iload 7, 2) := by decide +kernel
theorem dX1_passCopy_205 : decode cX1_passCopy 205 = .ok (.aload_n 0, 1) := by decide +kernel
theorem dX1_passCopy_206 : decode cX1_passCopy 206 = .ok (.getfield 12, 3) := by decide +kernel
theorem dX1_passCopy_209 : decode cX1_passCopy 209 = .ok (.getfield 91, 3) := by decide +kernel
theorem dX1_passCopy_212 : decode cX1_passCopy 212 = .ok (.iload_n 2, 1) := by decide +kernel
theorem dX1_passCopy_213 : decode cX1_passCopy 213 = .ok (.iaload, 1) := by decide +kernel
theorem dX1_passCopy_214 : decode cX1_passCopy 214 = .ok (.iload 8, 2) := by decide +kernel
theorem dX1_passCopy_216 : decode cX1_passCopy 216 = .ok (.aload_n 0, 1) := by decide +kernel
theorem dX1_passCopy_217 : decode cX1_passCopy 217 = .ok (.getfield 12, 3) := by decide +kernel
theorem dX1_passCopy_220 : decode cX1_passCopy 220 = .ok (.getfield 91, 3) := by decide +kernel
theorem dX1_passCopy_223 : decode cX1_passCopy 223 = .ok (.iload 4, 2) := by decide +kernel
theorem dX1_passCopy_225 : decode cX1_passCopy 225 = .ok (.iaload, 1) := by decide +kernel
theorem dX1_passCopy_226 : decode cX1_passCopy 226 = .ok (.aload_n 0, 1) := by decide +kernel
theorem dX1_passCopy_227 : decode cX1_passCopy 227 = .ok (.getfield 12, 3) := by decide +kernel
theorem dX1_passCopy_230 : decode cX1_passCopy 230 = .ok (.getfield 91, 3) := by decide +kernel
theorem dX1_passCopy_233 : decode cX1_passCopy 233 = .ok (.iload 5, 2) := by decide +kernel
theorem dX1_passCopy_235 : decode cX1_passCopy 235 = .ok (.iaload, 1) := by decide +kernel
theorem dX1_passCopy_236 : decode cX1_passCopy 236 = .ok (.invokevirtual 221, 3) := by decide +kernel
theorem dX1_passCopy_239 : decode cX1_passCopy 239 = .ok (.goto 14, 3) := by decide +kernel
theorem dX1_passCopy_242 : decode cX1_passCopy 242 = .ok (.aload_n 0, 1) := by decide +kernel
theorem dX1_passCopy_243 : decode cX1_passCopy 243 = .ok (.iload_n 1, 1) := by decide +kernel
theorem dX1_passCopy_244 : decode cX1_passCopy 244 = .ok (.iload_n 2, 1) := by decide +kernel
theorem dX1_passCopy_245 : decode cX1_passCopy 245 = .ok (.iload_n 3, 1) := by decide +kernel
theorem dX1_passCopy_246 : decode cX1_passCopy 246 = .ok (.iload 4, 2) := by decide +kernel
theorem dX1_passCopy_248 : decode cX1_passCopy 248 = .ok (.iload 5, 2) := by decide +kernel
theorem dX1_passCopy_250 : decode cX1_passCopy 250 = .ok (.invokevirtual 225, 3) := by decide +kernel
theorem dX1_passCopy_253 : decode cX1_passCopy 253 = .ok (.iload 6, 2) := by decide +kernel
theorem dX1_passCopy_255 : decode cX1_passCopy 255 = .ok (.ireturn, 1) := by decide +kernel
theorem dX1_joinCopy_0 : decode cX1_joinCopy 0 = .ok (.aload_n 0, 1) := by decide +kernel
theorem dX1_joinCopy_1 : decode cX1_joinCopy 1 = .ok (.getfield 12, 3) := by decide +kernel
theorem dX1_joinCopy_4 : decode cX1_joinCopy 4 = .ok (.getfield 94, 3) := by decide +kernel
theorem dX1_joinCopy_7 : decode cX1_joinCopy 7 = .ok (.iload 5, 2) := by decide +kernel
theorem dX1_joinCopy_9 : decode cX1_joinCopy 9 = .ok (.iaload, 1) := by decide +kernel
theorem dX1_joinCopy_10 : decode cX1_joinCopy 10 = .ok (.ifCond .ne 4, 3) := by decide +kernel
theorem dX1_joinCopy_13 : decode cX1_joinCopy 13 = .ok (.return_, 1) := by decide +kernel
theorem dX1_joinCopy_14 : decode cX1_joinCopy 14 = .ok (.aload_n 0, 1) := by decide +kernel
theorem dX1_joinCopy_15 : decode cX1_joinCopy 15 = .ok (.aload_n 0, 1) := by decide +kernel
theorem dX1_joinCopy_16 : decode cX1_joinCopy 16 = .ok (.getfield 12, 3) := by decide +kernel
theorem dX1_joinCopy_19 : decode cX1_joinCopy 19 = .ok (.getfield 109, 3) := by decide +kernel
theorem dX1_joinCopy_22 : decode cX1_joinCopy 22 = .ok (.iload_n 1, 1) := by decide +kernel
theorem dX1_joinCopy_23 : decode cX1_joinCopy 23 = .ok (.laload, 1) := by decide +kernel
theorem dX1_joinCopy_24 : decode cX1_joinCopy 24 = .ok (.aload_n 0, 1) := by decide +kernel
theorem dX1_joinCopy_25 : decode cX1_joinCopy 25 = .ok (.getfield 12, 3) := by decide +kernel
theorem dX1_joinCopy_28 : decode cX1_joinCopy 28 = .ok (.getfield 91, 3) := by decide +kernel
theorem dX1_joinCopy_31 : decode cX1_joinCopy 31 = .ok (.iload_n 2, 1) := by decide +kernel
theorem dX1_joinCopy_32 : decode cX1_joinCopy 32 = .ok (.iaload, 1) := by decide +kernel
theorem dX1_joinCopy_33 : decode cX1_joinCopy 33 = .ok (.aload_n 0, 1) := by decide +kernel
theorem dX1_joinCopy_34 : decode cX1_joinCopy 34 = .ok (.getfield 12, 3) := by decide +kernel
theorem dX1_joinCopy_37 : decode cX1_joinCopy 37 = .ok (.getfield 94, 3) := by decide +kernel
theorem dX1_joinCopy_40 : decode cX1_joinCopy 40 = .ok (.iload_n 2, 1) := by decide +kernel
theorem dX1_joinCopy_41 : decode cX1_joinCopy 41 = .ok (.iaload, 1) := by decide +kernel
theorem dX1_joinCopy_42 : decode cX1_joinCopy 42 = .ok (.i2l, 1) := by decide +kernel
theorem dX1_joinCopy_43 : decode cX1_joinCopy 43 = .ok (.aload_n 0, 1) := by decide +kernel
theorem dX1_joinCopy_44 : decode cX1_joinCopy 44 = .ok (.getfield 12, 3) := by decide +kernel
theorem dX1_joinCopy_47 : decode cX1_joinCopy 47 = .ok (.getfield 94, 3) := by decide +kernel
theorem dX1_joinCopy_50 : decode cX1_joinCopy 50 = .ok (.iload 5, 2) := by decide +kernel
theorem dX1_joinCopy_52 : decode cX1_joinCopy 52 = .ok (.iaload, 1) := by decide +kernel
theorem dX1_joinCopy_53 : decode cX1_joinCopy 53 = .ok (.i2l, 1) := by decide +kernel
theorem dX1_joinCopy_54 : decode cX1_joinCopy 54 = .ok (.ladd, 1) := by decide +kernel
theorem dX1_joinCopy_55 : decode cX1_joinCopy 55 = .ok (.invokevirtual 210, 3) := by decide +kernel
theorem dX1_joinCopy_58 : decode cX1_joinCopy 58 = .ok (.aload_n 0, 1) := by decide +kernel
theorem dX1_joinCopy_59 : decode cX1_joinCopy 59 = .ok (.getfield 33, 3) := by decide +kernel
theorem dX1_joinCopy_62 : decode cX1_joinCopy 62 = .ok (.ifCond .ne 4, 3) := by decide +kernel
theorem dX1_joinCopy_65 : decode cX1_joinCopy 65 = .ok (.return_, 1) := by decide +kernel
theorem dX1_joinCopy_66 : decode cX1_joinCopy 66 = .ok (.aload_n 0, 1) := by decide +kernel
theorem dX1_joinCopy_67 : decode cX1_joinCopy 67 = .ok (.getfield 12, 3) := by decide +kernel
theorem dX1_joinCopy_70 : decode cX1_joinCopy 70 = .ok (.getfield 94, 3) := by decide +kernel
theorem dX1_joinCopy_73 : decode cX1_joinCopy 73 = .ok (.iload 4, 2) := by decide +kernel
theorem dX1_joinCopy_75 : decode cX1_joinCopy 75 = .ok (.iaload, 1) := by decide +kernel
theorem dX1_joinCopy_76 : decode cX1_joinCopy 76 = .ok (.i2l, 1) := by decide +kernel
theorem dX1_joinCopy_77 : decode cX1_joinCopy 77 = .ok (.aload_n 0, 1) := by decide +kernel
theorem dX1_joinCopy_78 : decode cX1_joinCopy 78 = .ok (.getfield 12, 3) := by decide +kernel
theorem dX1_joinCopy_81 : decode cX1_joinCopy 81 = .ok (.getfield 94, 3) := by decide +kernel
theorem dX1_joinCopy_84 : decode cX1_joinCopy 84 = .ok (.iload 5, 2) := by decide +kernel
theorem dX1_joinCopy_86 : decode cX1_joinCopy 86 = .ok (.iaload, 1) := by decide +kernel
theorem dX1_joinCopy_87 : decode cX1_joinCopy 87 = .ok (.i2l, 1) := by decide +kernel
theorem dX1_joinCopy_88 : decode cX1_joinCopy 88 = .ok (.ladd, 1) := by decide +kernel
theorem dX1_joinCopy_89 : decode cX1_joinCopy 89 = .ok (.lstore 6, 2) := by decide +kernel
theorem dX1_joinCopy_91 : decode cX1_joinCopy 91 = .ok (.iconst 0, 1) := by decide +kernel
theorem dX1_joinCopy_92 : decode cX1_joinCopy 92 = .ok (.istore 8, 2) := by decide +kernel
theorem dX1_joinCopy_94 : decode cX1_joinCopy 94 = .ok (.iload 8, 2) := by decide +kernel
theorem dX1_joinCopy_96 : decode cX1_joinCopy 96 = .ok (.bipush 40, 2) := by decide +kernel
theorem dX1_joinCopy_98 : decode cX1_joinCopy 98 = .ok (.if_icmp .ge 74, 3) := by decide +kernel
theorem dX1_joinCopy_101 : decode cX1_joinCopy 101 = .ok (.aload_n 0, 1) := by decide +kernel
theorem dX1_joinCopy_102 : decode cX1_joinCopy 102 = .ok (.getfield 12, 3) := by decide +kernel
theorem dX1_joinCopy_105 : decode cX1_joinCopy 105 = .ok (.getfield 109, 3) := by decide +kernel
theorem dX1_joinCopy_108 : decode cX1_joinCopy 108 = .ok (.iload_n 3, 1) := by decide +kernel
theorem dX1_joinCopy_109 : decode cX1_joinCopy 109 = .ok (.laload, 1) := by decide +kernel
theorem dX1_joinCopy_110 : decode cX1_joinCopy 110 = .ok (.iload 8, 2) := by decide +kernel
theorem dX1_joinCopy_112 : decode cX1_joinCopy 112 = .ok (.invokestatic 155, 3) := by decide +kernel
theorem dX1_joinCopy_115 : decode cX1_joinCopy 115 = .ok (.ifCond .eq 51, 3) := by decide +kernel
theorem dX1_joinCopy_118 : decode cX1_joinCopy 118 = .ok (.lload 6, 2) := by decide +kernel
theorem dX1_joinCopy_120 : decode cX1_joinCopy 120 = .ok (.aload_n 0, 1) := by decide +kernel
theorem dX1_joinCopy_121 : decode cX1_joinCopy 121 = .ok (.getfield 12, 3) := by decide +kernel
theorem dX1_joinCopy_124 : decode cX1_joinCopy 124 = .ok (.getfield 200, 3) := by decide +kernel
theorem dX1_joinCopy_127 : decode cX1_joinCopy 127 = .ok (.iload 8, 2) := by decide +kernel
theorem dX1_joinCopy_129 : decode cX1_joinCopy 129 = .ok (.iaload, 1) := by decide +kernel
theorem dX1_joinCopy_130 : decode cX1_joinCopy 130 = .ok (.i2l, 1) := by decide +kernel
theorem dX1_joinCopy_131 : decode cX1_joinCopy 131 = .ok (.invokestatic 203, 3) := by decide +kernel
theorem dX1_joinCopy_134 : decode cX1_joinCopy 134 = .ok (.lstore 9, 2) := by decide +kernel
theorem dX1_joinCopy_136 : decode cX1_joinCopy 136 = .ok (.aload_n 0, 1) := by decide +kernel
theorem dX1_joinCopy_137 : decode cX1_joinCopy 137 = .ok (.getfield 12, 3) := by decide +kernel
theorem dX1_joinCopy_140 : decode cX1_joinCopy 140 = .ok (.iload 8, 2) := by decide +kernel
theorem dX1_joinCopy_142 : decode cX1_joinCopy 142 = .ok (.aload_n 0, 1) := by decide +kernel
theorem dX1_joinCopy_143 : decode cX1_joinCopy 143 = .ok (.getfield 12, 3) := by decide +kernel
theorem dX1_joinCopy_146 : decode cX1_joinCopy 146 = .ok (.getfield 91, 3) := by decide +kernel
theorem dX1_joinCopy_149 : decode cX1_joinCopy 149 = .ok (.iload 4, 2) := by decide +kernel
theorem dX1_joinCopy_151 : decode cX1_joinCopy 151 = .ok (.iaload, 1) := by decide +kernel
theorem dX1_joinCopy_152 : decode cX1_joinCopy 152 = .ok (.lload 9, 2) := by decide +kernel
theorem dX1_joinCopy_154 : decode cX1_joinCopy 154 = .ok (.aload_n 0, 1) := by decide +kernel
theorem dX1_joinCopy_155 : decode cX1_joinCopy 155 = .ok (.getfield 36, 3) := by decide +kernel
theorem dX1_joinCopy_158 : decode cX1_joinCopy 158 = .ok (.aload_n 0, 1) := by decide +kernel
theorem dX1_joinCopy_159 : decode cX1_joinCopy 159 = .ok (.getfield 40, 3) := by decide +kernel
theorem dX1_joinCopy_162 : decode cX1_joinCopy 162 = .ok (.iconst 0, 1) := by decide +kernel
theorem dX1_joinCopy_163 : decode cX1_joinCopy 163 = .ok (.invokevirtual 206, 3) := by decide +kernel
theorem dX1_joinCopy_166 : decode cX1_joinCopy 166 = .ok (.iinc 8 1, 3) := by decide +kernel
theorem dX1_joinCopy_169 : decode cX1_joinCopy 169 = .ok (.goto (-75), 3) := by decide +kernel
theorem dX1_joinCopy_172 : decode cX1_joinCopy 172 = .ok (.return_, 1) := by decide +kernel
theorem dX1_passFill_0 : decode cX1_passFill 0 = .ok (.aload_n 0, 1) := by decide +kernel
theorem dX1_passFill_1 : decode cX1_passFill 1 = .ok (.getfield 12, 3) := by decide +kernel
theorem dX1_passFill_4 : decode cX1_passFill 4 = .ok (.getfield 91, 3) := by decide +kernel
theorem dX1_passFill_7 : decode cX1_passFill 7 = .ok (.iload_n 3, 1) := by decide +kernel
theorem dX1_passFill_8 : decode cX1_passFill 8 = .ok (.iaload, 1) := by decide +kernel
theorem dX1_passFill_9 : decode cX1_passFill 9 = .ok (.aload_n 0, 1) := by decide +kernel
theorem dX1_passFill_10 : decode cX1_passFill 10 = .ok (.getfield 12, 3) := by decide +kernel
theorem dX1_passFill_13 : decode cX1_passFill 13 = .ok (.getfield 94, 3) := by decide +kernel
theorem dX1_passFill_16 : decode cX1_passFill 16 = .ok (.iload 4, 2) := by decide +kernel
theorem dX1_passFill_18 : decode cX1_passFill 18 = .ok (.iaload, 1) := by decide +kernel
theorem dX1_passFill_19 : decode cX1_passFill 19 = .ok (.if_icmp .lt 5, 3) := by decide +kernel
theorem dX1_passFill_22 : decode cX1_passFill 22 = .ok (.iconst 0, 1) := by decide +kernel
theorem dX1_passFill_23 : decode cX1_passFill 23 = .ok (.ireturn, 1) := by decide +kernel
theorem dX1_passFill_24 : decode cX1_passFill 24 = .ok (.aload_n 0, 1) := by decide +kernel
theorem dX1_passFill_25 : decode cX1_passFill 25 = .ok (.getfield 12, 3) := by decide +kernel
theorem dX1_passFill_28 : decode cX1_passFill 28 = .ok (.getfield 109, 3) := by decide +kernel
theorem dX1_passFill_31 : decode cX1_passFill 31 = .ok (.iload_n 1, 1) := by decide +kernel
theorem dX1_passFill_32 : decode cX1_passFill 32 = .ok (.laload, 1) := by decide +kernel
theorem dX1_passFill_33 : decode cX1_passFill 33 = .ok (.lstore 6, 2) := by decide +kernel
theorem dX1_passFill_35 : decode cX1_passFill 35 = .ok (.aload_n 0, 1) := by decide +kernel
theorem dX1_passFill_36 : decode cX1_passFill 36 = .ok (.getfield 12, 3) := by decide +kernel
theorem dX1_passFill_39 : decode cX1_passFill 39 = .ok (.lload 6, 2) := by decide +kernel
theorem dX1_passFill_41 : decode cX1_passFill 41 = .ok (.iload_n 2, 1) := by decide +kernel
theorem dX1_passFill_42 : decode cX1_passFill 42 = .ok (.invokevirtual 228, 3) := by decide +kernel
theorem dX1_passFill_45 : decode cX1_passFill 45 = .ok (.lstore 8, 2) := by decide +kernel
theorem dX1_passFill_47 : decode cX1_passFill 47 = .ok (.lload 6, 2) := by decide +kernel
theorem dX1_passFill_49 : decode cX1_passFill 49 = .ok (.invokestatic 186, 3) := by decide +kernel
theorem dX1_passFill_52 : decode cX1_passFill 52 = .ok (.iconst 1, 1) := by decide +kernel
theorem dX1_passFill_53 : decode cX1_passFill 53 = .ok (.if_icmp .ne 7, 3) := by decide +kernel
theorem dX1_passFill_56 : decode cX1_passFill 56 = .ok (.iconst 1, 1) := by decide +kernel
theorem dX1_passFill_57 : decode cX1_passFill 57 = .ok (.goto 4, 3) := by decide +kernel
theorem dX1_passFill_60 : decode cX1_passFill 60 = .ok (.iconst 0, 1) := by decide +kernel
theorem dX1_passFill_61 : decode cX1_passFill 61 = .ok (.istore 10, 2) := by decide +kernel
theorem dX1_passFill_63 : decode cX1_passFill 63 = .ok (.aload_n 0, 1) := by decide +kernel
theorem dX1_passFill_64 : decode cX1_passFill 64 = .ok (.getfield 12, 3) := by decide +kernel
theorem dX1_passFill_67 : decode cX1_passFill 67 = .ok (.iload_n 2, 1) := by decide +kernel
theorem dX1_passFill_68 : decode cX1_passFill 68 = .ok (.iload 5, 2) := by decide +kernel
theorem dX1_passFill_70 : decode cX1_passFill 70 = .ok (.invokevirtual 194, 3) := by decide +kernel
theorem dX1_passFill_73 : decode cX1_passFill 73 = .ok (.istore 11, 2) := by decide +kernel
theorem dX1_passFill_75 : decode cX1_passFill 75 = .ok (.aload_n 0, 1) := by decide +kernel
theorem dX1_passFill_76 : decode cX1_passFill 76 = .ok (.getfield 12, 3) := by decide +kernel
theorem dX1_passFill_79 : decode cX1_passFill 79 = .ok (.iload_n 2, 1) := by decide +kernel
theorem dX1_passFill_80 : decode cX1_passFill 80 = .ok (.iload 5, 2) := by decide +kernel
theorem dX1_passFill_82 : decode cX1_passFill 82 = .ok (.invokevirtual 197, 3) := by decide +kernel
theorem dX1_passFill_85 : decode cX1_passFill 85 = .ok (.istore 12, 2) := by decide +kernel
theorem dX1_passFill_87 : decode cX1_passFill 87 = .ok (.iconst 0, 1) := by decide +kernel
theorem dX1_passFill_88 : decode cX1_passFill 88 = .ok (.istore 13, 2) := by decide +kernel
theorem dX1_passFill_90 : decode cX1_passFill 90 = .ok (.iload 13, 2) := by decide +kernel
theorem dX1_passFill_92 : decode cX1_passFill 92 = .ok (.bipush 40, 2) := by decide +kernel
theorem dX1_passFill_94 : decode cX1_passFill 94 = .ok (.if_icmp .ge 118, 3) := by decide +kernel
theorem dX1_passFill_97 : decode cX1_passFill 97 = .ok (.lload 8, 2) := by decide +kernel
theorem dX1_passFill_99 : decode cX1_passFill 99 = .ok (.iload 13, 2) := by decide +kernel
theorem dX1_passFill_101 : decode cX1_passFill 101 = .ok (.invokestatic 155, 3) := by decide +kernel
theorem dX1_passFill_104 : decode cX1_passFill 104 = .ok (.ifCond .eq 102, 3) := by decide +kernel
theorem dX1_passFill_107 : decode cX1_passFill 107 = .ok (.aload_n 0, 1) := by decide +kernel
theorem dX1_passFill_108 : decode cX1_passFill 108 = .ok (.getfield 12, 3) := by decide +kernel
theorem dX1_passFill_111 : decode cX1_passFill 111 = .ok (.iload 13, 2) := by decide +kernel
theorem dX1_passFill_113 : decode cX1_passFill 113 = .ok (.aload_n 0, 1) := by decide +kernel
theorem dX1_passFill_114 : decode cX1_passFill 114 = .ok (.getfield 12, 3) := by decide +kernel
theorem dX1_passFill_117 : decode cX1_passFill 117 = .ok (.getfield 91, 3) := by decide +kernel
theorem dX1_passFill_120 : decode cX1_passFill 120 = .ok (.iload_n 3, 1) := by decide +kernel
theorem dX1_passFill_121 : decode cX1_passFill 121 = .ok (.iaload, 1) := by decide +kernel
theorem dX1_passFill_122 : decode cX1_passFill 122 = .ok (.aload_n 0, 1) := by decide +kernel
theorem dX1_passFill_123 : decode cX1_passFill 123 = .ok (.getfield 12, 3) := by decide +kernel
theorem dX1_passFill_126 : decode cX1_passFill 126 = .ok (.getfield 94, 3) := by decide +kernel
theorem dX1_passFill_129 : decode cX1_passFill 129 = .ok (.iload 4, 2) := by decide +kernel
theorem dX1_passFill_131 : decode cX1_passFill 131 = .ok (.iaload, 1) := by decide +kernel
theorem dX1_passFill_132 : decode cX1_passFill 132 = .ok (.aload_n 0, 1) := by decide +kernel
theorem dX1_passFill_133 : decode cX1_passFill 133 = .ok (.getfield 12, 3) := by decide +kernel
theorem dX1_passFill_136 : decode cX1_passFill 136 = .ok (.getfield 200, 3) := by decide +kernel
theorem dX1_passFill_139 : decode cX1_passFill 139 = .ok (.iload 13, 2) := by decide +kernel
theorem dX1_passFill_141 : decode cX1_passFill 141 = .ok (.iaload, 1) := by decide +kernel
theorem dX1_passFill_142 : decode cX1_passFill 142 = .ok (.invokestatic 166, 3) := by decide +kernel
theorem dX1_passFill_145 : decode cX1_passFill 145 = .ok (.i2l, 1) := by decide +kernel
theorem dX1_passFill_146 : decode cX1_passFill 146 = .ok (.iload 11, 2) := by decide +kernel
theorem dX1_passFill_148 : decode cX1_passFill 148 = .ok (.iload 12, 2) := by decide +kernel
theorem dX1_passFill_150 : decode cX1_passFill 150 = .ok (.iconst 0, 1) := by decide +kernel
theorem dX1_passFill_151 : decode cX1_passFill 151 = .ok (.invokevirtual 206, 3) := by decide +kernel
theorem dX1_passFill_154 : decode cX1_passFill 154 = .ok (.iload 10, 2) := by decide +kernel
theorem dX1_passFill_156 : decode cX1_passFill 156 = .ok (.ifCond .eq 50, 3) := by decide +kernel
theorem dX1_passFill_159 : decode cX1_passFill 159 = .ok (.aload_n 0, 1) := by decide +kernel
theorem dX1_passFill_160 : decode cX1_passFill 160 = .ok (.getfield 12, 3) := by decide +kernel
theorem dX1_passFill_163 : decode cX1_passFill 163 = .ok (.iload 13, 2) := by decide +kernel
theorem dX1_passFill_165 : decode cX1_passFill 165 = .ok (.aload_n 0, 1) := by decide +kernel
theorem dX1_passFill_166 : decode cX1_passFill 166 = .ok (.getfield 12, 3) := by decide +kernel
theorem dX1_passFill_169 : decode cX1_passFill 169 = .ok (.getfield 94, 3) := by decide +kernel
theorem dX1_passFill_172 : decode cX1_passFill 172 = .ok (.iload_n 3, 1) := by decide +kernel
theorem dX1_passFill_173 : decode cX1_passFill 173 = .ok (.iaload, 1) := by decide +kernel
theorem dX1_passFill_174 : decode cX1_passFill 174 = .ok (.aload_n 0, 1) := by decide +kernel
theorem dX1_passFill_175 : decode cX1_passFill 175 = .ok (.getfield 12, 3) := by decide +kernel
theorem dX1_passFill_178 : decode cX1_passFill 178 = .ok (.getfield 91, 3) := by decide +kernel
theorem dX1_passFill_181 : decode cX1_passFill 181 = .ok (.iload 4, 2) := by decide +kernel
theorem dX1_passFill_183 : decode cX1_passFill 183 = .ok (.iaload, 1) := by decide +kernel
theorem dX1_passFill_184 : decode cX1_passFill 184 = .ok (.aload_n 0, 1) := by decide +kernel
theorem dX1_passFill_185 : decode cX1_passFill 185 = .ok (.getfield 12, 3) := by decide +kernel
theorem dX1_passFill_188 : decode cX1_passFill 188 = .ok (.getfield 200, 3) := by decide +kernel
theorem dX1_passFill_191 : decode cX1_passFill 191 = .ok (.iload 13, 2) := by decide +kernel
theorem dX1_passFill_193 : decode cX1_passFill 193 = .ok (.iaload, 1) := by decide +kernel
theorem dX1_passFill_194 : decode cX1_passFill 194 = .ok (.invokestatic 166, 3) := by decide +kernel
theorem dX1_passFill_197 : decode cX1_passFill 197 = .ok (.i2l, 1) := by decide +kernel
theorem dX1_passFill_198 : decode cX1_passFill 198 = .ok (.iload 11, 2) := by decide +kernel
theorem dX1_passFill_200 : decode cX1_passFill 200 = .ok (.iload 12, 2) := by decide +kernel
theorem dX1_passFill_202 : decode cX1_passFill 202 = .ok (.iconst 1, 1) := by decide +kernel
theorem dX1_passFill_203 : decode cX1_passFill 203 = .ok (.invokevirtual 206, 3) := by decide +kernel
theorem dX1_passFill_206 : decode cX1_passFill 206 = .ok (.iinc 13 1, 3) := by decide +kernel
theorem dX1_passFill_209 : decode cX1_passFill 209 = .ok (.goto (-119), 3) := by decide +kernel
theorem dX1_passFill_212 : decode cX1_passFill 212 = .ok (.aload_n 0, 1) := by decide +kernel
theorem dX1_passFill_213 : decode cX1_passFill 213 = .ok (.getfield 12, 3) := by decide +kernel
theorem dX1_passFill_216 : decode cX1_passFill 216 = .ok (.getfield 91, 3) := by decide +kernel
theorem dX1_passFill_219 : decode cX1_passFill 219 = .ok (.iload_n 3, 1) := by decide +kernel
theorem dX1_passFill_220 : decode cX1_passFill 220 = .ok (.iaload, 1) := by decide +kernel
theorem dX1_passFill_221 : decode cX1_passFill 221 = .ok (.ifCond .lt 26, 3) := by decide +kernel
theorem dX1_passFill_224 : decode cX1_passFill 224 = .ok (.aload_n 0, 1) := by decide +kernel
theorem dX1_passFill_225 : decode cX1_passFill 225 = .ok (.getfield 12, 3) := by decide +kernel
theorem dX1_passFill_228 : decode cX1_passFill 228 = .ok (.lload 6, 2) := by decide +kernel
theorem dX1_passFill_230 : decode cX1_passFill 230 = .ok (.aload_n 0, 1) := by decide +kernel
theorem dX1_passFill_231 : decode cX1_passFill 231 = .ok (.getfield 12, 3) := by decide +kernel
theorem dX1_passFill_234 : decode cX1_passFill 234 = .ok (.getfield 94, 3) := by decide +kernel
theorem dX1_passFill_237 : decode cX1_passFill 237 = .ok (.iload 4, 2) := by decide +kernel
theorem dX1_passFill_239 : decode cX1_passFill 239 = .ok (.iaload, 1) := by decide +kernel
theorem dX1_passFill_240 : decode cX1_passFill 240 = .ok (.i2l, 1) := by decide +kernel
theorem dX1_passFill_241 : decode cX1_passFill 241 = .ok (.invokevirtual 232, 3) := by decide +kernel
theorem dX1_passFill_244 : decode cX1_passFill 244 = .ok (.ifCond .eq 7, 3) := by decide +kernel
theorem dX1_passFill_247 : decode cX1_passFill 247 = .ok (.iconst 1, 1) := by decide +kernel
theorem dX1_passFill_248 : decode cX1_passFill 248 = .ok (.goto 4, 3) := by decide +kernel
theorem dX1_passFill_251 : decode cX1_passFill 251 = .ok (.iconst 0, 1) := by decide +kernel
theorem dX1_passFill_252 : decode cX1_passFill 252 = .ok (.istore 13, 2) := by decide +kernel
theorem dX1_passFill_254 : decode cX1_passFill 254 = .ok (.aload_n 0, 1) := by decide +kernel
theorem dX1_passFill_255 : decode cX1_passFill 255 = .ok (.iload_n 1, 1) := by decide +kernel
theorem dX1_passFill_256 : decode cX1_passFill 256 = .ok (.iload_n 2, 1) := by decide +kernel
theorem dX1_passFill_257 : decode cX1_passFill 257 = .ok (.iload 13, 2) := by decide +kernel
theorem dX1_passFill_259 : decode cX1_passFill 259 = .ok (.invokevirtual 179, 3) := by decide +kernel
theorem dX1_passFill_262 : decode cX1_passFill 262 = .ok (.ireturn, 1) := by decide +kernel
theorem dX1_mayMiss_0 : decode cX1_mayMiss 0 = .ok (.aload_n 0, 1) := by decide +kernel
theorem dX1_mayMiss_1 : decode cX1_mayMiss 1 = .ok (.getfield 12, 3) := by decide +kernel
theorem dX1_mayMiss_4 : decode cX1_mayMiss 4 = .ok (.getfield 91, 3) := by decide +kernel
theorem dX1_mayMiss_7 : decode cX1_mayMiss 7 = .ok (.iload_n 2, 1) := by decide +kernel
theorem dX1_mayMiss_8 : decode cX1_mayMiss 8 = .ok (.iaload, 1) := by decide +kernel
theorem dX1_mayMiss_9 : decode cX1_mayMiss 9 = .ok (.ifCond .lt 34, 3) := by decide +kernel
theorem dX1_mayMiss_12 : decode cX1_mayMiss 12 = .ok (.aload_n 0, 1) := by decide +kernel
theorem dX1_mayMiss_13 : decode cX1_mayMiss 13 = .ok (.getfield 12, 3) := by decide +kernel
theorem dX1_mayMiss_16 : decode cX1_mayMiss 16 = .ok (.aload_n 0, 1) := by decide +kernel
theorem dX1_mayMiss_17 : decode cX1_mayMiss 17 = .ok (.getfield 12, 3) := by decide +kernel
theorem dX1_mayMiss_20 : decode cX1_mayMiss 20 = .ok (.getfield 109, 3) := by decide +kernel
theorem dX1_mayMiss_23 : decode cX1_mayMiss 23 = .ok (.iload_n 1, 1) := by decide +kernel
theorem dX1_mayMiss_24 : decode cX1_mayMiss 24 = .ok (.laload, 1) := by decide +kernel
theorem dX1_mayMiss_25 : decode cX1_mayMiss 25 = .ok (.aload_n 0, 1) := by decide +kernel
theorem dX1_mayMiss_26 : decode cX1_mayMiss 26 = .ok (.getfield 12, 3) := by decide +kernel
theorem dX1_mayMiss_29 : decode cX1_mayMiss 29 = .ok (.getfield 94, 3) := by decide +kernel
theorem dX1_mayMiss_32 : decode cX1_mayMiss 32 = .ok (.iload_n 2, 1) := by decide +kernel
theorem dX1_mayMiss_33 : decode cX1_mayMiss 33 = .ok (.iaload, 1) := by decide +kernel
theorem dX1_mayMiss_34 : decode cX1_mayMiss 34 = .ok (.i2l, 1) := by decide +kernel
theorem dX1_mayMiss_35 : decode cX1_mayMiss 35 = .ok (.lconst 1, 1) := by decide +kernel
theorem dX1_mayMiss_36 : decode cX1_mayMiss 36 = .ok (.ladd, 1) := by decide +kernel
theorem dX1_mayMiss_37 : decode cX1_mayMiss 37 = .ok (.invokevirtual 232, 3) := by decide +kernel
theorem dX1_mayMiss_40 : decode cX1_mayMiss 40 = .ok (.ifCond .eq 7, 3) := by decide +kernel
theorem dX1_mayMiss_43 : decode cX1_mayMiss 43 = .ok (.iconst 1, 1) := by decide +kernel
theorem dX1_mayMiss_44 : decode cX1_mayMiss 44 = .ok (.goto 4, 3) := by decide +kernel
theorem dX1_mayMiss_47 : decode cX1_mayMiss 47 = .ok (.iconst 0, 1) := by decide +kernel
theorem dX1_mayMiss_48 : decode cX1_mayMiss 48 = .ok (.ireturn, 1) := by decide +kernel
theorem dX1_useThrows_0 : decode cX1_useThrows 0 = .ok (.aload_n 0, 1) := by decide +kernel
theorem dX1_useThrows_1 : decode cX1_useThrows 1 = .ok (.getfield 12, 3) := by decide +kernel
theorem dX1_useThrows_4 : decode cX1_useThrows 4 = .ok (.aload_n 0, 1) := by decide +kernel
theorem dX1_useThrows_5 : decode cX1_useThrows 5 = .ok (.getfield 12, 3) := by decide +kernel
theorem dX1_useThrows_8 : decode cX1_useThrows 8 = .ok (.getfield 109, 3) := by decide +kernel
theorem dX1_useThrows_11 : decode cX1_useThrows 11 = .ok (.iload_n 1, 1) := by decide +kernel
theorem dX1_useThrows_12 : decode cX1_useThrows 12 = .ok (.laload, 1) := by decide +kernel
theorem dX1_useThrows_13 : decode cX1_useThrows 13 = .ok (.invokevirtual 236, 3) := by decide +kernel
theorem dX1_useThrows_16 : decode cX1_useThrows 16 = .ok (.iconst 1, 1) := by decide +kernel
theorem dX1_useThrows_17 : decode cX1_useThrows 17 = .ok (.iload_n 2, 1) := by decide +kernel
theorem dX1_useThrows_18 : decode cX1_useThrows 18 = .ok (.ishl, 1) := by decide +kernel
theorem dX1_useThrows_19 : decode cX1_useThrows 19 = .ok (.iconst (-1), 1) := by decide +kernel
theorem dX1_useThrows_20 : decode cX1_useThrows 20 = .ok (.ixor, 1) := by decide +kernel
theorem dX1_useThrows_21 : decode cX1_useThrows 21 = .ok (.iand, 1) := by decide +kernel
theorem dX1_useThrows_22 : decode cX1_useThrows 22 = .ok (.ifCond .eq 7, 3) := by decide +kernel
theorem dX1_useThrows_25 : decode cX1_useThrows 25 = .ok (.iconst 1, 1) := by decide +kernel
theorem dX1_useThrows_26 : decode cX1_useThrows 26 = .ok (.goto 4, 3) := by decide +kernel
theorem dX1_useThrows_29 : decode cX1_useThrows 29 = .ok (.iconst 0, 1) := by decide +kernel
theorem dX1_useThrows_30 : decode cX1_useThrows 30 = .ok (.istore 4, 2) := by decide +kernel
theorem dX1_useThrows_32 : decode cX1_useThrows 32 = .ok (.aload_n 0, 1) := by decide +kernel
theorem dX1_useThrows_33 : decode cX1_useThrows 33 = .ok (.iload_n 1, 1) := by decide +kernel
theorem dX1_useThrows_34 : decode cX1_useThrows 34 = .ok (.invokevirtual 148, 3) := by decide +kernel
theorem dX1_useThrows_37 : decode cX1_useThrows 37 = .ok (.iload 4, 2) := by decide +kernel
theorem dX1_useThrows_39 : decode cX1_useThrows 39 = .ok (.iconst 2, 1) := by decide +kernel
theorem dX1_useThrows_40 : decode cX1_useThrows 40 = .ok (.invokestatic 137, 3) := by decide +kernel
theorem dX1_useThrows_43 : decode cX1_useThrows 43 = .ok (.ior, 1) := by decide +kernel
theorem dX1_useThrows_44 : decode cX1_useThrows 44 = .ok (.iload_n 3, 1) := by decide +kernel
theorem dX1_useThrows_45 : decode cX1_useThrows 45 = .ok (.iconst 5, 1) := by decide +kernel
theorem dX1_useThrows_46 : decode cX1_useThrows 46 = .ok (.invokestatic 137, 3) := by decide +kernel
theorem dX1_useThrows_49 : decode cX1_useThrows 49 = .ok (.ior, 1) := by decide +kernel
theorem dX1_useThrows_50 : decode cX1_useThrows 50 = .ok (.ireturn, 1) := by decide +kernel
theorem dX1_copyThrows_0 : decode cX1_copyThrows 0 = .ok (.aload_n 0, 1) := by decide +kernel
theorem dX1_copyThrows_1 : decode cX1_copyThrows 1 = .ok (.getfield 12, 3) := by decide +kernel
theorem dX1_copyThrows_4 : decode cX1_copyThrows 4 = .ok (.aload_n 0, 1) := by decide +kernel
theorem dX1_copyThrows_5 : decode cX1_copyThrows 5 = .ok (.getfield 12, 3) := by decide +kernel
theorem dX1_copyThrows_8 : decode cX1_copyThrows 8 = .ok (.getfield 109, 3) := by decide +kernel
theorem dX1_copyThrows_11 : decode cX1_copyThrows 11 = .ok (.iload_n 1, 1) := by decide +kernel
theorem dX1_copyThrows_12 : decode cX1_copyThrows 12 = .ok (.laload, 1) := by decide +kernel
theorem dX1_copyThrows_13 : decode cX1_copyThrows 13 = .ok (.invokevirtual 236, 3) := by decide +kernel
theorem dX1_copyThrows_16 : decode cX1_copyThrows 16 = .ok (.istore 6, 2) := by decide +kernel
theorem dX1_copyThrows_18 : decode cX1_copyThrows 18 = .ok (.aload_n 0, 1) := by decide +kernel
theorem dX1_copyThrows_19 : decode cX1_copyThrows 19 = .ok (.getfield 12, 3) := by decide +kernel
theorem dX1_copyThrows_22 : decode cX1_copyThrows 22 = .ok (.aload_n 0, 1) := by decide +kernel
theorem dX1_copyThrows_23 : decode cX1_copyThrows 23 = .ok (.getfield 12, 3) := by decide +kernel
theorem dX1_copyThrows_26 : decode cX1_copyThrows 26 = .ok (.getfield 109, 3) := by decide +kernel
theorem dX1_copyThrows_29 : decode cX1_copyThrows 29 = .ok (.iload_n 3, 1) := by decide +kernel
theorem dX1_copyThrows_30 : decode cX1_copyThrows 30 = .ok (.laload, 1) := by decide +kernel
theorem dX1_copyThrows_31 : decode cX1_copyThrows 31 = .ok (.invokevirtual 236, 3) := by decide +kernel
theorem dX1_copyThrows_34 : decode cX1_copyThrows 34 = .ok (.istore 7, 2) := by decide +kernel
theorem dX1_copyThrows_36 : decode cX1_copyThrows 36 = .ok (.iload 6, 2) := by decide +kernel
theorem dX1_copyThrows_38 : decode cX1_copyThrows 38 = .ok (.ifCond .eq 24, 3) := by decide +kernel
theorem dX1_copyThrows_41 : decode cX1_copyThrows 41 = .ok (.iload 7, 2) := by decide +kernel
theorem dX1_copyThrows_43 : decode cX1_copyThrows 43 = .ok (.ifCond .eq 19, 3) := by decide +kernel
theorem dX1_copyThrows_46 : decode cX1_copyThrows 46 = .ok (.iload 6, 2) := by decide +kernel
theorem dX1_copyThrows_48 : decode cX1_copyThrows 48 = .ok (.iload 7, 2) := by decide +kernel
theorem dX1_copyThrows_50 : decode cX1_copyThrows 50 = .ok (.ior, 1) := by decide +kernel
theorem dX1_copyThrows_51 : decode cX1_copyThrows 51 = .ok (.invokestatic 239, 3) := by decide +kernel
theorem dX1_copyThrows_54 : decode cX1_copyThrows 54 = .ok (.iconst 1, 1) := by decide +kernel
theorem dX1_copyThrows_55 : decode cX1_copyThrows 55 = .ok (.if_icmp .le 7, 3) := by decide +kernel
theorem dX1_copyThrows_58 : decode cX1_copyThrows 58 = .ok (.iconst 1, 1) := by decide +kernel
theorem dX1_copyThrows_59 : decode cX1_copyThrows 59 = .ok (.goto 4, 3) := by decide +kernel
theorem dX1_copyThrows_62 : decode cX1_copyThrows 62 = .ok (.iconst 0, 1) := by decide +kernel
theorem dX1_copyThrows_63 : decode cX1_copyThrows 63 = .ok (.istore 8, 2) := by decide +kernel
theorem dX1_copyThrows_65 : decode cX1_copyThrows 65 = .ok (.aload_n 0, 1) := by decide +kernel
theorem dX1_copyThrows_66 : decode cX1_copyThrows 66 = .ok (.getfield 12, 3) := by decide +kernel
theorem dX1_copyThrows_69 : decode cX1_copyThrows 69 = .ok (.getfield 91, 3) := by decide +kernel
theorem dX1_copyThrows_72 : decode cX1_copyThrows 72 = .ok (.iload_n 2, 1) := by decide +kernel
theorem dX1_copyThrows_73 : decode cX1_copyThrows 73 = .ok (.iaload, 1) := by decide +kernel
theorem dX1_copyThrows_74 : decode cX1_copyThrows 74 = .ok (.ifCond .lt 112, 3) := by decide +kernel
theorem dX1_copyThrows_77 : decode cX1_copyThrows 77 = .ok (.aload_n 0, 1) := by decide +kernel
theorem dX1_copyThrows_78 : decode cX1_copyThrows 78 = .ok (.getfield 12, 3) := by decide +kernel
theorem dX1_copyThrows_81 : decode cX1_copyThrows 81 = .ok (.getfield 91, 3) := by decide +kernel
theorem dX1_copyThrows_84 : decode cX1_copyThrows 84 = .ok (.iload 4, 2) := by decide +kernel
theorem dX1_copyThrows_86 : decode cX1_copyThrows 86 = .ok (.iaload, 1) := by decide +kernel
theorem dX1_copyThrows_87 : decode cX1_copyThrows 87 = .ok (.ifCond .lt 99, 3) := by decide +kernel
theorem dX1_copyThrows_90 : decode cX1_copyThrows 90 = .ok (.aload_n 0, 1) := by decide +kernel
theorem dX1_copyThrows_91 : decode cX1_copyThrows 91 = .ok (.getfield 12, 3) := by decide +kernel
theorem dX1_copyThrows_94 : decode cX1_copyThrows 94 = .ok (.getfield 91, 3) := by decide +kernel
theorem dX1_copyThrows_97 : decode cX1_copyThrows 97 = .ok (.iload 5, 2) := by decide +kernel
theorem dX1_copyThrows_99 : decode cX1_copyThrows 99 = .ok (.iaload, 1) := by decide +kernel
theorem dX1_copyThrows_100 : decode cX1_copyThrows 100 = .ok (.ifCond .lt 86, 3) := by decide +kernel
theorem dX1_copyThrows_103 : decode cX1_copyThrows 103 = .ok (.aload_n 0, 1) := by decide +kernel
theorem dX1_copyThrows_104 : decode cX1_copyThrows 104 = .ok (.getfield 12, 3) := by decide +kernel
theorem dX1_copyThrows_107 : decode cX1_copyThrows 107 = .ok (.aload_n 0, 1) := by decide +kernel
theorem dX1_copyThrows_108 : decode cX1_copyThrows 108 = .ok (.getfield 12, 3) := by decide +kernel
theorem dX1_copyThrows_111 : decode cX1_copyThrows 111 = .ok (.getfield 109, 3) := by decide +kernel
theorem dX1_copyThrows_114 : decode cX1_copyThrows 114 = .ok (.iload_n 1, 1) := by decide +kernel
theorem dX1_copyThrows_115 : decode cX1_copyThrows 115 = .ok (.laload, 1) := by decide +kernel
theorem dX1_copyThrows_116 : decode cX1_copyThrows 116 = .ok (.aload_n 0, 1) := by decide +kernel
theorem dX1_copyThrows_117 : decode cX1_copyThrows 117 = .ok (.getfield 12, 3) := by decide +kernel
theorem dX1_copyThrows_120 : decode cX1_copyThrows 120 = .ok (.getfield 94, 3) := by decide +kernel
theorem dX1_copyThrows_123 : decode cX1_copyThrows 123 = .ok (.iload_n 2, 1) := by decide +kernel
theorem dX1_copyThrows_124 : decode cX1_copyThrows 124 = .ok (.iaload, 1) := by decide +kernel
theorem dX1_copyThrows_125 : decode cX1_copyThrows 125 = .ok (.i2l, 1) := by decide +kernel
theorem dX1_copyThrows_126 : decode cX1_copyThrows 126 = .ok (.aload_n 0, 1) := by decide +kernel
theorem dX1_copyThrows_127 : decode cX1_copyThrows 127 = .ok (.getfield 12, 3) := by decide +kernel
theorem dX1_copyThrows_130 : decode cX1_copyThrows 130 = .ok (.getfield 94, 3) := by decide +kernel
theorem dX1_copyThrows_133 : decode cX1_copyThrows 133 = .ok (.iload 5, 2) := by decide +kernel
theorem dX1_copyThrows_135 : decode cX1_copyThrows 135 = .ok (.iaload, 1) := by decide +kernel
theorem dX1_copyThrows_136 : decode cX1_copyThrows 136 = .ok (.i2l, 1) := by decide +kernel
theorem dX1_copyThrows_137 : decode cX1_copyThrows 137 = .ok (.ladd, 1) := by decide +kernel
theorem dX1_copyThrows_138 : decode cX1_copyThrows 138 = .ok (.invokevirtual 232, 3) := by decide +kernel
theorem dX1_copyThrows_141 : decode cX1_copyThrows 141 = .ok (.ifCond .ne 45, 3) := by decide +kernel
theorem dX1_copyThrows_144 : decode cX1_copyThrows 144 = .ok (.aload_n 0, 1) := by decide +kernel
theorem dX1_copyThrows_145 : decode cX1_copyThrows 145 = .ok (.getfield 12, 3) := by decide +kernel
theorem dX1_copyThrows_148 : decode cX1_copyThrows 148 = .ok (.aload_n 0, 1) := by decide +kernel
theorem dX1_copyThrows_149 : decode cX1_copyThrows 149 = .ok (.getfield 12, 3) := by decide +kernel
theorem dX1_copyThrows_152 : decode cX1_copyThrows 152 = .ok (.getfield 109, 3) := by decide +kernel
theorem dX1_copyThrows_155 : decode cX1_copyThrows 155 = .ok (.iload_n 3, 1) := by decide +kernel
theorem dX1_copyThrows_156 : decode cX1_copyThrows 156 = .ok (.laload, 1) := by decide +kernel
theorem dX1_copyThrows_157 : decode cX1_copyThrows 157 = .ok (.aload_n 0, 1) := by decide +kernel
theorem dX1_copyThrows_158 : decode cX1_copyThrows 158 = .ok (.getfield 12, 3) := by decide +kernel
theorem dX1_copyThrows_161 : decode cX1_copyThrows 161 = .ok (.getfield 94, 3) := by decide +kernel
theorem dX1_copyThrows_164 : decode cX1_copyThrows 164 = .ok (.iload 4, 2) := by decide +kernel
theorem dX1_copyThrows_166 : decode cX1_copyThrows 166 = .ok (.iaload, 1) := by decide +kernel
theorem dX1_copyThrows_167 : decode cX1_copyThrows 167 = .ok (.i2l, 1) := by decide +kernel
theorem dX1_copyThrows_168 : decode cX1_copyThrows 168 = .ok (.aload_n 0, 1) := by decide +kernel
theorem dX1_copyThrows_169 : decode cX1_copyThrows 169 = .ok (.getfield 12, 3) := by decide +kernel
theorem dX1_copyThrows_172 : decode cX1_copyThrows 172 = .ok (.getfield 94, 3) := by decide +kernel
theorem dX1_copyThrows_175 : decode cX1_copyThrows 175 = .ok (.iload 5, 2) := by decide +kernel
theorem dX1_copyThrows_177 : decode cX1_copyThrows 177 = .ok (.iaload, 1) := by decide +kernel
theorem dX1_copyThrows_178 : decode cX1_copyThrows 178 = .ok (.i2l, 1) := by decide +kernel
theorem dX1_copyThrows_179 : decode cX1_copyThrows 179 = .ok (.ladd, 1) := by decide +kernel
theorem dX1_copyThrows_180 : decode cX1_copyThrows 180 = .ok (.invokevirtual 232, 3) := by decide +kernel
theorem dX1_copyThrows_183 : decode cX1_copyThrows 183 = .ok (.ifCond .eq 7, 3) := by decide +kernel
theorem dX1_copyThrows_186 : decode cX1_copyThrows 186 = .ok (.iconst 1, 1) := by decide +kernel
theorem dX1_copyThrows_187 : decode cX1_copyThrows 187 = .ok (.goto 4, 3) := by decide +kernel
theorem dX1_copyThrows_190 : decode cX1_copyThrows 190 = .ok (.iconst 0, 1) := by decide +kernel
theorem dX1_copyThrows_191 : decode cX1_copyThrows 191 = .ok (.istore 9, 2) := by decide +kernel
theorem dX1_copyThrows_193 : decode cX1_copyThrows 193 = .ok (.aload_n 0, 1) := by decide +kernel
theorem dX1_copyThrows_194 : decode cX1_copyThrows 194 = .ok (.iload_n 1, 1) := by decide +kernel
theorem dX1_copyThrows_195 : decode cX1_copyThrows 195 = .ok (.invokevirtual 148, 3) := by decide +kernel
theorem dX1_copyThrows_198 : decode cX1_copyThrows 198 = .ok (.aload_n 0, 1) := by decide +kernel
theorem dX1_copyThrows_199 : decode cX1_copyThrows 199 = .ok (.iload_n 3, 1) := by decide +kernel
theorem dX1_copyThrows_200 : decode cX1_copyThrows 200 = .ok (.invokevirtual 148, 3) := by decide +kernel
theorem dX1_copyThrows_203 : decode cX1_copyThrows 203 = .ok (.ior, 1) := by decide +kernel
theorem dX1_copyThrows_204 : decode cX1_copyThrows 204 = .ok (.iload 8, 2) := by decide +kernel
theorem dX1_copyThrows_206 : decode cX1_copyThrows 206 = .ok (.iconst 4, 1) := by decide +kernel
theorem dX1_copyThrows_207 : decode cX1_copyThrows 207 = .ok (.invokestatic 137, 3) := by decide +kernel
theorem dX1_copyThrows_210 : decode cX1_copyThrows 210 = .ok (.ior, 1) := by decide +kernel
theorem dX1_copyThrows_211 : decode cX1_copyThrows 211 = .ok (.iload 9, 2) := by decide +kernel
theorem dX1_copyThrows_213 : decode cX1_copyThrows 213 = .ok (.iconst 5, 1) := by decide +kernel
theorem dX1_copyThrows_214 : decode cX1_copyThrows 214 = .ok (.invokestatic 137, 3) := by decide +kernel
theorem dX1_copyThrows_217 : decode cX1_copyThrows 217 = .ok (.ior, 1) := by decide +kernel
theorem dX1_copyThrows_218 : decode cX1_copyThrows 218 = .ok (.ireturn, 1) := by decide +kernel
theorem dX1_narrowPlace_0 : decode cX1_narrowPlace 0 = .ok (.aload_n 0, 1) := by decide +kernel
theorem dX1_narrowPlace_1 : decode cX1_narrowPlace 1 = .ok (.getfield 12, 3) := by decide +kernel
theorem dX1_narrowPlace_4 : decode cX1_narrowPlace 4 = .ok (.iload_n 1, 1) := by decide +kernel
theorem dX1_narrowPlace_5 : decode cX1_narrowPlace 5 = .ok (.aload_n 0, 1) := by decide +kernel
theorem dX1_narrowPlace_6 : decode cX1_narrowPlace 6 = .ok (.getfield 12, 3) := by decide +kernel
theorem dX1_narrowPlace_9 : decode cX1_narrowPlace 9 = .ok (.aload_n 0, 1) := by decide +kernel
theorem dX1_narrowPlace_10 : decode cX1_narrowPlace 10 = .ok (.getfield 12, 3) := by decide +kernel
theorem dX1_narrowPlace_13 : decode cX1_narrowPlace 13 = .ok (.getfield 109, 3) := by decide +kernel
theorem dX1_narrowPlace_16 : decode cX1_narrowPlace 16 = .ok (.iload_n 1, 1) := by decide +kernel
theorem dX1_narrowPlace_17 : decode cX1_narrowPlace 17 = .ok (.laload, 1) := by decide +kernel
theorem dX1_narrowPlace_18 : decode cX1_narrowPlace 18 = .ok (.iload_n 2, 1) := by decide +kernel
theorem dX1_narrowPlace_19 : decode cX1_narrowPlace 19 = .ok (.invokevirtual 228, 3) := by decide +kernel
theorem dX1_narrowPlace_22 : decode cX1_narrowPlace 22 = .ok (.invokevirtual 151, 3) := by decide +kernel
theorem dX1_narrowPlace_25 : decode cX1_narrowPlace 25 = .ok (.aload_n 0, 1) := by decide +kernel
theorem dX1_narrowPlace_26 : decode cX1_narrowPlace 26 = .ok (.getfield 12, 3) := by decide +kernel
theorem dX1_narrowPlace_29 : decode cX1_narrowPlace 29 = .ok (.iload_n 3, 1) := by decide +kernel
theorem dX1_narrowPlace_30 : decode cX1_narrowPlace 30 = .ok (.iconst 0, 1) := by decide +kernel
theorem dX1_narrowPlace_31 : decode cX1_narrowPlace 31 = .ok (.aload_n 0, 1) := by decide +kernel
theorem dX1_narrowPlace_32 : decode cX1_narrowPlace 32 = .ok (.getfield 12, 3) := by decide +kernel
theorem dX1_narrowPlace_35 : decode cX1_narrowPlace 35 = .ok (.aload_n 0, 1) := by decide +kernel
theorem dX1_narrowPlace_36 : decode cX1_narrowPlace 36 = .ok (.getfield 12, 3) := by decide +kernel
theorem dX1_narrowPlace_39 : decode cX1_narrowPlace 39 = .ok (.getfield 109, 3) := by decide +kernel
theorem dX1_narrowPlace_42 : decode cX1_narrowPlace 42 = .ok (.iload_n 1, 1) := by decide +kernel
theorem dX1_narrowPlace_43 : decode cX1_narrowPlace 43 = .ok (.laload, 1) := by decide +kernel
theorem dX1_narrowPlace_44 : decode cX1_narrowPlace 44 = .ok (.invokevirtual 171, 3) := by decide +kernel
theorem dX1_narrowPlace_47 : decode cX1_narrowPlace 47 = .ok (.iconst 1, 1) := by decide +kernel
theorem dX1_narrowPlace_48 : decode cX1_narrowPlace 48 = .ok (.isub, 1) := by decide +kernel
theorem dX1_narrowPlace_49 : decode cX1_narrowPlace 49 = .ok (.invokevirtual 141, 3) := by decide +kernel
theorem dX1_narrowPlace_52 : decode cX1_narrowPlace 52 = .ok (.return_, 1) := by decide +kernel
theorem dX1_gather_0 : decode cX1_gather 0 = .ok (.aload_n 0, 1) := by decide +kernel
theorem dX1_gather_1 : decode cX1_gather 1 = .ok (.iconst 0, 1) := by decide +kernel
theorem dX1_gather_2 : decode cX1_gather 2 = .ok (.putfield 33, 3) := by decide +kernel
theorem dX1_gather_5 : decode cX1_gather 5 = .ok (.iconst 0, 1) := by decide +kernel
theorem dX1_gather_6 : decode cX1_gather 6 = .ok (.istore 6, 2) := by decide +kernel
theorem dX1_gather_8 : decode cX1_gather 8 = .ok (.iload 6, 2) := by decide +kernel
theorem dX1_gather_10 : decode cX1_gather 10 = .ok (.bipush 40, 2) := by decide +kernel
theorem dX1_gather_12 : decode cX1_gather 12 = .ok (.if_icmp .ge 149, 3) := by decide +kernel
theorem dX1_gather_15 : decode cX1_gather 15 = .ok (.lload_n 1, 1) := by decide +kernel
theorem dX1_gather_16 : decode cX1_gather 16 = .ok (.iload 6, 2) := by decide +kernel
theorem dX1_gather_18 : decode cX1_gather 18 = .ok (.invokestatic 155, 3) := by decide +kernel
theorem dX1_gather_21 : decode cX1_gather 21 = .ok (.ifCond .ne 6, 3) := by decide +kernel
theorem dX1_gather_24 : decode cX1_gather 24 = .ok (.goto 131, 3) := by decide +kernel
theorem dX1_gather_27 : decode cX1_gather 27 = .ok (.iload_n 3, 1) := by decide +kernel
theorem dX1_gather_28 : decode cX1_gather 28 = .ok (.iconst 0, 1) := by decide +kernel
theorem dX1_gather_29 : decode cX1_gather 29 = .ok (.invokestatic 243, 3) := by decide +kernel
theorem dX1_gather_32 : decode cX1_gather 32 = .ok (.istore 7, 2) := by decide +kernel
theorem dX1_gather_34 : decode cX1_gather 34 = .ok (.iload 7, 2) := by decide +kernel
theorem dX1_gather_36 : decode cX1_gather 36 = .ok (.i2l, 1) := by decide +kernel
theorem dX1_gather_37 : decode cX1_gather 37 = .ok (.lload 4, 2) := by decide +kernel
theorem dX1_gather_39 : decode cX1_gather 39 = .ok (.lcmp, 1) := by decide +kernel
theorem dX1_gather_40 : decode cX1_gather 40 = .ok (.ifCond .ge 115, 3) := by decide +kernel
theorem dX1_gather_43 : decode cX1_gather 43 = .ok (.iload 7, 2) := by decide +kernel
theorem dX1_gather_45 : decode cX1_gather 45 = .ok (.aload_n 0, 1) := by decide +kernel
theorem dX1_gather_46 : decode cX1_gather 46 = .ok (.getfield 12, 3) := by decide +kernel
theorem dX1_gather_49 : decode cX1_gather 49 = .ok (.getfield 200, 3) := by decide +kernel
theorem dX1_gather_52 : decode cX1_gather 52 = .ok (.iload 6, 2) := by decide +kernel
theorem dX1_gather_54 : decode cX1_gather 54 = .ok (.iaload, 1) := by decide +kernel
theorem dX1_gather_55 : decode cX1_gather 55 = .ok (.if_icmp .ge 100, 3) := by decide +kernel
theorem dX1_gather_58 : decode cX1_gather 58 = .ok (.aload_n 0, 1) := by decide +kernel
theorem dX1_gather_59 : decode cX1_gather 59 = .ok (.getfield 12, 3) := by decide +kernel
theorem dX1_gather_62 : decode cX1_gather 62 = .ok (.getfield 246, 3) := by decide +kernel
theorem dX1_gather_65 : decode cX1_gather 65 = .ok (.iload 6, 2) := by decide +kernel
theorem dX1_gather_67 : decode cX1_gather 67 = .ok (.bipush 12, 2) := by decide +kernel
theorem dX1_gather_69 : decode cX1_gather 69 = .ok (.imul, 1) := by decide +kernel
theorem dX1_gather_70 : decode cX1_gather 70 = .ok (.iload 7, 2) := by decide +kernel
theorem dX1_gather_72 : decode cX1_gather 72 = .ok (.iadd, 1) := by decide +kernel
theorem dX1_gather_73 : decode cX1_gather 73 = .ok (.iaload, 1) := by decide +kernel
theorem dX1_gather_74 : decode cX1_gather 74 = .ok (.istore 8, 2) := by decide +kernel
theorem dX1_gather_76 : decode cX1_gather 76 = .ok (.aload_n 0, 1) := by decide +kernel
theorem dX1_gather_77 : decode cX1_gather 77 = .ok (.getfield 12, 3) := by decide +kernel
theorem dX1_gather_80 : decode cX1_gather 80 = .ok (.getfield 249, 3) := by decide +kernel
theorem dX1_gather_83 : decode cX1_gather 83 = .ok (.iload 6, 2) := by decide +kernel
theorem dX1_gather_85 : decode cX1_gather 85 = .ok (.bipush 12, 2) := by decide +kernel
theorem dX1_gather_87 : decode cX1_gather 87 = .ok (.imul, 1) := by decide +kernel
theorem dX1_gather_88 : decode cX1_gather 88 = .ok (.iload 7, 2) := by decide +kernel
theorem dX1_gather_90 : decode cX1_gather 90 = .ok (.iadd, 1) := by decide +kernel
theorem dX1_gather_91 : decode cX1_gather 91 = .ok (.iaload, 1) := by decide +kernel
theorem dX1_gather_92 : decode cX1_gather 92 = .ok (.istore 9, 2) := by decide +kernel
theorem dX1_gather_94 : decode cX1_gather 94 = .ok (.aload_n 0, 1) := by decide +kernel
theorem dX1_gather_95 : decode cX1_gather 95 = .ok (.aload_n 0, 1) := by decide +kernel
theorem dX1_gather_96 : decode cX1_gather 96 = .ok (.getfield 33, 3) := by decide +kernel
theorem dX1_gather_99 : decode cX1_gather 99 = .ok (.ifCond .eq 15, 3) := by decide +kernel
theorem dX1_gather_102 : decode cX1_gather 102 = .ok (.aload_n 0, 1) := by decide +kernel
theorem dX1_gather_103 : decode cX1_gather 103 = .ok (.getfield 36, 3) := by decide +kernel
theorem dX1_gather_106 : decode cX1_gather 106 = .ok (.iload 8, 2) := by decide +kernel
theorem dX1_gather_108 : decode cX1_gather 108 = .ok (.invokestatic 166, 3) := by decide +kernel
theorem dX1_gather_111 : decode cX1_gather 111 = .ok (.goto 5, 3) := by decide +kernel
theorem dX1_gather_114 : decode cX1_gather 114 = .ok (.iload 8, 2) := by decide +kernel
theorem dX1_gather_116 : decode cX1_gather 116 = .ok (.putfield 36, 3) := by decide +kernel
theorem dX1_gather_119 : decode cX1_gather 119 = .ok (.aload_n 0, 1) := by decide +kernel
theorem dX1_gather_120 : decode cX1_gather 120 = .ok (.aload_n 0, 1) := by decide +kernel
theorem dX1_gather_121 : decode cX1_gather 121 = .ok (.getfield 33, 3) := by decide +kernel
theorem dX1_gather_124 : decode cX1_gather 124 = .ok (.ifCond .eq 15, 3) := by decide +kernel
theorem dX1_gather_127 : decode cX1_gather 127 = .ok (.aload_n 0, 1) := by decide +kernel
theorem dX1_gather_128 : decode cX1_gather 128 = .ok (.getfield 40, 3) := by decide +kernel
theorem dX1_gather_131 : decode cX1_gather 131 = .ok (.iload 9, 2) := by decide +kernel
theorem dX1_gather_133 : decode cX1_gather 133 = .ok (.invokestatic 243, 3) := by decide +kernel
theorem dX1_gather_136 : decode cX1_gather 136 = .ok (.goto 5, 3) := by decide +kernel
theorem dX1_gather_139 : decode cX1_gather 139 = .ok (.iload 9, 2) := by decide +kernel
theorem dX1_gather_141 : decode cX1_gather 141 = .ok (.putfield 40, 3) := by decide +kernel
theorem dX1_gather_144 : decode cX1_gather 144 = .ok (.aload_n 0, 1) := by decide +kernel
theorem dX1_gather_145 : decode cX1_gather 145 = .ok (.iconst 1, 1) := by decide +kernel
theorem dX1_gather_146 : decode cX1_gather 146 = .ok (.putfield 33, 3) := by decide +kernel
theorem dX1_gather_149 : decode cX1_gather 149 = .ok (.iinc 7 1, 3) := by decide +kernel
theorem dX1_gather_152 : decode cX1_gather 152 = .ok (.goto (-118), 3) := by decide +kernel
theorem dX1_gather_155 : decode cX1_gather 155 = .ok (.iinc 6 1, 3) := by decide +kernel
theorem dX1_gather_158 : decode cX1_gather 158 = .ok (.goto (-150), 3) := by decide +kernel
theorem dX1_gather_161 : decode cX1_gather 161 = .ok (.return_, 1) := by decide +kernel
theorem dX1_nullBit_0 : decode cX1_nullBit 0 = .ok (.aload_n 0, 1) := by decide +kernel
theorem dX1_nullBit_1 : decode cX1_nullBit 1 = .ok (.getfield 12, 3) := by decide +kernel
theorem dX1_nullBit_4 : decode cX1_nullBit 4 = .ok (.getfield 113, 3) := by decide +kernel
theorem dX1_nullBit_7 : decode cX1_nullBit 7 = .ok (.iload_n 1, 1) := by decide +kernel
theorem dX1_nullBit_8 : decode cX1_nullBit 8 = .ok (.baload, 1) := by decide +kernel
theorem dX1_nullBit_9 : decode cX1_nullBit 9 = .ok (.iconst 1, 1) := by decide +kernel
theorem dX1_nullBit_10 : decode cX1_nullBit 10 = .ok (.invokestatic 137, 3) := by decide +kernel
theorem dX1_nullBit_13 : decode cX1_nullBit 13 = .ok (.ireturn, 1) := by decide +kernel
theorem dX1_bitIf_0 : decode cX1_bitIf 0 = .ok (.iload_n 0, 1) := by decide +kernel
theorem dX1_bitIf_1 : decode cX1_bitIf 1 = .ok (.ifCond .eq 9, 3) := by decide +kernel
theorem dX1_bitIf_4 : decode cX1_bitIf 4 = .ok (.iconst 1, 1) := by decide +kernel
theorem dX1_bitIf_5 : decode cX1_bitIf 5 = .ok (.iload_n 1, 1) := by decide +kernel
theorem dX1_bitIf_6 : decode cX1_bitIf 6 = .ok (.ishl, 1) := by decide +kernel
theorem dX1_bitIf_7 : decode cX1_bitIf 7 = .ok (.goto 4, 3) := by decide +kernel
theorem dX1_bitIf_10 : decode cX1_bitIf 10 = .ok (.iconst 0, 1) := by decide +kernel
theorem dX1_bitIf_11 : decode cX1_bitIf 11 = .ok (.ireturn, 1) := by decide +kernel
theorem dX1_firstSite_0 : decode cX1_firstSite 0 = .ok (.iconst 0, 1) := by decide +kernel
theorem dX1_firstSite_1 : decode cX1_firstSite 1 = .ok (.istore_n 2, 1) := by decide +kernel
theorem dX1_firstSite_2 : decode cX1_firstSite 2 = .ok (.iload_n 2, 1) := by decide +kernel
theorem dX1_firstSite_3 : decode cX1_firstSite 3 = .ok (.bipush 40, 2) := by decide +kernel
theorem dX1_firstSite_5 : decode cX1_firstSite 5 = .ok (.if_icmp .ge 19, 3) := by decide +kernel
theorem dX1_firstSite_8 : decode cX1_firstSite 8 = .ok (.lload_n 0, 1) := by decide +kernel
theorem dX1_firstSite_9 : decode cX1_firstSite 9 = .ok (.iload_n 2, 1) := by decide +kernel
theorem dX1_firstSite_10 : decode cX1_firstSite 10 = .ok (.invokestatic 155, 3) := by decide +kernel
theorem dX1_firstSite_13 : decode cX1_firstSite 13 = .ok (.ifCond .eq 5, 3) := by decide +kernel
theorem dX1_firstSite_16 : decode cX1_firstSite 16 = .ok (.iload_n 2, 1) := by decide +kernel
theorem dX1_firstSite_17 : decode cX1_firstSite 17 = .ok (.ireturn, 1) := by decide +kernel
theorem dX1_firstSite_18 : decode cX1_firstSite 18 = .ok (.iinc 2 1, 3) := by decide +kernel
theorem dX1_firstSite_21 : decode cX1_firstSite 21 = .ok (.goto (-19), 3) := by decide +kernel
theorem dX1_firstSite_24 : decode cX1_firstSite 24 = .ok (.iconst 0, 1) := by decide +kernel
theorem dX1_firstSite_25 : decode cX1_firstSite 25 = .ok (.ireturn, 1) := by decide +kernel
theorem dX2_init_0 : decode cX2_init 0 = .ok (.aload_n 0, 1) := by decide +kernel
theorem dX2_init_1 : decode cX2_init 1 = .ok (.invokespecial 3, 3) := by decide +kernel
theorem dX2_init_4 : decode cX2_init 4 = .ok (.aload_n 0, 1) := by decide +kernel
theorem dX2_init_5 : decode cX2_init 5 = .ok (.iconst 0, 1) := by decide +kernel
theorem dX2_init_6 : decode cX2_init 6 = .ok (.putfield 9, 3) := by decide +kernel
theorem dX2_init_9 : decode cX2_init 9 = .ok (.aload_n 0, 1) := by decide +kernel
theorem dX2_init_10 : decode cX2_init 10 = .ok (.iconst 0, 1) := by decide +kernel
theorem dX2_init_11 : decode cX2_init 11 = .ok (.putfield 15, 3) := by decide +kernel
theorem dX2_init_14 : decode cX2_init 14 = .ok (.aload_n 0, 1) := by decide +kernel
theorem dX2_init_15 : decode cX2_init 15 = .ok (.iconst (-1), 1) := by decide +kernel
theorem dX2_init_16 : decode cX2_init 16 = .ok (.putfield 19, 3) := by decide +kernel
theorem dX2_init_19 : decode cX2_init 19 = .ok (.aload_n 0, 1) := by decide +kernel
theorem dX2_init_20 : decode cX2_init 20 = .ok (.bipush 6, 2) := by decide +kernel
theorem dX2_init_22 : decode cX2_init 22 = .ok (.newarray .int, 2) := by decide +kernel
theorem dX2_init_24 : decode cX2_init 24 = .ok (.putfield 22, 3) := by decide +kernel
theorem dX2_init_27 : decode cX2_init 27 = .ok (.aload_n 0, 1) := by decide +kernel
theorem dX2_init_28 : decode cX2_init 28 = .ok (.bipush 6, 2) := by decide +kernel
theorem dX2_init_30 : decode cX2_init 30 = .ok (.newarray .int, 2) := by decide +kernel
theorem dX2_init_32 : decode cX2_init 32 = .ok (.putfield 26, 3) := by decide +kernel
theorem dX2_init_35 : decode cX2_init 35 = .ok (.aload_n 0, 1) := by decide +kernel
theorem dX2_init_36 : decode cX2_init 36 = .ok (.bipush 40, 2) := by decide +kernel
theorem dX2_init_38 : decode cX2_init 38 = .ok (.newarray .int, 2) := by decide +kernel
theorem dX2_init_40 : decode cX2_init 40 = .ok (.putfield 29, 3) := by decide +kernel
theorem dX2_init_43 : decode cX2_init 43 = .ok (.aload_n 0, 1) := by decide +kernel
theorem dX2_init_44 : decode cX2_init 44 = .ok (.bipush 40, 2) := by decide +kernel
theorem dX2_init_46 : decode cX2_init 46 = .ok (.newarray .int, 2) := by decide +kernel
theorem dX2_init_48 : decode cX2_init 48 = .ok (.putfield 32, 3) := by decide +kernel
theorem dX2_init_51 : decode cX2_init 51 = .ok (.aload_n 0, 1) := by decide +kernel
theorem dX2_init_52 : decode cX2_init 52 = .ok (.sipush 480, 3) := by decide +kernel
theorem dX2_init_55 : decode cX2_init 55 = .ok (.newarray .int, 2) := by decide +kernel
theorem dX2_init_57 : decode cX2_init 57 = .ok (.putfield 35, 3) := by decide +kernel
theorem dX2_init_60 : decode cX2_init 60 = .ok (.aload_n 0, 1) := by decide +kernel
theorem dX2_init_61 : decode cX2_init 61 = .ok (.lconst 0, 1) := by decide +kernel
theorem dX2_init_62 : decode cX2_init 62 = .ok (.putfield 38, 3) := by decide +kernel
theorem dX2_init_65 : decode cX2_init 65 = .ok (.aload_n 0, 1) := by decide +kernel
theorem dX2_init_66 : decode cX2_init 66 = .ok (.invokevirtual 42, 3) := by decide +kernel
theorem dX2_init_69 : decode cX2_init 69 = .ok (.return_, 1) := by decide +kernel
theorem dX2_forget_0 : decode cX2_forget 0 = .ok (.aload_n 0, 1) := by decide +kernel
theorem dX2_forget_1 : decode cX2_forget 1 = .ok (.iconst 0, 1) := by decide +kernel
theorem dX2_forget_2 : decode cX2_forget 2 = .ok (.putfield 9, 3) := by decide +kernel
theorem dX2_forget_5 : decode cX2_forget 5 = .ok (.aload_n 0, 1) := by decide +kernel
theorem dX2_forget_6 : decode cX2_forget 6 = .ok (.iconst 0, 1) := by decide +kernel
theorem dX2_forget_7 : decode cX2_forget 7 = .ok (.putfield 15, 3) := by decide +kernel
theorem dX2_forget_10 : decode cX2_forget 10 = .ok (.aload_n 0, 1) := by decide +kernel
theorem dX2_forget_11 : decode cX2_forget 11 = .ok (.iconst (-1), 1) := by decide +kernel
theorem dX2_forget_12 : decode cX2_forget 12 = .ok (.putfield 19, 3) := by decide +kernel
theorem dX2_forget_15 : decode cX2_forget 15 = .ok (.iconst 0, 1) := by decide +kernel
theorem dX2_forget_16 : decode cX2_forget 16 = .ok (.istore_n 1, 1) := by decide +kernel
theorem dX2_forget_17 : decode cX2_forget 17 = .ok (.iload_n 1, 1) := by decide +kernel
theorem dX2_forget_18 : decode cX2_forget 18 = .ok (.bipush 6, 2) := by decide +kernel
theorem dX2_forget_20 : decode cX2_forget 20 = .ok (.if_icmp .ge 16, 3) := by decide +kernel
theorem dX2_forget_23 : decode cX2_forget 23 = .ok (.aload_n 0, 1) := by decide +kernel
theorem dX2_forget_24 : decode cX2_forget 24 = .ok (.getfield 22, 3) := by decide +kernel
theorem dX2_forget_27 : decode cX2_forget 27 = .ok (.iload_n 1, 1) := by decide +kernel
theorem dX2_forget_28 : decode cX2_forget 28 = .ok (.iconst 0, 1) := by decide +kernel
theorem dX2_forget_29 : decode cX2_forget 29 = .ok (.iastore, 1) := by decide +kernel
theorem dX2_forget_30 : decode cX2_forget 30 = .ok (.iinc 1 1, 3) := by decide +kernel
theorem dX2_forget_33 : decode cX2_forget 33 = .ok (.goto (-16), 3) := by decide +kernel
theorem dX2_forget_36 : decode cX2_forget 36 = .ok (.iconst 0, 1) := by decide +kernel
theorem dX2_forget_37 : decode cX2_forget 37 = .ok (.istore_n 1, 1) := by decide +kernel
theorem dX2_forget_38 : decode cX2_forget 38 = .ok (.iload_n 1, 1) := by decide +kernel
theorem dX2_forget_39 : decode cX2_forget 39 = .ok (.bipush 6, 2) := by decide +kernel
theorem dX2_forget_41 : decode cX2_forget 41 = .ok (.if_icmp .ge 16, 3) := by decide +kernel
theorem dX2_forget_44 : decode cX2_forget 44 = .ok (.aload_n 0, 1) := by decide +kernel
theorem dX2_forget_45 : decode cX2_forget 45 = .ok (.getfield 26, 3) := by decide +kernel
theorem dX2_forget_48 : decode cX2_forget 48 = .ok (.iload_n 1, 1) := by decide +kernel
theorem dX2_forget_49 : decode cX2_forget 49 = .ok (.iconst (-1), 1) := by decide +kernel
theorem dX2_forget_50 : decode cX2_forget 50 = .ok (.iastore, 1) := by decide +kernel
theorem dX2_forget_51 : decode cX2_forget 51 = .ok (.iinc 1 1, 3) := by decide +kernel
theorem dX2_forget_54 : decode cX2_forget 54 = .ok (.goto (-16), 3) := by decide +kernel
theorem dX2_forget_57 : decode cX2_forget 57 = .ok (.return_, 1) := by decide +kernel
theorem dX2_perform_0 : decode cX2_perform 0 = .ok (.aload_n 0, 1) := by decide +kernel
theorem dX2_perform_1 : decode cX2_perform 1 = .ok (.invokevirtual 42, 3) := by decide +kernel
theorem dX2_perform_4 : decode cX2_perform 4 = .ok (.aload_n 0, 1) := by decide +kernel
theorem dX2_perform_5 : decode cX2_perform 5 = .ok (.iconst 1, 1) := by decide +kernel
theorem dX2_perform_6 : decode cX2_perform 6 = .ok (.putfield 9, 3) := by decide +kernel
theorem dX2_perform_9 : decode cX2_perform 9 = .ok (.aload_n 0, 1) := by decide +kernel
theorem dX2_perform_10 : decode cX2_perform 10 = .ok (.lload_n 2, 1) := by decide +kernel
theorem dX2_perform_11 : decode cX2_perform 11 = .ok (.putfield 38, 3) := by decide +kernel
theorem dX2_perform_14 : decode cX2_perform 14 = .ok (.iconst 0, 1) := by decide +kernel
theorem dX2_perform_15 : decode cX2_perform 15 = .ok (.istore 4, 2) := by decide +kernel
theorem dX2_perform_17 : decode cX2_perform 17 = .ok (.iconst 1, 1) := by decide +kernel
theorem dX2_perform_18 : decode cX2_perform 18 = .ok (.istore 5, 2) := by decide +kernel
theorem dX2_perform_20 : decode cX2_perform 20 = .ok (.iconst 0, 1) := by decide +kernel
theorem dX2_perform_21 : decode cX2_perform 21 = .ok (.istore 6, 2) := by decide +kernel
theorem dX2_perform_23 : decode cX2_perform 23 = .ok (.iload 6, 2) := by decide +kernel
theorem dX2_perform_25 : decode cX2_perform 25 = .ok (.aload_n 1, 1) := by decide +kernel
theorem dX2_perform_26 : decode cX2_perform 26 = .ok (.getfield 45, 3) := by decide +kernel
theorem dX2_perform_29 : decode cX2_perform 29 = .ok (.if_icmp .ge 110, 3) := by decide +kernel
theorem dX2_perform_32 : decode cX2_perform 32 = .ok (.aload_n 0, 1) := by decide +kernel
theorem dX2_perform_33 : decode cX2_perform 33 = .ok (.getfield 15, 3) := by decide +kernel
theorem dX2_perform_36 : decode cX2_perform 36 = .ok (.ifCond .ne 103, 3) := by decide +kernel
theorem dX2_perform_39 : decode cX2_perform 39 = .ok (.aload_n 1, 1) := by decide +kernel
theorem dX2_perform_40 : decode cX2_perform 40 = .ok (.getfield 50, 3) := by decide +kernel
theorem dX2_perform_43 : decode cX2_perform 43 = .ok (.iload 6, 2) := by decide +kernel
theorem dX2_perform_45 : decode cX2_perform 45 = .ok (.baload, 1) := by decide +kernel
theorem dX2_perform_46 : decode cX2_perform 46 = .ok (.ifCond .eq 6, 3) := by decide +kernel
theorem dX2_perform_49 : decode cX2_perform 49 = .ok (.goto 84, 3) := by decide +kernel
theorem dX2_perform_52 : decode cX2_perform 52 = .ok (.iload 4, 2) := by decide +kernel
theorem dX2_perform_54 : decode cX2_perform 54 = .ok (.ifCond .ne 31, 3) := by decide +kernel
theorem dX2_perform_57 : decode cX2_perform 57 = .ok (.aload_n 1, 1) := by decide +kernel
theorem dX2_perform_58 : decode cX2_perform 58 = .ok (.iload 6, 2) := by decide +kernel
theorem dX2_perform_60 : decode cX2_perform 60 = .ok (.invokevirtual 54, 3) := by decide +kernel
theorem dX2_perform_63 : decode cX2_perform 63 = .ok (.bipush 14, 2) := by decide +kernel
theorem dX2_perform_65 : decode cX2_perform 65 = .ok (.if_icmp .ne 20, 3) := by decide +kernel
theorem dX2_perform_68 : decode cX2_perform 68 = .ok (.aload_n 1, 1) := by decide +kernel
theorem dX2_perform_69 : decode cX2_perform 69 = .ok (.iload 6, 2) := by decide +kernel
theorem dX2_perform_71 : decode cX2_perform 71 = .ok (.invokevirtual 58, 3) := by decide +kernel
theorem dX2_perform_74 : decode cX2_perform 74 = .ok (.istore 4, 2) := by decide +kernel
theorem dX2_perform_76 : decode cX2_perform 76 = .ok (.aload_n 0, 1) := by decide +kernel
theorem dX2_perform_77 : decode cX2_perform 77 = .ok (.invokevirtual 61, 3) := by decide +kernel
theorem dX2_perform_80 : decode cX2_perform 80 = .ok (.istore 5, 2) := by decide +kernel
theorem dX2_perform_82 : decode cX2_perform 82 = .ok (.goto 51, 3) := by decide +kernel
theorem dX2_perform_85 : decode cX2_perform 85 = .ok (.iload 4, 2) := by decide +kernel
theorem dX2_perform_87 : decode cX2_perform 87 = .ok (.ifCond .eq 8, 3) := by decide +kernel
theorem dX2_perform_90 : decode cX2_perform 90 = .ok (.iload 5, 2) := by decide +kernel
theorem dX2_perform_92 : decode cX2_perform 92 = .ok (.ifCond .eq 31, 3) := by decide +kernel
theorem dX2_perform_95 : decode cX2_perform 95 = .ok (.aload_n 0, 1) := by decide +kernel
theorem dX2_perform_96 : decode cX2_perform 96 = .ok (.aload_n 0, 1) := by decide +kernel
theorem dX2_perform_97 : decode cX2_perform 97 = .ok (.aload_n 1, 1) := by decide +kernel
theorem dX2_perform_98 : decode cX2_perform 98 = .ok (.iload 6, 2) := by decide +kernel
theorem dX2_perform_100 : decode cX2_perform 100 = .ok (.invokevirtual 65, 3) := by decide +kernel
theorem dX2_perform_103 : decode cX2_perform 103 = .ok (.putfield 15, 3) := by decide +kernel
theorem dX2_perform_106 : decode cX2_perform 106 = .ok (.aload_n 0, 1) := by decide +kernel
theorem dX2_perform_107 : decode cX2_perform 107 = .ok (.aload_n 0, 1) := by decide +kernel
theorem dX2_perform_108 : decode cX2_perform 108 = .ok (.getfield 15, 3) := by decide +kernel
theorem dX2_perform_111 : decode cX2_perform 111 = .ok (.ifCond .ne 7, 3) := by decide +kernel
theorem dX2_perform_114 : decode cX2_perform 114 = .ok (.iconst (-1), 1) := by decide +kernel
theorem dX2_perform_115 : decode cX2_perform 115 = .ok (.goto 5, 3) := by decide +kernel
theorem dX2_perform_118 : decode cX2_perform 118 = .ok (.iload 6, 2) := by decide +kernel
theorem dX2_perform_120 : decode cX2_perform 120 = .ok (.putfield 19, 3) := by decide +kernel
theorem dX2_perform_123 : decode cX2_perform 123 = .ok (.iload 4, 2) := by decide +kernel
theorem dX2_perform_125 : decode cX2_perform 125 = .ok (.iconst 1, 1) := by decide +kernel
theorem dX2_perform_126 : decode cX2_perform 126 = .ok (.isub, 1) := by decide +kernel
theorem dX2_perform_127 : decode cX2_perform 127 = .ok (.iconst 0, 1) := by decide +kernel
theorem dX2_perform_128 : decode cX2_perform 128 = .ok (.invokestatic 69, 3) := by decide +kernel
theorem dX2_perform_131 : decode cX2_perform 131 = .ok (.istore 4, 2) := by decide +kernel
theorem dX2_perform_133 : decode cX2_perform 133 = .ok (.iinc 6 1, 3) := by decide +kernel
theorem dX2_perform_136 : decode cX2_perform 136 = .ok (.goto (-113), 3) := by decide +kernel
theorem dX2_perform_139 : decode cX2_perform 139 = .ok (.return_, 1) := by decide +kernel
theorem dX2_draw_0 : decode cX2_draw 0 = .ok (.aload_n 0, 1) := by decide +kernel
theorem dX2_draw_1 : decode cX2_draw 1 = .ok (.dup, 1) := by decide +kernel
theorem dX2_draw_2 : decode cX2_draw 2 = .ok (.getfield 38, 3) := by decide +kernel
theorem dX2_draw_5 : decode cX2_draw 5 = .ok (.ldc2_w 75, 3) := by decide +kernel
theorem dX2_draw_8 : decode cX2_draw 8 = .ok (.ladd, 1) := by decide +kernel
theorem dX2_draw_9 : decode cX2_draw 9 = .ok (.putfield 38, 3) := by decide +kernel
theorem dX2_draw_12 : decode cX2_draw 12 = .ok (.aload_n 0, 1) := by decide +kernel
theorem dX2_draw_13 : decode cX2_draw 13 = .ok (.getfield 38, 3) := by decide +kernel
theorem dX2_draw_16 : decode cX2_draw 16 = .ok (.lstore_n 1, 1) := by decide +kernel
theorem dX2_draw_17 : decode cX2_draw 17 = .ok (.lload_n 1, 1) := by decide +kernel
theorem dX2_draw_18 : decode cX2_draw 18 = .ok (.lload_n 1, 1) := by decide +kernel
theorem dX2_draw_19 : decode cX2_draw 19 = .ok (.bipush 30, 2) := by decide +kernel
theorem dX2_draw_21 : decode cX2_draw 21 = .ok (.lushr, 1) := by decide +kernel
theorem dX2_draw_22 : decode cX2_draw 22 = .ok (.lxor, 1) := by decide +kernel
theorem dX2_draw_23 : decode cX2_draw 23 = .ok (.ldc2_w 77, 3) := by decide +kernel
theorem dX2_draw_26 : decode cX2_draw 26 = .ok (.lmul, 1) := by decide +kernel
theorem dX2_draw_27 : decode cX2_draw 27 = .ok (.lstore_n 1, 1) := by decide +kernel
theorem dX2_draw_28 : decode cX2_draw 28 = .ok (.lload_n 1, 1) := by decide +kernel
theorem dX2_draw_29 : decode cX2_draw 29 = .ok (.lload_n 1, 1) := by decide +kernel
theorem dX2_draw_30 : decode cX2_draw 30 = .ok (.bipush 27, 2) := by decide +kernel
theorem dX2_draw_32 : decode cX2_draw 32 = .ok (.lushr, 1) := by decide +kernel
theorem dX2_draw_33 : decode cX2_draw 33 = .ok (.lxor, 1) := by decide +kernel
theorem dX2_draw_34 : decode cX2_draw 34 = .ok (.ldc2_w 79, 3) := by decide +kernel
theorem dX2_draw_37 : decode cX2_draw 37 = .ok (.lmul, 1) := by decide +kernel
theorem dX2_draw_38 : decode cX2_draw 38 = .ok (.lstore_n 1, 1) := by decide +kernel
theorem dX2_draw_39 : decode cX2_draw 39 = .ok (.lload_n 1, 1) := by decide +kernel
theorem dX2_draw_40 : decode cX2_draw 40 = .ok (.lload_n 1, 1) := by decide +kernel
theorem dX2_draw_41 : decode cX2_draw 41 = .ok (.bipush 31, 2) := by decide +kernel
theorem dX2_draw_43 : decode cX2_draw 43 = .ok (.lushr, 1) := by decide +kernel
theorem dX2_draw_44 : decode cX2_draw 44 = .ok (.lxor, 1) := by decide +kernel
theorem dX2_draw_45 : decode cX2_draw 45 = .ok (.lreturn, 1) := by decide +kernel
theorem dX2_drawIsEven_0 : decode cX2_drawIsEven 0 = .ok (.aload_n 0, 1) := by decide +kernel
theorem dX2_drawIsEven_1 : decode cX2_drawIsEven 1 = .ok (.invokevirtual 81, 3) := by decide +kernel
theorem dX2_drawIsEven_4 : decode cX2_drawIsEven 4 = .ok (.lconst 1, 1) := by decide +kernel
theorem dX2_drawIsEven_5 : decode cX2_drawIsEven 5 = .ok (.land, 1) := by decide +kernel
theorem dX2_drawIsEven_6 : decode cX2_drawIsEven 6 = .ok (.lconst 0, 1) := by decide +kernel
theorem dX2_drawIsEven_7 : decode cX2_drawIsEven 7 = .ok (.lcmp, 1) := by decide +kernel
theorem dX2_drawIsEven_8 : decode cX2_drawIsEven 8 = .ok (.ifCond .ne 7, 3) := by decide +kernel
theorem dX2_drawIsEven_11 : decode cX2_drawIsEven 11 = .ok (.iconst 1, 1) := by decide +kernel
theorem dX2_drawIsEven_12 : decode cX2_drawIsEven 12 = .ok (.goto 4, 3) := by decide +kernel
theorem dX2_drawIsEven_15 : decode cX2_drawIsEven 15 = .ok (.iconst 0, 1) := by decide +kernel
theorem dX2_drawIsEven_16 : decode cX2_drawIsEven 16 = .ok (.ireturn, 1) := by decide +kernel
theorem dX2_drawFrom_0 : decode cX2_drawFrom 0 = .ok (.iload_n 2, 1) := by decide +kernel
theorem dX2_drawFrom_1 : decode cX2_drawFrom 1 = .ok (.i2l, 1) := by decide +kernel
theorem dX2_drawFrom_2 : decode cX2_drawFrom 2 = .ok (.iload_n 1, 1) := by decide +kernel
theorem dX2_drawFrom_3 : decode cX2_drawFrom 3 = .ok (.i2l, 1) := by decide +kernel
theorem dX2_drawFrom_4 : decode cX2_drawFrom 4 = .ok (.lsub, 1) := by decide +kernel
theorem dX2_drawFrom_5 : decode cX2_drawFrom 5 = .ok (.lconst 1, 1) := by decide +kernel
theorem dX2_drawFrom_6 : decode cX2_drawFrom 6 = .ok (.ladd, 1) := by decide +kernel
theorem dX2_drawFrom_7 : decode cX2_drawFrom 7 = .ok (.lstore_n 3, 1) := by decide +kernel
theorem dX2_drawFrom_8 : decode cX2_drawFrom 8 = .ok (.aload_n 0, 1) := by decide +kernel
theorem dX2_drawFrom_9 : decode cX2_drawFrom 9 = .ok (.invokevirtual 81, 3) := by decide +kernel
theorem dX2_drawFrom_12 : decode cX2_drawFrom 12 = .ok (.bipush 33, 2) := by decide +kernel
theorem dX2_drawFrom_14 : decode cX2_drawFrom 14 = .ok (.lushr, 1) := by decide +kernel
theorem dX2_drawFrom_15 : decode cX2_drawFrom 15 = .ok (.lstore 5, 2) := by decide +kernel
theorem dX2_drawFrom_17 : decode cX2_drawFrom 17 = .ok (.lload_n 3, 1) := by decide +kernel
theorem dX2_drawFrom_18 : decode cX2_drawFrom 18 = .ok (.lconst 0, 1) := by decide +kernel
theorem dX2_drawFrom_19 : decode cX2_drawFrom 19 = .ok (.lcmp, 1) := by decide +kernel
theorem dX2_drawFrom_20 : decode cX2_drawFrom 20 = .ok (.ifCond .le 14, 3) := by decide +kernel
theorem dX2_drawFrom_23 : decode cX2_drawFrom 23 = .ok (.iload_n 1, 1) := by decide +kernel
theorem dX2_drawFrom_24 : decode cX2_drawFrom 24 = .ok (.i2l, 1) := by decide +kernel
theorem dX2_drawFrom_25 : decode cX2_drawFrom 25 = .ok (.lload 5, 2) := by decide +kernel
theorem dX2_drawFrom_27 : decode cX2_drawFrom 27 = .ok (.lload_n 3, 1) := by decide +kernel
theorem dX2_drawFrom_28 : decode cX2_drawFrom 28 = .ok (.lrem, 1) := by decide +kernel
theorem dX2_drawFrom_29 : decode cX2_drawFrom 29 = .ok (.ladd, 1) := by decide +kernel
theorem dX2_drawFrom_30 : decode cX2_drawFrom 30 = .ok (.l2i, 1) := by decide +kernel
theorem dX2_drawFrom_31 : decode cX2_drawFrom 31 = .ok (.goto 4, 3) := by decide +kernel
theorem dX2_drawFrom_34 : decode cX2_drawFrom 34 = .ok (.iload_n 1, 1) := by decide +kernel
theorem dX2_drawFrom_35 : decode cX2_drawFrom 35 = .ok (.ireturn, 1) := by decide +kernel
theorem dX2_doAct_0 : decode cX2_doAct 0 = .ok (.aload_n 1, 1) := by decide +kernel
theorem dX2_doAct_1 : decode cX2_doAct 1 = .ok (.iload_n 2, 1) := by decide +kernel
theorem dX2_doAct_2 : decode cX2_doAct 2 = .ok (.invokevirtual 85, 3) := by decide +kernel
theorem dX2_doAct_5 : decode cX2_doAct 5 = .ok (.istore_n 3, 1) := by decide +kernel
theorem dX2_doAct_6 : decode cX2_doAct 6 = .ok (.aload_n 1, 1) := by decide +kernel
theorem dX2_doAct_7 : decode cX2_doAct 7 = .ok (.iload_n 2, 1) := by decide +kernel
theorem dX2_doAct_8 : decode cX2_doAct 8 = .ok (.invokevirtual 58, 3) := by decide +kernel
theorem dX2_doAct_11 : decode cX2_doAct 11 = .ok (.istore 4, 2) := by decide +kernel
theorem dX2_doAct_13 : decode cX2_doAct 13 = .ok (.aload_n 1, 1) := by decide +kernel
theorem dX2_doAct_14 : decode cX2_doAct 14 = .ok (.iload_n 2, 1) := by decide +kernel
theorem dX2_doAct_15 : decode cX2_doAct 15 = .ok (.invokevirtual 88, 3) := by decide +kernel
theorem dX2_doAct_18 : decode cX2_doAct 18 = .ok (.istore 5, 2) := by decide +kernel
theorem dX2_doAct_20 : decode cX2_doAct 20 = .ok (.aload_n 1, 1) := by decide +kernel
theorem dX2_doAct_21 : decode cX2_doAct 21 = .ok (.iload_n 2, 1) := by decide +kernel
theorem dX2_doAct_22 : decode cX2_doAct 22 = .ok (.invokevirtual 91, 3) := by decide +kernel
theorem dX2_doAct_25 : decode cX2_doAct 25 = .ok (.istore 6, 2) := by decide +kernel
theorem dX2_doAct_27 : decode cX2_doAct 27 = .ok (.aload_n 1, 1) := by decide +kernel
theorem dX2_doAct_28 : decode cX2_doAct 28 = .ok (.iload_n 2, 1) := by decide +kernel
theorem dX2_doAct_29 : decode cX2_doAct 29 = .ok (.invokevirtual 94, 3) := by decide +kernel
theorem dX2_doAct_32 : decode cX2_doAct 32 = .ok (.istore 7, 2) := by decide +kernel
theorem dX2_doAct_34 : decode cX2_doAct 34 = .ok (.aload_n 1, 1) := by decide +kernel
theorem dX2_doAct_35 : decode cX2_doAct 35 = .ok (.iload_n 2, 1) := by decide +kernel
theorem dX2_doAct_36 : decode cX2_doAct 36 = .ok (.invokevirtual 54, 3) := by decide +kernel
theorem dX2_doAct_39 : decode cX2_doAct 39 = .ok (.tableswitch 362 0 13 #[69, 79, 95, 118, 141, 157, 166, 181, 213, 227, 254, 276, 315, 349], 69) := by decide +kernel
theorem dX2_doAct_108 : decode cX2_doAct 108 = .ok (.aload_n 0, 1) := by decide +kernel
theorem dX2_doAct_109 : decode cX2_doAct 109 = .ok (.getfield 22, 3) := by decide +kernel
theorem dX2_doAct_112 : decode cX2_doAct 112 = .ok (.iload_n 3, 1) := by decide +kernel
theorem dX2_doAct_113 : decode cX2_doAct 113 = .ok (.iload 4, 2) := by decide +kernel
theorem dX2_doAct_115 : decode cX2_doAct 115 = .ok (.iastore, 1) := by decide +kernel
theorem dX2_doAct_116 : decode cX2_doAct 116 = .ok (.iconst 0, 1) := by decide +kernel
theorem dX2_doAct_117 : decode cX2_doAct 117 = .ok (.ireturn, 1) := by decide +kernel
theorem dX2_doAct_118 : decode cX2_doAct 118 = .ok (.aload_n 0, 1) := by decide +kernel
theorem dX2_doAct_119 : decode cX2_doAct 119 = .ok (.getfield 22, 3) := by decide +kernel
theorem dX2_doAct_122 : decode cX2_doAct 122 = .ok (.iload_n 3, 1) := by decide +kernel
theorem dX2_doAct_123 : decode cX2_doAct 123 = .ok (.aload_n 0, 1) := by decide +kernel
theorem dX2_doAct_124 : decode cX2_doAct 124 = .ok (.iload 4, 2) := by decide +kernel
theorem dX2_doAct_126 : decode cX2_doAct 126 = .ok (.iload 5, 2) := by decide +kernel
theorem dX2_doAct_128 : decode cX2_doAct 128 = .ok (.invokevirtual 97, 3) := by decide +kernel
theorem dX2_doAct_131 : decode cX2_doAct 131 = .ok (.iastore, 1) := by decide +kernel
theorem dX2_doAct_132 : decode cX2_doAct 132 = .ok (.iconst 0, 1) := by decide +kernel
theorem dX2_doAct_133 : decode cX2_doAct 133 = .ok (.ireturn, 1) := by decide +kernel
theorem dX2_doAct_134 : decode cX2_doAct 134 = .ok (.aload_n 0, 1) := by decide +kernel
theorem dX2_doAct_135 : decode cX2_doAct 135 = .ok (.getfield 22, 3) := by decide +kernel
theorem dX2_doAct_138 : decode cX2_doAct 138 = .ok (.iload_n 3, 1) := by decide +kernel
theorem dX2_doAct_139 : decode cX2_doAct 139 = .ok (.aload_n 0, 1) := by decide +kernel
theorem dX2_doAct_140 : decode cX2_doAct 140 = .ok (.getfield 22, 3) := by decide +kernel
theorem dX2_doAct_143 : decode cX2_doAct 143 = .ok (.iload 4, 2) := by decide +kernel
theorem dX2_doAct_145 : decode cX2_doAct 145 = .ok (.iaload, 1) := by decide +kernel
theorem dX2_doAct_146 : decode cX2_doAct 146 = .ok (.aload_n 0, 1) := by decide +kernel
theorem dX2_doAct_147 : decode cX2_doAct 147 = .ok (.getfield 22, 3) := by decide +kernel
theorem dX2_doAct_150 : decode cX2_doAct 150 = .ok (.iload 5, 2) := by decide +kernel
theorem dX2_doAct_152 : decode cX2_doAct 152 = .ok (.iaload, 1) := by decide +kernel
theorem dX2_doAct_153 : decode cX2_doAct 153 = .ok (.iadd, 1) := by decide +kernel
theorem dX2_doAct_154 : decode cX2_doAct 154 = .ok (.iastore, 1) := by decide +kernel
theorem dX2_doAct_155 : decode cX2_doAct 155 = .ok (.iconst 0, 1) := by decide +kernel
theorem dX2_doAct_156 : decode cX2_doAct 156 = .ok (.ireturn, 1) := by decide +kernel
theorem dX2_doAct_157 : decode cX2_doAct 157 = .ok (.aload_n 0, 1) := by decide +kernel
theorem dX2_doAct_158 : decode cX2_doAct 158 = .ok (.getfield 22, 3) := by decide +kernel
theorem dX2_doAct_161 : decode cX2_doAct 161 = .ok (.iload_n 3, 1) := by decide +kernel
theorem dX2_doAct_162 : decode cX2_doAct 162 = .ok (.aload_n 0, 1) := by decide +kernel
theorem dX2_doAct_163 : decode cX2_doAct 163 = .ok (.getfield 22, 3) := by decide +kernel
theorem dX2_doAct_166 : decode cX2_doAct 166 = .ok (.iload 4, 2) := by decide +kernel
theorem dX2_doAct_168 : decode cX2_doAct 168 = .ok (.iaload, 1) := by decide +kernel
theorem dX2_doAct_169 : decode cX2_doAct 169 = .ok (.aload_n 0, 1) := by decide +kernel
theorem dX2_doAct_170 : decode cX2_doAct 170 = .ok (.getfield 22, 3) := by decide +kernel
theorem dX2_doAct_173 : decode cX2_doAct 173 = .ok (.iload 5, 2) := by decide +kernel
theorem dX2_doAct_175 : decode cX2_doAct 175 = .ok (.iaload, 1) := by decide +kernel
theorem dX2_doAct_176 : decode cX2_doAct 176 = .ok (.isub, 1) := by decide +kernel
theorem dX2_doAct_177 : decode cX2_doAct 177 = .ok (.iastore, 1) := by decide +kernel
theorem dX2_doAct_178 : decode cX2_doAct 178 = .ok (.iconst 0, 1) := by decide +kernel
theorem dX2_doAct_179 : decode cX2_doAct 179 = .ok (.ireturn, 1) := by decide +kernel
theorem dX2_doAct_180 : decode cX2_doAct 180 = .ok (.aload_n 0, 1) := by decide +kernel
theorem dX2_doAct_181 : decode cX2_doAct 181 = .ok (.iload_n 2, 1) := by decide +kernel
theorem dX2_doAct_182 : decode cX2_doAct 182 = .ok (.iload_n 3, 1) := by decide +kernel
theorem dX2_doAct_183 : decode cX2_doAct 183 = .ok (.iload 4, 2) := by decide +kernel
theorem dX2_doAct_185 : decode cX2_doAct 185 = .ok (.aload_n 0, 1) := by decide +kernel
theorem dX2_doAct_186 : decode cX2_doAct 186 = .ok (.getfield 22, 3) := by decide +kernel
theorem dX2_doAct_189 : decode cX2_doAct 189 = .ok (.iload 5, 2) := by decide +kernel
theorem dX2_doAct_191 : decode cX2_doAct 191 = .ok (.iaload, 1) := by decide +kernel
theorem dX2_doAct_192 : decode cX2_doAct 192 = .ok (.invokevirtual 100, 3) := by decide +kernel
theorem dX2_doAct_195 : decode cX2_doAct 195 = .ok (.ireturn, 1) := by decide +kernel
theorem dX2_doAct_196 : decode cX2_doAct 196 = .ok (.aload_n 0, 1) := by decide +kernel
theorem dX2_doAct_197 : decode cX2_doAct 197 = .ok (.getfield 26, 3) := by decide +kernel
theorem dX2_doAct_200 : decode cX2_doAct 200 = .ok (.iload_n 3, 1) := by decide +kernel
theorem dX2_doAct_201 : decode cX2_doAct 201 = .ok (.iconst (-1), 1) := by decide +kernel
theorem dX2_doAct_202 : decode cX2_doAct 202 = .ok (.iastore, 1) := by decide +kernel
theorem dX2_doAct_203 : decode cX2_doAct 203 = .ok (.iconst 0, 1) := by decide +kernel
theorem dX2_doAct_204 : decode cX2_doAct 204 = .ok (.ireturn, 1) := by decide +kernel
theorem dX2_doAct_205 : decode cX2_doAct 205 = .ok (.aload_n 0, 1) := by decide +kernel
theorem dX2_doAct_206 : decode cX2_doAct 206 = .ok (.getfield 26, 3) := by decide +kernel
theorem dX2_doAct_209 : decode cX2_doAct 209 = .ok (.iload_n 3, 1) := by decide +kernel
theorem dX2_doAct_210 : decode cX2_doAct 210 = .ok (.aload_n 0, 1) := by decide +kernel
theorem dX2_doAct_211 : decode cX2_doAct 211 = .ok (.getfield 26, 3) := by decide +kernel
theorem dX2_doAct_214 : decode cX2_doAct 214 = .ok (.iload 4, 2) := by decide +kernel
theorem dX2_doAct_216 : decode cX2_doAct 216 = .ok (.iaload, 1) := by decide +kernel
theorem dX2_doAct_217 : decode cX2_doAct 217 = .ok (.iastore, 1) := by decide +kernel
theorem dX2_doAct_218 : decode cX2_doAct 218 = .ok (.iconst 0, 1) := by decide +kernel
theorem dX2_doAct_219 : decode cX2_doAct 219 = .ok (.ireturn, 1) := by decide +kernel
theorem dX2_doAct_220 : decode cX2_doAct 220 = .ok (.aload_n 0, 1) := by decide +kernel
theorem dX2_doAct_221 : decode cX2_doAct 221 = .ok (.getfield 26, 3) := by decide +kernel
theorem dX2_doAct_224 : decode cX2_doAct 224 = .ok (.iload_n 3, 1) := by decide +kernel
theorem dX2_doAct_225 : decode cX2_doAct 225 = .ok (.aload_n 0, 1) := by decide +kernel
theorem dX2_doAct_226 : decode cX2_doAct 226 = .ok (.invokevirtual 61, 3) := by decide +kernel
theorem dX2_doAct_229 : decode cX2_doAct 229 = .ok (.ifCond .eq 13, 3) := by decide +kernel
theorem dX2_doAct_232 : decode cX2_doAct 232 = .ok (.aload_n 0, 1) := by decide +kernel
theorem dX2_doAct_233 : decode cX2_doAct 233 = .ok (.getfield 26, 3) := by decide +kernel
theorem dX2_doAct_236 : decode cX2_doAct 236 = .ok (.iload 4, 2) := by decide +kernel
theorem dX2_doAct_238 : decode cX2_doAct 238 = .ok (.iaload, 1) := by decide +kernel
theorem dX2_doAct_239 : decode cX2_doAct 239 = .ok (.goto 10, 3) := by decide +kernel
theorem dX2_doAct_242 : decode cX2_doAct 242 = .ok (.aload_n 0, 1) := by decide +kernel
theorem dX2_doAct_243 : decode cX2_doAct 243 = .ok (.getfield 26, 3) := by decide +kernel
theorem dX2_doAct_246 : decode cX2_doAct 246 = .ok (.iload 5, 2) := by decide +kernel
theorem dX2_doAct_248 : decode cX2_doAct 248 = .ok (.iaload, 1) := by decide +kernel
theorem dX2_doAct_249 : decode cX2_doAct 249 = .ok (.iastore, 1) := by decide +kernel
theorem dX2_doAct_250 : decode cX2_doAct 250 = .ok (.iconst 0, 1) := by decide +kernel
theorem dX2_doAct_251 : decode cX2_doAct 251 = .ok (.ireturn, 1) := by decide +kernel
theorem dX2_doAct_252 : decode cX2_doAct 252 = .ok (.aload_n 0, 1) := by decide +kernel
theorem dX2_doAct_253 : decode cX2_doAct 253 = .ok (.iload_n 2, 1) := by decide +kernel
theorem dX2_doAct_254 : decode cX2_doAct 254 = .ok (.iload_n 3, 1) := by decide +kernel
theorem dX2_doAct_255 : decode cX2_doAct 255 = .ok (.aload_n 0, 1) := by decide +kernel
theorem dX2_doAct_256 : decode cX2_doAct 256 = .ok (.getfield 26, 3) := by decide +kernel
theorem dX2_doAct_259 : decode cX2_doAct 259 = .ok (.iload 4, 2) := by decide +kernel
theorem dX2_doAct_261 : decode cX2_doAct 261 = .ok (.iaload, 1) := by decide +kernel
theorem dX2_doAct_262 : decode cX2_doAct 262 = .ok (.invokevirtual 104, 3) := by decide +kernel
theorem dX2_doAct_265 : decode cX2_doAct 265 = .ok (.ireturn, 1) := by decide +kernel
theorem dX2_doAct_266 : decode cX2_doAct 266 = .ok (.aload_n 0, 1) := by decide +kernel
theorem dX2_doAct_267 : decode cX2_doAct 267 = .ok (.aload_n 0, 1) := by decide +kernel
theorem dX2_doAct_268 : decode cX2_doAct 268 = .ok (.getfield 26, 3) := by decide +kernel
theorem dX2_doAct_271 : decode cX2_doAct 271 = .ok (.iload_n 3, 1) := by decide +kernel
theorem dX2_doAct_272 : decode cX2_doAct 272 = .ok (.iaload, 1) := by decide +kernel
theorem dX2_doAct_273 : decode cX2_doAct 273 = .ok (.iload 4, 2) := by decide +kernel
theorem dX2_doAct_275 : decode cX2_doAct 275 = .ok (.aload_n 0, 1) := by decide +kernel
theorem dX2_doAct_276 : decode cX2_doAct 276 = .ok (.getfield 22, 3) := by decide +kernel
theorem dX2_doAct_279 : decode cX2_doAct 279 = .ok (.iload 5, 2) := by decide +kernel
theorem dX2_doAct_281 : decode cX2_doAct 281 = .ok (.iaload, 1) := by decide +kernel
theorem dX2_doAct_282 : decode cX2_doAct 282 = .ok (.aload_n 0, 1) := by decide +kernel
theorem dX2_doAct_283 : decode cX2_doAct 283 = .ok (.getfield 22, 3) := by decide +kernel
theorem dX2_doAct_286 : decode cX2_doAct 286 = .ok (.iload 6, 2) := by decide +kernel
theorem dX2_doAct_288 : decode cX2_doAct 288 = .ok (.iaload, 1) := by decide +kernel
theorem dX2_doAct_289 : decode cX2_doAct 289 = .ok (.invokevirtual 108, 3) := by decide +kernel
theorem dX2_doAct_292 : decode cX2_doAct 292 = .ok (.ireturn, 1) := by decide +kernel
theorem dX2_doAct_293 : decode cX2_doAct 293 = .ok (.aload_n 0, 1) := by decide +kernel
theorem dX2_doAct_294 : decode cX2_doAct 294 = .ok (.iload_n 3, 1) := by decide +kernel
theorem dX2_doAct_295 : decode cX2_doAct 295 = .ok (.aload_n 0, 1) := by decide +kernel
theorem dX2_doAct_296 : decode cX2_doAct 296 = .ok (.getfield 26, 3) := by decide +kernel
theorem dX2_doAct_299 : decode cX2_doAct 299 = .ok (.iload 4, 2) := by decide +kernel
theorem dX2_doAct_301 : decode cX2_doAct 301 = .ok (.iaload, 1) := by decide +kernel
theorem dX2_doAct_302 : decode cX2_doAct 302 = .ok (.iload 5, 2) := by decide +kernel
theorem dX2_doAct_304 : decode cX2_doAct 304 = .ok (.aload_n 0, 1) := by decide +kernel
theorem dX2_doAct_305 : decode cX2_doAct 305 = .ok (.getfield 22, 3) := by decide +kernel
theorem dX2_doAct_308 : decode cX2_doAct 308 = .ok (.iload 6, 2) := by decide +kernel
theorem dX2_doAct_310 : decode cX2_doAct 310 = .ok (.iaload, 1) := by decide +kernel
theorem dX2_doAct_311 : decode cX2_doAct 311 = .ok (.invokevirtual 111, 3) := by decide +kernel
theorem dX2_doAct_314 : decode cX2_doAct 314 = .ok (.ireturn, 1) := by decide +kernel
theorem dX2_doAct_315 : decode cX2_doAct 315 = .ok (.aload_n 0, 1) := by decide +kernel
theorem dX2_doAct_316 : decode cX2_doAct 316 = .ok (.aload_n 0, 1) := by decide +kernel
theorem dX2_doAct_317 : decode cX2_doAct 317 = .ok (.getfield 26, 3) := by decide +kernel
theorem dX2_doAct_320 : decode cX2_doAct 320 = .ok (.iload_n 3, 1) := by decide +kernel
theorem dX2_doAct_321 : decode cX2_doAct 321 = .ok (.iaload, 1) := by decide +kernel
theorem dX2_doAct_322 : decode cX2_doAct 322 = .ok (.aload_n 0, 1) := by decide +kernel
theorem dX2_doAct_323 : decode cX2_doAct 323 = .ok (.getfield 22, 3) := by decide +kernel
theorem dX2_doAct_326 : decode cX2_doAct 326 = .ok (.iload 4, 2) := by decide +kernel
theorem dX2_doAct_328 : decode cX2_doAct 328 = .ok (.iaload, 1) := by decide +kernel
theorem dX2_doAct_329 : decode cX2_doAct 329 = .ok (.aload_n 0, 1) := by decide +kernel
theorem dX2_doAct_330 : decode cX2_doAct 330 = .ok (.getfield 26, 3) := by decide +kernel
theorem dX2_doAct_333 : decode cX2_doAct 333 = .ok (.iload 5, 2) := by decide +kernel
theorem dX2_doAct_335 : decode cX2_doAct 335 = .ok (.iaload, 1) := by decide +kernel
theorem dX2_doAct_336 : decode cX2_doAct 336 = .ok (.aload_n 0, 1) := by decide +kernel
theorem dX2_doAct_337 : decode cX2_doAct 337 = .ok (.getfield 22, 3) := by decide +kernel
theorem dX2_doAct_340 : decode cX2_doAct 340 = .ok (.iload 6, 2) := by decide +kernel
theorem dX2_doAct_342 : decode cX2_doAct 342 = .ok (.iaload, 1) := by decide +kernel
theorem dX2_doAct_343 : decode cX2_doAct 343 = .ok (.aload_n 0, 1) := by decide +kernel
theorem dX2_doAct_344 : decode cX2_doAct 344 = .ok (.getfield 22, 3) := by decide +kernel
theorem dX2_doAct_347 : decode cX2_doAct 347 = .ok (.iload 7, 2) := by decide +kernel
theorem dX2_doAct_349 : decode cX2_doAct 349 = .ok (.iaload, 1) := by decide +kernel
theorem dX2_doAct_350 : decode cX2_doAct 350 = .ok (.invokevirtual 114, 3) := by decide +kernel
theorem dX2_doAct_353 : decode cX2_doAct 353 = .ok (.ireturn, 1) := by decide +kernel
theorem dX2_doAct_354 : decode cX2_doAct 354 = .ok (.aload_n 0, 1) := by decide +kernel
theorem dX2_doAct_355 : decode cX2_doAct 355 = .ok (.aload_n 0, 1) := by decide +kernel
theorem dX2_doAct_356 : decode cX2_doAct 356 = .ok (.getfield 26, 3) := by decide +kernel
theorem dX2_doAct_359 : decode cX2_doAct 359 = .ok (.iload_n 3, 1) := by decide +kernel
theorem dX2_doAct_360 : decode cX2_doAct 360 = .ok (.iaload, 1) := by decide +kernel
theorem dX2_doAct_361 : decode cX2_doAct 361 = .ok (.iload 4, 2) := by decide +kernel
theorem dX2_doAct_363 : decode cX2_doAct 363 = .ok (.aload_n 0, 1) := by decide +kernel
theorem dX2_doAct_364 : decode cX2_doAct 364 = .ok (.getfield 22, 3) := by decide +kernel
theorem dX2_doAct_367 : decode cX2_doAct 367 = .ok (.iload 5, 2) := by decide +kernel
theorem dX2_doAct_369 : decode cX2_doAct 369 = .ok (.iaload, 1) := by decide +kernel
theorem dX2_doAct_370 : decode cX2_doAct 370 = .ok (.aload_n 0, 1) := by decide +kernel
theorem dX2_doAct_371 : decode cX2_doAct 371 = .ok (.getfield 22, 3) := by decide +kernel
theorem dX2_doAct_374 : decode cX2_doAct 374 = .ok (.iload 6, 2) := by decide +kernel
theorem dX2_doAct_376 : decode cX2_doAct 376 = .ok (.iaload, 1) := by decide +kernel
theorem dX2_doAct_377 : decode cX2_doAct 377 = .ok (.aload_n 0, 1) := by decide +kernel
theorem dX2_doAct_378 : decode cX2_doAct 378 = .ok (.getfield 22, 3) := by decide +kernel
theorem dX2_doAct_381 : decode cX2_doAct 381 = .ok (.iload 7, 2) := by decide +kernel
theorem dX2_doAct_383 : decode cX2_doAct 383 = .ok (.iaload, 1) := by decide +kernel
theorem dX2_doAct_384 : decode cX2_doAct 384 = .ok (.invokevirtual 118, 3) := by decide +kernel
theorem dX2_doAct_387 : decode cX2_doAct 387 = .ok (.ireturn, 1) := by decide +kernel
theorem dX2_doAct_388 : decode cX2_doAct 388 = .ok (.aload_n 0, 1) := by decide +kernel
theorem dX2_doAct_389 : decode cX2_doAct 389 = .ok (.iload_n 3, 1) := by decide +kernel
theorem dX2_doAct_390 : decode cX2_doAct 390 = .ok (.aload_n 0, 1) := by decide +kernel
theorem dX2_doAct_391 : decode cX2_doAct 391 = .ok (.getfield 26, 3) := by decide +kernel
theorem dX2_doAct_394 : decode cX2_doAct 394 = .ok (.iload 4, 2) := by decide +kernel
theorem dX2_doAct_396 : decode cX2_doAct 396 = .ok (.iaload, 1) := by decide +kernel
theorem dX2_doAct_397 : decode cX2_doAct 397 = .ok (.invokevirtual 121, 3) := by decide +kernel
theorem dX2_doAct_400 : decode cX2_doAct 400 = .ok (.ireturn, 1) := by decide +kernel
theorem dX2_doAct_401 : decode cX2_doAct 401 = .ok (.iconst 0, 1) := by decide +kernel
theorem dX2_doAct_402 : decode cX2_doAct 402 = .ok (.ireturn, 1) := by decide +kernel
theorem dX2_doNew_0 : decode cX2_doNew 0 = .ok (.iload 4, 2) := by decide +kernel
theorem dX2_doNew_2 : decode cX2_doNew 2 = .ok (.ifCond .ge 5, 3) := by decide +kernel
theorem dX2_doNew_5 : decode cX2_doNew 5 = .ok (.iconst 3, 1) := by decide +kernel
theorem dX2_doNew_6 : decode cX2_doNew 6 = .ok (.ireturn, 1) := by decide +kernel
theorem dX2_doNew_7 : decode cX2_doNew 7 = .ok (.iload 4, 2) := by decide +kernel
theorem dX2_doNew_9 : decode cX2_doNew 9 = .ok (.bipush 12, 2) := by decide +kernel
theorem dX2_doNew_11 : decode cX2_doNew 11 = .ok (.if_icmp .le 6, 3) := by decide +kernel
theorem dX2_doNew_14 : decode cX2_doNew 14 = .ok (.bipush 7, 2) := by decide +kernel
theorem dX2_doNew_16 : decode cX2_doNew 16 = .ok (.ireturn, 1) := by decide +kernel
theorem dX2_doNew_17 : decode cX2_doNew 17 = .ok (.aload_n 0, 1) := by decide +kernel
theorem dX2_doNew_18 : decode cX2_doNew 18 = .ok (.getfield 29, 3) := by decide +kernel
theorem dX2_doNew_21 : decode cX2_doNew 21 = .ok (.iload_n 1, 1) := by decide +kernel
theorem dX2_doNew_22 : decode cX2_doNew 22 = .ok (.iload_n 3, 1) := by decide +kernel
theorem dX2_doNew_23 : decode cX2_doNew 23 = .ok (.iastore, 1) := by decide +kernel
theorem dX2_doNew_24 : decode cX2_doNew 24 = .ok (.aload_n 0, 1) := by decide +kernel
theorem dX2_doNew_25 : decode cX2_doNew 25 = .ok (.getfield 32, 3) := by decide +kernel
theorem dX2_doNew_28 : decode cX2_doNew 28 = .ok (.iload_n 1, 1) := by decide +kernel
theorem dX2_doNew_29 : decode cX2_doNew 29 = .ok (.iload 4, 2) := by decide +kernel
theorem dX2_doNew_31 : decode cX2_doNew 31 = .ok (.iastore, 1) := by decide +kernel
theorem dX2_doNew_32 : decode cX2_doNew 32 = .ok (.iconst 0, 1) := by decide +kernel
theorem dX2_doNew_33 : decode cX2_doNew 33 = .ok (.istore 5, 2) := by decide +kernel
theorem dX2_doNew_35 : decode cX2_doNew 35 = .ok (.iload 5, 2) := by decide +kernel
theorem dX2_doNew_37 : decode cX2_doNew 37 = .ok (.bipush 12, 2) := by decide +kernel
theorem dX2_doNew_39 : decode cX2_doNew 39 = .ok (.if_icmp .ge 22, 3) := by decide +kernel
theorem dX2_doNew_42 : decode cX2_doNew 42 = .ok (.aload_n 0, 1) := by decide +kernel
theorem dX2_doNew_43 : decode cX2_doNew 43 = .ok (.getfield 35, 3) := by decide +kernel
theorem dX2_doNew_46 : decode cX2_doNew 46 = .ok (.iload_n 1, 1) := by decide +kernel
theorem dX2_doNew_47 : decode cX2_doNew 47 = .ok (.bipush 12, 2) := by decide +kernel
theorem dX2_doNew_49 : decode cX2_doNew 49 = .ok (.imul, 1) := by decide +kernel
theorem dX2_doNew_50 : decode cX2_doNew 50 = .ok (.iload 5, 2) := by decide +kernel
theorem dX2_doNew_52 : decode cX2_doNew 52 = .ok (.iadd, 1) := by decide +kernel
theorem dX2_doNew_53 : decode cX2_doNew 53 = .ok (.iconst 0, 1) := by decide +kernel
theorem dX2_doNew_54 : decode cX2_doNew 54 = .ok (.iastore, 1) := by decide +kernel
theorem dX2_doNew_55 : decode cX2_doNew 55 = .ok (.iinc 5 1, 3) := by decide +kernel
theorem dX2_doNew_58 : decode cX2_doNew 58 = .ok (.goto (-23), 3) := by decide +kernel
theorem dX2_doNew_61 : decode cX2_doNew 61 = .ok (.aload_n 0, 1) := by decide +kernel
theorem dX2_doNew_62 : decode cX2_doNew 62 = .ok (.getfield 26, 3) := by decide +kernel
theorem dX2_doNew_65 : decode cX2_doNew 65 = .ok (.iload_n 2, 1) := by decide +kernel
theorem dX2_doNew_66 : decode cX2_doNew 66 = .ok (.iload_n 1, 1) := by decide +kernel
theorem dX2_doNew_67 : decode cX2_doNew 67 = .ok (.iastore, 1) := by decide +kernel
theorem dX2_doNew_68 : decode cX2_doNew 68 = .ok (.iconst 0, 1) := by decide +kernel
theorem dX2_doNew_69 : decode cX2_doNew 69 = .ok (.ireturn, 1) := by decide +kernel
theorem dX2_doClone_0 : decode cX2_doClone 0 = .ok (.iload_n 3, 1) := by decide +kernel
theorem dX2_doClone_1 : decode cX2_doClone 1 = .ok (.ifCond .ge 5, 3) := by decide +kernel
theorem dX2_doClone_4 : decode cX2_doClone 4 = .ok (.iconst 1, 1) := by decide +kernel
theorem dX2_doClone_5 : decode cX2_doClone 5 = .ok (.ireturn, 1) := by decide +kernel
theorem dX2_doClone_6 : decode cX2_doClone 6 = .ok (.aload_n 0, 1) := by decide +kernel
theorem dX2_doClone_7 : decode cX2_doClone 7 = .ok (.getfield 29, 3) := by decide +kernel
theorem dX2_doClone_10 : decode cX2_doClone 10 = .ok (.iload_n 1, 1) := by decide +kernel
theorem dX2_doClone_11 : decode cX2_doClone 11 = .ok (.aload_n 0, 1) := by decide +kernel
theorem dX2_doClone_12 : decode cX2_doClone 12 = .ok (.getfield 29, 3) := by decide +kernel
theorem dX2_doClone_15 : decode cX2_doClone 15 = .ok (.iload_n 3, 1) := by decide +kernel
theorem dX2_doClone_16 : decode cX2_doClone 16 = .ok (.iaload, 1) := by decide +kernel
theorem dX2_doClone_17 : decode cX2_doClone 17 = .ok (.iastore, 1) := by decide +kernel
theorem dX2_doClone_18 : decode cX2_doClone 18 = .ok (.aload_n 0, 1) := by decide +kernel
theorem dX2_doClone_19 : decode cX2_doClone 19 = .ok (.getfield 32, 3) := by decide +kernel
theorem dX2_doClone_22 : decode cX2_doClone 22 = .ok (.iload_n 1, 1) := by decide +kernel
theorem dX2_doClone_23 : decode cX2_doClone 23 = .ok (.aload_n 0, 1) := by decide +kernel
theorem dX2_doClone_24 : decode cX2_doClone 24 = .ok (.getfield 32, 3) := by decide +kernel
theorem dX2_doClone_27 : decode cX2_doClone 27 = .ok (.iload_n 3, 1) := by decide +kernel
theorem dX2_doClone_28 : decode cX2_doClone 28 = .ok (.iaload, 1) := by decide +kernel
theorem dX2_doClone_29 : decode cX2_doClone 29 = .ok (.iastore, 1) := by decide +kernel
theorem dX2_doClone_30 : decode cX2_doClone 30 = .ok (.aload_n 0, 1) := by decide +kernel
theorem dX2_doClone_31 : decode cX2_doClone 31 = .ok (.getfield 35, 3) := by decide +kernel
theorem dX2_doClone_34 : decode cX2_doClone 34 = .ok (.iload_n 3, 1) := by decide +kernel
theorem dX2_doClone_35 : decode cX2_doClone 35 = .ok (.bipush 12, 2) := by decide +kernel
theorem dX2_doClone_37 : decode cX2_doClone 37 = .ok (.imul, 1) := by decide +kernel
theorem dX2_doClone_38 : decode cX2_doClone 38 = .ok (.aload_n 0, 1) := by decide +kernel
theorem dX2_doClone_39 : decode cX2_doClone 39 = .ok (.getfield 35, 3) := by decide +kernel
theorem dX2_doClone_42 : decode cX2_doClone 42 = .ok (.iload_n 1, 1) := by decide +kernel
theorem dX2_doClone_43 : decode cX2_doClone 43 = .ok (.bipush 12, 2) := by decide +kernel
theorem dX2_doClone_45 : decode cX2_doClone 45 = .ok (.imul, 1) := by decide +kernel
theorem dX2_doClone_46 : decode cX2_doClone 46 = .ok (.bipush 12, 2) := by decide +kernel
theorem dX2_doClone_48 : decode cX2_doClone 48 = .ok (.invokestatic 124, 3) := by decide +kernel
theorem dX2_doClone_51 : decode cX2_doClone 51 = .ok (.aload_n 0, 1) := by decide +kernel
theorem dX2_doClone_52 : decode cX2_doClone 52 = .ok (.getfield 26, 3) := by decide +kernel
theorem dX2_doClone_55 : decode cX2_doClone 55 = .ok (.iload_n 2, 1) := by decide +kernel
theorem dX2_doClone_56 : decode cX2_doClone 56 = .ok (.iload_n 1, 1) := by decide +kernel
theorem dX2_doClone_57 : decode cX2_doClone 57 = .ok (.iastore, 1) := by decide +kernel
theorem dX2_doClone_58 : decode cX2_doClone 58 = .ok (.iconst 0, 1) := by decide +kernel
theorem dX2_doClone_59 : decode cX2_doClone 59 = .ok (.ireturn, 1) := by decide +kernel
theorem dX2_doWrite_0 : decode cX2_doWrite 0 = .ok (.aload_n 0, 1) := by decide +kernel
theorem dX2_doWrite_1 : decode cX2_doWrite 1 = .ok (.iload_n 1, 1) := by decide +kernel
theorem dX2_doWrite_2 : decode cX2_doWrite 2 = .ok (.iload_n 2, 1) := by decide +kernel
theorem dX2_doWrite_3 : decode cX2_doWrite 3 = .ok (.iload_n 3, 1) := by decide +kernel
theorem dX2_doWrite_4 : decode cX2_doWrite 4 = .ok (.invokevirtual 130, 3) := by decide +kernel
theorem dX2_doWrite_7 : decode cX2_doWrite 7 = .ok (.istore 5, 2) := by decide +kernel
theorem dX2_doWrite_9 : decode cX2_doWrite 9 = .ok (.iload 5, 2) := by decide +kernel
theorem dX2_doWrite_11 : decode cX2_doWrite 11 = .ok (.ifCond .ne 20, 3) := by decide +kernel
theorem dX2_doWrite_14 : decode cX2_doWrite 14 = .ok (.aload_n 0, 1) := by decide +kernel
theorem dX2_doWrite_15 : decode cX2_doWrite 15 = .ok (.getfield 35, 3) := by decide +kernel
theorem dX2_doWrite_18 : decode cX2_doWrite 18 = .ok (.iload_n 1, 1) := by decide +kernel
theorem dX2_doWrite_19 : decode cX2_doWrite 19 = .ok (.bipush 12, 2) := by decide +kernel
theorem dX2_doWrite_21 : decode cX2_doWrite 21 = .ok (.imul, 1) := by decide +kernel
theorem dX2_doWrite_22 : decode cX2_doWrite 22 = .ok (.iload_n 3, 1) := by decide +kernel
theorem dX2_doWrite_23 : decode cX2_doWrite 23 = .ok (.iadd, 1) := by decide +kernel
theorem dX2_doWrite_24 : decode cX2_doWrite 24 = .ok (.iload_n 2, 1) := by decide +kernel
theorem dX2_doWrite_25 : decode cX2_doWrite 25 = .ok (.iload 4, 2) := by decide +kernel
theorem dX2_doWrite_27 : decode cX2_doWrite 27 = .ok (.invokestatic 133, 3) := by decide +kernel
theorem dX2_doWrite_30 : decode cX2_doWrite 30 = .ok (.iastore, 1) := by decide +kernel
theorem dX2_doWrite_31 : decode cX2_doWrite 31 = .ok (.iload 5, 2) := by decide +kernel
theorem dX2_doWrite_33 : decode cX2_doWrite 33 = .ok (.ireturn, 1) := by decide +kernel
theorem dX2_doRead_0 : decode cX2_doRead 0 = .ok (.aload_n 0, 1) := by decide +kernel
theorem dX2_doRead_1 : decode cX2_doRead 1 = .ok (.iload_n 2, 1) := by decide +kernel
theorem dX2_doRead_2 : decode cX2_doRead 2 = .ok (.iload_n 3, 1) := by decide +kernel
theorem dX2_doRead_3 : decode cX2_doRead 3 = .ok (.iload 4, 2) := by decide +kernel
theorem dX2_doRead_5 : decode cX2_doRead 5 = .ok (.invokevirtual 130, 3) := by decide +kernel
theorem dX2_doRead_8 : decode cX2_doRead 8 = .ok (.istore 5, 2) := by decide +kernel
theorem dX2_doRead_10 : decode cX2_doRead 10 = .ok (.iload 5, 2) := by decide +kernel
theorem dX2_doRead_12 : decode cX2_doRead 12 = .ok (.ifCond .ne 21, 3) := by decide +kernel
theorem dX2_doRead_15 : decode cX2_doRead 15 = .ok (.aload_n 0, 1) := by decide +kernel
theorem dX2_doRead_16 : decode cX2_doRead 16 = .ok (.getfield 22, 3) := by decide +kernel
theorem dX2_doRead_19 : decode cX2_doRead 19 = .ok (.iload_n 1, 1) := by decide +kernel
theorem dX2_doRead_20 : decode cX2_doRead 20 = .ok (.aload_n 0, 1) := by decide +kernel
theorem dX2_doRead_21 : decode cX2_doRead 21 = .ok (.getfield 35, 3) := by decide +kernel
theorem dX2_doRead_24 : decode cX2_doRead 24 = .ok (.iload_n 2, 1) := by decide +kernel
theorem dX2_doRead_25 : decode cX2_doRead 25 = .ok (.bipush 12, 2) := by decide +kernel
theorem dX2_doRead_27 : decode cX2_doRead 27 = .ok (.imul, 1) := by decide +kernel
theorem dX2_doRead_28 : decode cX2_doRead 28 = .ok (.iload 4, 2) := by decide +kernel
theorem dX2_doRead_30 : decode cX2_doRead 30 = .ok (.iadd, 1) := by decide +kernel
theorem dX2_doRead_31 : decode cX2_doRead 31 = .ok (.iaload, 1) := by decide +kernel
theorem dX2_doRead_32 : decode cX2_doRead 32 = .ok (.iastore, 1) := by decide +kernel
theorem dX2_doRead_33 : decode cX2_doRead 33 = .ok (.iload 5, 2) := by decide +kernel
theorem dX2_doRead_35 : decode cX2_doRead 35 = .ok (.ireturn, 1) := by decide +kernel
theorem dX2_doCopy_0 : decode cX2_doCopy 0 = .ok (.iload_n 1, 1) := by decide +kernel
theorem dX2_doCopy_1 : decode cX2_doCopy 1 = .ok (.ifCond .lt 7, 3) := by decide +kernel
theorem dX2_doCopy_4 : decode cX2_doCopy 4 = .ok (.iload_n 3, 1) := by decide +kernel
theorem dX2_doCopy_5 : decode cX2_doCopy 5 = .ok (.ifCond .ge 5, 3) := by decide +kernel
theorem dX2_doCopy_8 : decode cX2_doCopy 8 = .ok (.iconst 1, 1) := by decide +kernel
theorem dX2_doCopy_9 : decode cX2_doCopy 9 = .ok (.ireturn, 1) := by decide +kernel
theorem dX2_doCopy_10 : decode cX2_doCopy 10 = .ok (.aload_n 0, 1) := by decide +kernel
theorem dX2_doCopy_11 : decode cX2_doCopy 11 = .ok (.getfield 29, 3) := by decide +kernel
theorem dX2_doCopy_14 : decode cX2_doCopy 14 = .ok (.iload_n 1, 1) := by decide +kernel
theorem dX2_doCopy_15 : decode cX2_doCopy 15 = .ok (.iaload, 1) := by decide +kernel
theorem dX2_doCopy_16 : decode cX2_doCopy 16 = .ok (.aload_n 0, 1) := by decide +kernel
theorem dX2_doCopy_17 : decode cX2_doCopy 17 = .ok (.getfield 29, 3) := by decide +kernel
theorem dX2_doCopy_20 : decode cX2_doCopy 20 = .ok (.iload_n 3, 1) := by decide +kernel
theorem dX2_doCopy_21 : decode cX2_doCopy 21 = .ok (.iaload, 1) := by decide +kernel
theorem dX2_doCopy_22 : decode cX2_doCopy 22 = .ok (.if_icmp .eq 5, 3) := by decide +kernel
theorem dX2_doCopy_25 : decode cX2_doCopy 25 = .ok (.iconst 4, 1) := by decide +kernel
theorem dX2_doCopy_26 : decode cX2_doCopy 26 = .ok (.ireturn, 1) := by decide +kernel
theorem dX2_doCopy_27 : decode cX2_doCopy 27 = .ok (.iload_n 2, 1) := by decide +kernel
theorem dX2_doCopy_28 : decode cX2_doCopy 28 = .ok (.ifCond .lt 13, 3) := by decide +kernel
theorem dX2_doCopy_31 : decode cX2_doCopy 31 = .ok (.iload 4, 2) := by decide +kernel
theorem dX2_doCopy_33 : decode cX2_doCopy 33 = .ok (.ifCond .lt 8, 3) := by decide +kernel
theorem dX2_doCopy_36 : decode cX2_doCopy 36 = .ok (.iload 5, 2) := by decide +kernel
theorem dX2_doCopy_38 : decode cX2_doCopy 38 = .ok (.ifCond .ge 5, 3) := by decide +kernel
theorem dX2_doCopy_41 : decode cX2_doCopy 41 = .ok (.iconst 5, 1) := by decide +kernel
theorem dX2_doCopy_42 : decode cX2_doCopy 42 = .ok (.ireturn, 1) := by decide +kernel
theorem dX2_doCopy_43 : decode cX2_doCopy 43 = .ok (.iload_n 2, 1) := by decide +kernel
theorem dX2_doCopy_44 : decode cX2_doCopy 44 = .ok (.i2l, 1) := by decide +kernel
theorem dX2_doCopy_45 : decode cX2_doCopy 45 = .ok (.iload 5, 2) := by decide +kernel
theorem dX2_doCopy_47 : decode cX2_doCopy 47 = .ok (.i2l, 1) := by decide +kernel
theorem dX2_doCopy_48 : decode cX2_doCopy 48 = .ok (.ladd, 1) := by decide +kernel
theorem dX2_doCopy_49 : decode cX2_doCopy 49 = .ok (.aload_n 0, 1) := by decide +kernel
theorem dX2_doCopy_50 : decode cX2_doCopy 50 = .ok (.getfield 32, 3) := by decide +kernel
theorem dX2_doCopy_53 : decode cX2_doCopy 53 = .ok (.iload_n 1, 1) := by decide +kernel
theorem dX2_doCopy_54 : decode cX2_doCopy 54 = .ok (.iaload, 1) := by decide +kernel
theorem dX2_doCopy_55 : decode cX2_doCopy 55 = .ok (.i2l, 1) := by decide +kernel
theorem dX2_doCopy_56 : decode cX2_doCopy 56 = .ok (.lcmp, 1) := by decide +kernel
theorem dX2_doCopy_57 : decode cX2_doCopy 57 = .ok (.ifCond .gt 21, 3) := by decide +kernel
theorem dX2_doCopy_60 : decode cX2_doCopy 60 = .ok (.iload 4, 2) := by decide +kernel
theorem dX2_doCopy_62 : decode cX2_doCopy 62 = .ok (.i2l, 1) := by decide +kernel
theorem dX2_doCopy_63 : decode cX2_doCopy 63 = .ok (.iload 5, 2) := by decide +kernel
theorem dX2_doCopy_65 : decode cX2_doCopy 65 = .ok (.i2l, 1) := by decide +kernel
theorem dX2_doCopy_66 : decode cX2_doCopy 66 = .ok (.ladd, 1) := by decide +kernel
theorem dX2_doCopy_67 : decode cX2_doCopy 67 = .ok (.aload_n 0, 1) := by decide +kernel
theorem dX2_doCopy_68 : decode cX2_doCopy 68 = .ok (.getfield 32, 3) := by decide +kernel
theorem dX2_doCopy_71 : decode cX2_doCopy 71 = .ok (.iload_n 3, 1) := by decide +kernel
theorem dX2_doCopy_72 : decode cX2_doCopy 72 = .ok (.iaload, 1) := by decide +kernel
theorem dX2_doCopy_73 : decode cX2_doCopy 73 = .ok (.i2l, 1) := by decide +kernel
theorem dX2_doCopy_74 : decode cX2_doCopy 74 = .ok (.lcmp, 1) := by decide +kernel
theorem dX2_doCopy_75 : decode cX2_doCopy 75 = .ok (.ifCond .le 5, 3) := by decide +kernel
theorem dX2_doCopy_78 : decode cX2_doCopy 78 = .ok (.iconst 5, 1) := by decide +kernel
theorem dX2_doCopy_79 : decode cX2_doCopy 79 = .ok (.ireturn, 1) := by decide +kernel
theorem dX2_doCopy_80 : decode cX2_doCopy 80 = .ok (.aload_n 0, 1) := by decide +kernel
theorem dX2_doCopy_81 : decode cX2_doCopy 81 = .ok (.getfield 35, 3) := by decide +kernel
theorem dX2_doCopy_84 : decode cX2_doCopy 84 = .ok (.iload_n 1, 1) := by decide +kernel
theorem dX2_doCopy_85 : decode cX2_doCopy 85 = .ok (.bipush 12, 2) := by decide +kernel
theorem dX2_doCopy_87 : decode cX2_doCopy 87 = .ok (.imul, 1) := by decide +kernel
theorem dX2_doCopy_88 : decode cX2_doCopy 88 = .ok (.iload_n 2, 1) := by decide +kernel
theorem dX2_doCopy_89 : decode cX2_doCopy 89 = .ok (.iadd, 1) := by decide +kernel
theorem dX2_doCopy_90 : decode cX2_doCopy 90 = .ok (.aload_n 0, 1) := by decide +kernel
theorem dX2_doCopy_91 : decode cX2_doCopy 91 = .ok (.getfield 35, 3) := by decide +kernel
theorem dX2_doCopy_94 : decode cX2_doCopy 94 = .ok (.iload_n 3, 1) := by decide +kernel
theorem dX2_doCopy_95 : decode cX2_doCopy 95 = .ok (.bipush 12, 2) := by decide +kernel
theorem dX2_doCopy_97 : decode cX2_doCopy 97 = .ok (.imul, 1) := by decide +kernel
theorem dX2_doCopy_98 : decode cX2_doCopy 98 = .ok (.iload 4, 2) := by decide +kernel
theorem dX2_doCopy_100 : decode cX2_doCopy 100 = .ok (.iadd, 1) := by decide +kernel
theorem dX2_doCopy_101 : decode cX2_doCopy 101 = .ok (.iload 5, 2) := by decide +kernel
theorem dX2_doCopy_103 : decode cX2_doCopy 103 = .ok (.invokestatic 124, 3) := by decide +kernel
theorem dX2_doCopy_106 : decode cX2_doCopy 106 = .ok (.iconst 0, 1) := by decide +kernel
theorem dX2_doCopy_107 : decode cX2_doCopy 107 = .ok (.ireturn, 1) := by decide +kernel
theorem dX2_doFill_0 : decode cX2_doFill 0 = .ok (.iconst 0, 1) := by decide +kernel
theorem dX2_doFill_1 : decode cX2_doFill 1 = .ok (.istore 6, 2) := by decide +kernel
theorem dX2_doFill_3 : decode cX2_doFill 3 = .ok (.iload_n 3, 1) := by decide +kernel
theorem dX2_doFill_4 : decode cX2_doFill 4 = .ok (.istore 7, 2) := by decide +kernel
theorem dX2_doFill_6 : decode cX2_doFill 6 = .ok (.iload 7, 2) := by decide +kernel
theorem dX2_doFill_8 : decode cX2_doFill 8 = .ok (.iload 4, 2) := by decide +kernel
theorem dX2_doFill_10 : decode cX2_doFill 10 = .ok (.if_icmp .ge 26, 3) := by decide +kernel
theorem dX2_doFill_13 : decode cX2_doFill 13 = .ok (.iload 6, 2) := by decide +kernel
theorem dX2_doFill_15 : decode cX2_doFill 15 = .ok (.ifCond .ne 21, 3) := by decide +kernel
theorem dX2_doFill_18 : decode cX2_doFill 18 = .ok (.aload_n 0, 1) := by decide +kernel
theorem dX2_doFill_19 : decode cX2_doFill 19 = .ok (.iload_n 1, 1) := by decide +kernel
theorem dX2_doFill_20 : decode cX2_doFill 20 = .ok (.iload_n 2, 1) := by decide +kernel
theorem dX2_doFill_21 : decode cX2_doFill 21 = .ok (.iload 7, 2) := by decide +kernel
theorem dX2_doFill_23 : decode cX2_doFill 23 = .ok (.iload 5, 2) := by decide +kernel
theorem dX2_doFill_25 : decode cX2_doFill 25 = .ok (.invokevirtual 108, 3) := by decide +kernel
theorem dX2_doFill_28 : decode cX2_doFill 28 = .ok (.istore 6, 2) := by decide +kernel
theorem dX2_doFill_30 : decode cX2_doFill 30 = .ok (.iinc 7 1, 3) := by decide +kernel
theorem dX2_doFill_33 : decode cX2_doFill 33 = .ok (.goto (-27), 3) := by decide +kernel
theorem dX2_doFill_36 : decode cX2_doFill 36 = .ok (.iload 6, 2) := by decide +kernel
theorem dX2_doFill_38 : decode cX2_doFill 38 = .ok (.ireturn, 1) := by decide +kernel
theorem dX2_doLength_0 : decode cX2_doLength 0 = .ok (.iload_n 2, 1) := by decide +kernel
theorem dX2_doLength_1 : decode cX2_doLength 1 = .ok (.ifCond .ge 5, 3) := by decide +kernel
theorem dX2_doLength_4 : decode cX2_doLength 4 = .ok (.iconst 1, 1) := by decide +kernel
theorem dX2_doLength_5 : decode cX2_doLength 5 = .ok (.ireturn, 1) := by decide +kernel
theorem dX2_doLength_6 : decode cX2_doLength 6 = .ok (.aload_n 0, 1) := by decide +kernel
theorem dX2_doLength_7 : decode cX2_doLength 7 = .ok (.getfield 22, 3) := by decide +kernel
theorem dX2_doLength_10 : decode cX2_doLength 10 = .ok (.iload_n 1, 1) := by decide +kernel
theorem dX2_doLength_11 : decode cX2_doLength 11 = .ok (.aload_n 0, 1) := by decide +kernel
theorem dX2_doLength_12 : decode cX2_doLength 12 = .ok (.getfield 32, 3) := by decide +kernel
theorem dX2_doLength_15 : decode cX2_doLength 15 = .ok (.iload_n 2, 1) := by decide +kernel
theorem dX2_doLength_16 : decode cX2_doLength 16 = .ok (.iaload, 1) := by decide +kernel
theorem dX2_doLength_17 : decode cX2_doLength 17 = .ok (.iastore, 1) := by decide +kernel
theorem dX2_doLength_18 : decode cX2_doLength 18 = .ok (.iconst 0, 1) := by decide +kernel
theorem dX2_doLength_19 : decode cX2_doLength 19 = .ok (.ireturn, 1) := by decide +kernel
theorem dX2_placeProblem_0 : decode cX2_placeProblem 0 = .ok (.iload_n 1, 1) := by decide +kernel
theorem dX2_placeProblem_1 : decode cX2_placeProblem 1 = .ok (.ifCond .ge 5, 3) := by decide +kernel
theorem dX2_placeProblem_4 : decode cX2_placeProblem 4 = .ok (.iconst 1, 1) := by decide +kernel
theorem dX2_placeProblem_5 : decode cX2_placeProblem 5 = .ok (.ireturn, 1) := by decide +kernel
theorem dX2_placeProblem_6 : decode cX2_placeProblem 6 = .ok (.aload_n 0, 1) := by decide +kernel
theorem dX2_placeProblem_7 : decode cX2_placeProblem 7 = .ok (.getfield 29, 3) := by decide +kernel
theorem dX2_placeProblem_10 : decode cX2_placeProblem 10 = .ok (.iload_n 1, 1) := by decide +kernel
theorem dX2_placeProblem_11 : decode cX2_placeProblem 11 = .ok (.iaload, 1) := by decide +kernel
theorem dX2_placeProblem_12 : decode cX2_placeProblem 12 = .ok (.iload_n 2, 1) := by decide +kernel
theorem dX2_placeProblem_13 : decode cX2_placeProblem 13 = .ok (.if_icmp .eq 5, 3) := by decide +kernel
theorem dX2_placeProblem_16 : decode cX2_placeProblem 16 = .ok (.iconst 2, 1) := by decide +kernel
theorem dX2_placeProblem_17 : decode cX2_placeProblem 17 = .ok (.ireturn, 1) := by decide +kernel
theorem dX2_placeProblem_18 : decode cX2_placeProblem 18 = .ok (.iload_n 3, 1) := by decide +kernel
theorem dX2_placeProblem_19 : decode cX2_placeProblem 19 = .ok (.ifCond .lt 13, 3) := by decide +kernel
theorem dX2_placeProblem_22 : decode cX2_placeProblem 22 = .ok (.iload_n 3, 1) := by decide +kernel
theorem dX2_placeProblem_23 : decode cX2_placeProblem 23 = .ok (.aload_n 0, 1) := by decide +kernel
theorem dX2_placeProblem_24 : decode cX2_placeProblem 24 = .ok (.getfield 32, 3) := by decide +kernel
theorem dX2_placeProblem_27 : decode cX2_placeProblem 27 = .ok (.iload_n 1, 1) := by decide +kernel
theorem dX2_placeProblem_28 : decode cX2_placeProblem 28 = .ok (.iaload, 1) := by decide +kernel
theorem dX2_placeProblem_29 : decode cX2_placeProblem 29 = .ok (.if_icmp .lt 7, 3) := by decide +kernel
theorem dX2_placeProblem_32 : decode cX2_placeProblem 32 = .ok (.iconst 5, 1) := by decide +kernel
theorem dX2_placeProblem_33 : decode cX2_placeProblem 33 = .ok (.goto 4, 3) := by decide +kernel
theorem dX2_placeProblem_36 : decode cX2_placeProblem 36 = .ok (.iconst 0, 1) := by decide +kernel
theorem dX2_placeProblem_37 : decode cX2_placeProblem 37 = .ok (.ireturn, 1) := by decide +kernel
theorem dX2_castTo_0 : decode cX2_castTo 0 = .ok (.iload_n 0, 1) := by decide +kernel
theorem dX2_castTo_1 : decode cX2_castTo 1 = .ok (.ifCond .ne 6, 3) := by decide +kernel
theorem dX2_castTo_4 : decode cX2_castTo 4 = .ok (.iload_n 1, 1) := by decide +kernel
theorem dX2_castTo_5 : decode cX2_castTo 5 = .ok (.i2b, 1) := by decide +kernel
theorem dX2_castTo_6 : decode cX2_castTo 6 = .ok (.ireturn, 1) := by decide +kernel
theorem dX2_castTo_7 : decode cX2_castTo 7 = .ok (.iload_n 0, 1) := by decide +kernel
theorem dX2_castTo_8 : decode cX2_castTo 8 = .ok (.iconst 1, 1) := by decide +kernel
theorem dX2_castTo_9 : decode cX2_castTo 9 = .ok (.if_icmp .ne 8, 3) := by decide +kernel
theorem dX2_castTo_12 : decode cX2_castTo 12 = .ok (.iload_n 1, 1) := by decide +kernel
theorem dX2_castTo_13 : decode cX2_castTo 13 = .ok (.i2c, 1) := by decide +kernel
theorem dX2_castTo_14 : decode cX2_castTo 14 = .ok (.goto 4, 3) := by decide +kernel
theorem dX2_castTo_17 : decode cX2_castTo 17 = .ok (.iload_n 1, 1) := by decide +kernel
theorem dX2_castTo_18 : decode cX2_castTo 18 = .ok (.ireturn, 1) := by decide +kernel
theorem dX3_init_0 : decode cX3_init 0 = .ok (.aload_n 0, 1) := by decide +kernel
theorem dX3_init_1 : decode cX3_init 1 = .ok (.invokespecial 3, 3) := by decide +kernel
theorem dX3_init_4 : decode cX3_init 4 = .ok (.aload_n 0, 1) := by decide +kernel
theorem dX3_init_5 : decode cX3_init 5 = .ok (.sipush 240, 3) := by decide +kernel
theorem dX3_init_8 : decode cX3_init 8 = .ok (.newarray .int, 2) := by decide +kernel
theorem dX3_init_10 : decode cX3_init 10 = .ok (.putfield 11, 3) := by decide +kernel
theorem dX3_init_13 : decode cX3_init 13 = .ok (.aload_n 0, 1) := by decide +kernel
theorem dX3_init_14 : decode cX3_init 14 = .ok (.bipush 40, 2) := by decide +kernel
theorem dX3_init_16 : decode cX3_init 16 = .ok (.newarray .boolean, 2) := by decide +kernel
theorem dX3_init_18 : decode cX3_init 18 = .ok (.putfield 15, 3) := by decide +kernel
theorem dX3_init_21 : decode cX3_init 21 = .ok (.aload_n 0, 1) := by decide +kernel
theorem dX3_init_22 : decode cX3_init 22 = .ok (.iconst 0, 1) := by decide +kernel
theorem dX3_init_23 : decode cX3_init 23 = .ok (.putfield 19, 3) := by decide +kernel
theorem dX3_init_26 : decode cX3_init 26 = .ok (.return_, 1) := by decide +kernel
theorem dX3_isAct_0 : decode cX3_isAct 0 = .ok (.iload_n 0, 1) := by decide +kernel
theorem dX3_isAct_1 : decode cX3_isAct 1 = .ok (.tableswitch 426 0 14 #[75, 95, 127, 127, 154, 181, 186, 206, 186, 233, 268, 303, 346, 389, 409], 75) := by decide +kernel
theorem dX3_isAct_76 : decode cX3_isAct 76 = .ok (.iload_n 1, 1) := by decide +kernel
theorem dX3_isAct_77 : decode cX3_isAct 77 = .ok (.invokestatic 23, 3) := by decide +kernel
theorem dX3_isAct_80 : decode cX3_isAct 80 = .ok (.ifCond .eq 14, 3) := by decide +kernel
theorem dX3_isAct_83 : decode cX3_isAct 83 = .ok (.iload_n 2, 1) := by decide +kernel
theorem dX3_isAct_84 : decode cX3_isAct 84 = .ok (.invokestatic 27, 3) := by decide +kernel
theorem dX3_isAct_87 : decode cX3_isAct 87 = .ok (.ifCond .eq 7, 3) := by decide +kernel
theorem dX3_isAct_90 : decode cX3_isAct 90 = .ok (.iconst 1, 1) := by decide +kernel
theorem dX3_isAct_91 : decode cX3_isAct 91 = .ok (.goto 4, 3) := by decide +kernel
theorem dX3_isAct_94 : decode cX3_isAct 94 = .ok (.iconst 0, 1) := by decide +kernel
theorem dX3_isAct_95 : decode cX3_isAct 95 = .ok (.ireturn, 1) := by decide +kernel
