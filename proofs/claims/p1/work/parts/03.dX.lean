theorem dX0_init_0 : decode cX0_init 0 = .ok (.aload_n 0, 1) := by decide +kernel
theorem dX0_init_1 : decode cX0_init 1 = .ok (.invokespecial 3, 3) := by decide +kernel
theorem dX0_init_4 : decode cX0_init 4 = .ok (.aload_n 0, 1) := by decide +kernel
theorem dX0_init_5 : decode cX0_init 5 = .ok (.iconst 0, 1) := by decide +kernel
theorem dX0_init_6 : decode cX0_init 6 = .ok (.putfield 9, 3) := by decide +kernel
theorem dX0_init_9 : decode cX0_init 9 = .ok (.aload_n 0, 1) := by decide +kernel
theorem dX0_init_10 : decode cX0_init 10 = .ok (.bipush 6, 2) := by decide +kernel
theorem dX0_init_12 : decode cX0_init 12 = .ok (.newarray .int, 2) := by decide +kernel
theorem dX0_init_14 : decode cX0_init 14 = .ok (.putfield 15, 3) := by decide +kernel
theorem dX0_init_17 : decode cX0_init 17 = .ok (.aload_n 0, 1) := by decide +kernel
theorem dX0_init_18 : decode cX0_init 18 = .ok (.bipush 6, 2) := by decide +kernel
theorem dX0_init_20 : decode cX0_init 20 = .ok (.newarray .int, 2) := by decide +kernel
theorem dX0_init_22 : decode cX0_init 22 = .ok (.putfield 19, 3) := by decide +kernel
theorem dX0_init_25 : decode cX0_init 25 = .ok (.aload_n 0, 1) := by decide +kernel
theorem dX0_init_26 : decode cX0_init 26 = .ok (.bipush 6, 2) := by decide +kernel
theorem dX0_init_28 : decode cX0_init 28 = .ok (.newarray .long, 2) := by decide +kernel
theorem dX0_init_30 : decode cX0_init 30 = .ok (.putfield 22, 3) := by decide +kernel
theorem dX0_init_33 : decode cX0_init 33 = .ok (.aload_n 0, 1) := by decide +kernel
theorem dX0_init_34 : decode cX0_init 34 = .ok (.bipush 6, 2) := by decide +kernel
theorem dX0_init_36 : decode cX0_init 36 = .ok (.newarray .boolean, 2) := by decide +kernel
theorem dX0_init_38 : decode cX0_init 38 = .ok (.putfield 26, 3) := by decide +kernel
theorem dX0_init_41 : decode cX0_init 41 = .ok (.aload_n 0, 1) := by decide +kernel
theorem dX0_init_42 : decode cX0_init 42 = .ok (.bipush 40, 2) := by decide +kernel
theorem dX0_init_44 : decode cX0_init 44 = .ok (.newarray .boolean, 2) := by decide +kernel
theorem dX0_init_46 : decode cX0_init 46 = .ok (.putfield 30, 3) := by decide +kernel
theorem dX0_init_49 : decode cX0_init 49 = .ok (.aload_n 0, 1) := by decide +kernel
theorem dX0_init_50 : decode cX0_init 50 = .ok (.bipush 40, 2) := by decide +kernel
theorem dX0_init_52 : decode cX0_init 52 = .ok (.newarray .int, 2) := by decide +kernel
theorem dX0_init_54 : decode cX0_init 54 = .ok (.putfield 33, 3) := by decide +kernel
theorem dX0_init_57 : decode cX0_init 57 = .ok (.aload_n 0, 1) := by decide +kernel
theorem dX0_init_58 : decode cX0_init 58 = .ok (.bipush 40, 2) := by decide +kernel
theorem dX0_init_60 : decode cX0_init 60 = .ok (.newarray .int, 2) := by decide +kernel
theorem dX0_init_62 : decode cX0_init 62 = .ok (.putfield 36, 3) := by decide +kernel
theorem dX0_init_65 : decode cX0_init 65 = .ok (.aload_n 0, 1) := by decide +kernel
theorem dX0_init_66 : decode cX0_init 66 = .ok (.bipush 40, 2) := by decide +kernel
theorem dX0_init_68 : decode cX0_init 68 = .ok (.newarray .int, 2) := by decide +kernel
theorem dX0_init_70 : decode cX0_init 70 = .ok (.putfield 39, 3) := by decide +kernel
theorem dX0_init_73 : decode cX0_init 73 = .ok (.aload_n 0, 1) := by decide +kernel
theorem dX0_init_74 : decode cX0_init 74 = .ok (.sipush 480, 3) := by decide +kernel
theorem dX0_init_77 : decode cX0_init 77 = .ok (.newarray .int, 2) := by decide +kernel
theorem dX0_init_79 : decode cX0_init 79 = .ok (.putfield 42, 3) := by decide +kernel
theorem dX0_init_82 : decode cX0_init 82 = .ok (.aload_n 0, 1) := by decide +kernel
theorem dX0_init_83 : decode cX0_init 83 = .ok (.sipush 480, 3) := by decide +kernel
theorem dX0_init_86 : decode cX0_init 86 = .ok (.newarray .int, 2) := by decide +kernel
theorem dX0_init_88 : decode cX0_init 88 = .ok (.putfield 45, 3) := by decide +kernel
theorem dX0_init_91 : decode cX0_init 91 = .ok (.return_, 1) := by decide +kernel
theorem dX0_setSpan_0 : decode cX0_setSpan 0 = .ok (.aload_n 0, 1) := by decide +kernel
theorem dX0_setSpan_1 : decode cX0_setSpan 1 = .ok (.getfield 15, 3) := by decide +kernel
theorem dX0_setSpan_4 : decode cX0_setSpan 4 = .ok (.iload_n 1, 1) := by decide +kernel
theorem dX0_setSpan_5 : decode cX0_setSpan 5 = .ok (.iload_n 2, 1) := by decide +kernel
theorem dX0_setSpan_6 : decode cX0_setSpan 6 = .ok (.iastore, 1) := by decide +kernel
theorem dX0_setSpan_7 : decode cX0_setSpan 7 = .ok (.aload_n 0, 1) := by decide +kernel
theorem dX0_setSpan_8 : decode cX0_setSpan 8 = .ok (.getfield 19, 3) := by decide +kernel
theorem dX0_setSpan_11 : decode cX0_setSpan 11 = .ok (.iload_n 1, 1) := by decide +kernel
theorem dX0_setSpan_12 : decode cX0_setSpan 12 = .ok (.iload_n 3, 1) := by decide +kernel
theorem dX0_setSpan_13 : decode cX0_setSpan 13 = .ok (.iastore, 1) := by decide +kernel
theorem dX0_setSpan_14 : decode cX0_setSpan 14 = .ok (.return_, 1) := by decide +kernel
theorem dX0_begin_0 : decode cX0_begin 0 = .ok (.aload_n 0, 1) := by decide +kernel
theorem dX0_begin_1 : decode cX0_begin 1 = .ok (.iconst 1, 1) := by decide +kernel
theorem dX0_begin_2 : decode cX0_begin 2 = .ok (.putfield 9, 3) := by decide +kernel
theorem dX0_begin_5 : decode cX0_begin 5 = .ok (.iconst 0, 1) := by decide +kernel
theorem dX0_begin_6 : decode cX0_begin 6 = .ok (.istore_n 1, 1) := by decide +kernel
theorem dX0_begin_7 : decode cX0_begin 7 = .ok (.iload_n 1, 1) := by decide +kernel
theorem dX0_begin_8 : decode cX0_begin 8 = .ok (.bipush 6, 2) := by decide +kernel
theorem dX0_begin_10 : decode cX0_begin 10 = .ok (.if_icmp .ge 16, 3) := by decide +kernel
theorem dX0_begin_13 : decode cX0_begin 13 = .ok (.aload_n 0, 1) := by decide +kernel
theorem dX0_begin_14 : decode cX0_begin 14 = .ok (.iload_n 1, 1) := by decide +kernel
theorem dX0_begin_15 : decode cX0_begin 15 = .ok (.iconst 0, 1) := by decide +kernel
theorem dX0_begin_16 : decode cX0_begin 16 = .ok (.iconst 0, 1) := by decide +kernel
theorem dX0_begin_17 : decode cX0_begin 17 = .ok (.invokevirtual 48, 3) := by decide +kernel
theorem dX0_begin_20 : decode cX0_begin 20 = .ok (.iinc 1 1, 3) := by decide +kernel
theorem dX0_begin_23 : decode cX0_begin 23 = .ok (.goto (-16), 3) := by decide +kernel
theorem dX0_begin_26 : decode cX0_begin 26 = .ok (.iconst 0, 1) := by decide +kernel
theorem dX0_begin_27 : decode cX0_begin 27 = .ok (.istore_n 1, 1) := by decide +kernel
theorem dX0_begin_28 : decode cX0_begin 28 = .ok (.iload_n 1, 1) := by decide +kernel
theorem dX0_begin_29 : decode cX0_begin 29 = .ok (.bipush 6, 2) := by decide +kernel
theorem dX0_begin_31 : decode cX0_begin 31 = .ok (.if_icmp .ge 23, 3) := by decide +kernel
theorem dX0_begin_34 : decode cX0_begin 34 = .ok (.aload_n 0, 1) := by decide +kernel
theorem dX0_begin_35 : decode cX0_begin 35 = .ok (.getfield 22, 3) := by decide +kernel
theorem dX0_begin_38 : decode cX0_begin 38 = .ok (.iload_n 1, 1) := by decide +kernel
theorem dX0_begin_39 : decode cX0_begin 39 = .ok (.lconst 0, 1) := by decide +kernel
theorem dX0_begin_40 : decode cX0_begin 40 = .ok (.lastore, 1) := by decide +kernel
theorem dX0_begin_41 : decode cX0_begin 41 = .ok (.aload_n 0, 1) := by decide +kernel
theorem dX0_begin_42 : decode cX0_begin 42 = .ok (.getfield 26, 3) := by decide +kernel
theorem dX0_begin_45 : decode cX0_begin 45 = .ok (.iload_n 1, 1) := by decide +kernel
theorem dX0_begin_46 : decode cX0_begin 46 = .ok (.iconst 1, 1) := by decide +kernel
theorem dX0_begin_47 : decode cX0_begin 47 = .ok (.bastore, 1) := by decide +kernel
theorem dX0_begin_48 : decode cX0_begin 48 = .ok (.iinc 1 1, 3) := by decide +kernel
theorem dX0_begin_51 : decode cX0_begin 51 = .ok (.goto (-23), 3) := by decide +kernel
theorem dX0_begin_54 : decode cX0_begin 54 = .ok (.iconst 0, 1) := by decide +kernel
theorem dX0_begin_55 : decode cX0_begin 55 = .ok (.istore_n 1, 1) := by decide +kernel
theorem dX0_begin_56 : decode cX0_begin 56 = .ok (.iload_n 1, 1) := by decide +kernel
theorem dX0_begin_57 : decode cX0_begin 57 = .ok (.bipush 40, 2) := by decide +kernel
theorem dX0_begin_59 : decode cX0_begin 59 = .ok (.if_icmp .ge 16, 3) := by decide +kernel
theorem dX0_begin_62 : decode cX0_begin 62 = .ok (.aload_n 0, 1) := by decide +kernel
theorem dX0_begin_63 : decode cX0_begin 63 = .ok (.getfield 30, 3) := by decide +kernel
theorem dX0_begin_66 : decode cX0_begin 66 = .ok (.iload_n 1, 1) := by decide +kernel
theorem dX0_begin_67 : decode cX0_begin 67 = .ok (.iconst 0, 1) := by decide +kernel
theorem dX0_begin_68 : decode cX0_begin 68 = .ok (.bastore, 1) := by decide +kernel
theorem dX0_begin_69 : decode cX0_begin 69 = .ok (.iinc 1 1, 3) := by decide +kernel
theorem dX0_begin_72 : decode cX0_begin 72 = .ok (.goto (-16), 3) := by decide +kernel
theorem dX0_begin_75 : decode cX0_begin 75 = .ok (.return_, 1) := by decide +kernel
theorem dX0_countKnown_0 : decode cX0_countKnown 0 = .ok (.iconst 0, 1) := by decide +kernel
theorem dX0_countKnown_1 : decode cX0_countKnown 1 = .ok (.istore_n 1, 1) := by decide +kernel
theorem dX0_countKnown_2 : decode cX0_countKnown 2 = .ok (.iconst 0, 1) := by decide +kernel
theorem dX0_countKnown_3 : decode cX0_countKnown 3 = .ok (.istore_n 2, 1) := by decide +kernel
theorem dX0_countKnown_4 : decode cX0_countKnown 4 = .ok (.iload_n 2, 1) := by decide +kernel
theorem dX0_countKnown_5 : decode cX0_countKnown 5 = .ok (.bipush 40, 2) := by decide +kernel
theorem dX0_countKnown_7 : decode cX0_countKnown 7 = .ok (.if_icmp .ge 21, 3) := by decide +kernel
theorem dX0_countKnown_10 : decode cX0_countKnown 10 = .ok (.aload_n 0, 1) := by decide +kernel
theorem dX0_countKnown_11 : decode cX0_countKnown 11 = .ok (.getfield 30, 3) := by decide +kernel
theorem dX0_countKnown_14 : decode cX0_countKnown 14 = .ok (.iload_n 2, 1) := by decide +kernel
theorem dX0_countKnown_15 : decode cX0_countKnown 15 = .ok (.baload, 1) := by decide +kernel
theorem dX0_countKnown_16 : decode cX0_countKnown 16 = .ok (.ifCond .eq 6, 3) := by decide +kernel
theorem dX0_countKnown_19 : decode cX0_countKnown 19 = .ok (.iinc 1 1, 3) := by decide +kernel
theorem dX0_countKnown_22 : decode cX0_countKnown 22 = .ok (.iinc 2 1, 3) := by decide +kernel
theorem dX0_countKnown_25 : decode cX0_countKnown 25 = .ok (.goto (-21), 3) := by decide +kernel
theorem dX0_countKnown_28 : decode cX0_countKnown 28 = .ok (.iload_n 1, 1) := by decide +kernel
theorem dX0_countKnown_29 : decode cX0_countKnown 29 = .ok (.ireturn, 1) := by decide +kernel
theorem dX1_init_0 : decode cX1_init 0 = .ok (.aload_n 0, 1) := by decide +kernel
theorem dX1_init_1 : decode cX1_init 1 = .ok (.invokespecial 3, 3) := by decide +kernel
theorem dX1_init_4 : decode cX1_init 4 = .ok (.aload_n 0, 1) := by decide +kernel
theorem dX1_init_5 : decode cX1_init 5 = .ok (.new 9, 3) := by decide +kernel
theorem dX1_init_8 : decode cX1_init 8 = .ok (.dup, 1) := by decide +kernel
theorem dX1_init_9 : decode cX1_init 9 = .ok (.invokespecial 11, 3) := by decide +kernel
theorem dX1_init_12 : decode cX1_init 12 = .ok (.putfield 12, 3) := by decide +kernel
theorem dX1_init_15 : decode cX1_init 15 = .ok (.aload_n 0, 1) := by decide +kernel
theorem dX1_init_16 : decode cX1_init 16 = .ok (.new 9, 3) := by decide +kernel
theorem dX1_init_19 : decode cX1_init 19 = .ok (.dup, 1) := by decide +kernel
theorem dX1_init_20 : decode cX1_init 20 = .ok (.invokespecial 11, 3) := by decide +kernel
theorem dX1_init_23 : decode cX1_init 23 = .ok (.putfield 18, 3) := by decide +kernel
theorem dX1_init_26 : decode cX1_init 26 = .ok (.aload_n 0, 1) := by decide +kernel
theorem dX1_init_27 : decode cX1_init 27 = .ok (.iconst 1, 1) := by decide +kernel
theorem dX1_init_28 : decode cX1_init 28 = .ok (.putfield 21, 3) := by decide +kernel
theorem dX1_init_31 : decode cX1_init 31 = .ok (.aload_n 0, 1) := by decide +kernel
theorem dX1_init_32 : decode cX1_init 32 = .ok (.bipush 40, 2) := by decide +kernel
theorem dX1_init_34 : decode cX1_init 34 = .ok (.newarray .boolean, 2) := by decide +kernel
theorem dX1_init_36 : decode cX1_init 36 = .ok (.putfield 25, 3) := by decide +kernel
theorem dX1_init_39 : decode cX1_init 39 = .ok (.aload_n 0, 1) := by decide +kernel
theorem dX1_init_40 : decode cX1_init 40 = .ok (.bipush 40, 2) := by decide +kernel
theorem dX1_init_42 : decode cX1_init 42 = .ok (.newarray .int, 2) := by decide +kernel
theorem dX1_init_44 : decode cX1_init 44 = .ok (.putfield 29, 3) := by decide +kernel
theorem dX1_init_47 : decode cX1_init 47 = .ok (.aload_n 0, 1) := by decide +kernel
theorem dX1_init_48 : decode cX1_init 48 = .ok (.iconst 0, 1) := by decide +kernel
theorem dX1_init_49 : decode cX1_init 49 = .ok (.putfield 33, 3) := by decide +kernel
theorem dX1_init_52 : decode cX1_init 52 = .ok (.aload_n 0, 1) := by decide +kernel
theorem dX1_init_53 : decode cX1_init 53 = .ok (.iconst 0, 1) := by decide +kernel
theorem dX1_init_54 : decode cX1_init 54 = .ok (.putfield 36, 3) := by decide +kernel
theorem dX1_init_57 : decode cX1_init 57 = .ok (.aload_n 0, 1) := by decide +kernel
theorem dX1_init_58 : decode cX1_init 58 = .ok (.iconst 0, 1) := by decide +kernel
theorem dX1_init_59 : decode cX1_init 59 = .ok (.putfield 40, 3) := by decide +kernel
theorem dX1_init_62 : decode cX1_init 62 = .ok (.return_, 1) := by decide +kernel
theorem dX1_follow_0 : decode cX1_follow 0 = .ok (.aload_n 0, 1) := by decide +kernel
theorem dX1_follow_1 : decode cX1_follow 1 = .ok (.getfield 21, 3) := by decide +kernel
theorem dX1_follow_4 : decode cX1_follow 4 = .ok (.ifCond .ne 4, 3) := by decide +kernel
theorem dX1_follow_7 : decode cX1_follow 7 = .ok (.return_, 1) := by decide +kernel
theorem dX1_follow_8 : decode cX1_follow 8 = .ok (.aload_n 0, 1) := by decide +kernel
theorem dX1_follow_9 : decode cX1_follow 9 = .ok (.iconst 0, 1) := by decide +kernel
theorem dX1_follow_10 : decode cX1_follow 10 = .ok (.putfield 21, 3) := by decide +kernel
theorem dX1_follow_13 : decode cX1_follow 13 = .ok (.aload_n 0, 1) := by decide +kernel
theorem dX1_follow_14 : decode cX1_follow 14 = .ok (.getfield 12, 3) := by decide +kernel
theorem dX1_follow_17 : decode cX1_follow 17 = .ok (.invokevirtual 43, 3) := by decide +kernel
theorem dX1_follow_20 : decode cX1_follow 20 = .ok (.iconst 0, 1) := by decide +kernel
theorem dX1_follow_21 : decode cX1_follow 21 = .ok (.istore_n 2, 1) := by decide +kernel
theorem dX1_follow_22 : decode cX1_follow 22 = .ok (.iconst 0, 1) := by decide +kernel
theorem dX1_follow_23 : decode cX1_follow 23 = .ok (.istore_n 3, 1) := by decide +kernel
theorem dX1_follow_24 : decode cX1_follow 24 = .ok (.iload_n 3, 1) := by decide +kernel
theorem dX1_follow_25 : decode cX1_follow 25 = .ok (.bipush 40, 2) := by decide +kernel
theorem dX1_follow_27 : decode cX1_follow 27 = .ok (.if_icmp .ge 152, 3) := by decide +kernel
theorem dX1_follow_30 : decode cX1_follow 30 = .ok (.aload_n 1, 1) := by decide +kernel
theorem dX1_follow_31 : decode cX1_follow 31 = .ok (.iload_n 3, 1) := by decide +kernel
theorem dX1_follow_32 : decode cX1_follow 32 = .ok (.invokevirtual 46, 3) := by decide +kernel
theorem dX1_follow_35 : decode cX1_follow 35 = .ok (.ifCond .eq 16, 3) := by decide +kernel
theorem dX1_follow_38 : decode cX1_follow 38 = .ok (.aload_n 1, 1) := by decide +kernel
theorem dX1_follow_39 : decode cX1_follow 39 = .ok (.getfield 52, 3) := by decide +kernel
theorem dX1_follow_42 : decode cX1_follow 42 = .ok (.iload_n 3, 1) := by decide +kernel
theorem dX1_follow_43 : decode cX1_follow 43 = .ok (.baload, 1) := by decide +kernel
theorem dX1_follow_44 : decode cX1_follow 44 = .ok (.ifCond .ne 7, 3) := by decide +kernel
theorem dX1_follow_47 : decode cX1_follow 47 = .ok (.iconst 1, 1) := by decide +kernel
theorem dX1_follow_48 : decode cX1_follow 48 = .ok (.goto 4, 3) := by decide +kernel
theorem dX1_follow_51 : decode cX1_follow 51 = .ok (.iconst 0, 1) := by decide +kernel
theorem dX1_follow_52 : decode cX1_follow 52 = .ok (.istore 4, 2) := by decide +kernel
theorem dX1_follow_54 : decode cX1_follow 54 = .ok (.aload_n 0, 1) := by decide +kernel
theorem dX1_follow_55 : decode cX1_follow 55 = .ok (.getfield 25, 3) := by decide +kernel
theorem dX1_follow_58 : decode cX1_follow 58 = .ok (.iload_n 3, 1) := by decide +kernel
theorem dX1_follow_59 : decode cX1_follow 59 = .ok (.iload 4, 2) := by decide +kernel
theorem dX1_follow_61 : decode cX1_follow 61 = .ok (.ifCond .eq 17, 3) := by decide +kernel
theorem dX1_follow_64 : decode cX1_follow 64 = .ok (.aload_n 0, 1) := by decide +kernel
theorem dX1_follow_65 : decode cX1_follow 65 = .ok (.getfield 12, 3) := by decide +kernel
theorem dX1_follow_68 : decode cX1_follow 68 = .ok (.getfield 55, 3) := by decide +kernel
theorem dX1_follow_71 : decode cX1_follow 71 = .ok (.ifCond .eq 7, 3) := by decide +kernel
theorem dX1_follow_74 : decode cX1_follow 74 = .ok (.iconst 1, 1) := by decide +kernel
theorem dX1_follow_75 : decode cX1_follow 75 = .ok (.goto 4, 3) := by decide +kernel
theorem dX1_follow_78 : decode cX1_follow 78 = .ok (.iconst 0, 1) := by decide +kernel
theorem dX1_follow_79 : decode cX1_follow 79 = .ok (.bastore, 1) := by decide +kernel
theorem dX1_follow_80 : decode cX1_follow 80 = .ok (.aload_n 0, 1) := by decide +kernel
theorem dX1_follow_81 : decode cX1_follow 81 = .ok (.getfield 29, 3) := by decide +kernel
theorem dX1_follow_84 : decode cX1_follow 84 = .ok (.iload_n 3, 1) := by decide +kernel
theorem dX1_follow_85 : decode cX1_follow 85 = .ok (.iconst 0, 1) := by decide +kernel
theorem dX1_follow_86 : decode cX1_follow 86 = .ok (.iastore, 1) := by decide +kernel
theorem dX1_follow_87 : decode cX1_follow 87 = .ok (.iload 4, 2) := by decide +kernel
theorem dX1_follow_89 : decode cX1_follow 89 = .ok (.ifCond .ne 6, 3) := by decide +kernel
theorem dX1_follow_92 : decode cX1_follow 92 = .ok (.goto 81, 3) := by decide +kernel
theorem dX1_follow_95 : decode cX1_follow 95 = .ok (.iload_n 2, 1) := by decide +kernel
theorem dX1_follow_96 : decode cX1_follow 96 = .ok (.ifCond .ne 33, 3) := by decide +kernel
theorem dX1_follow_99 : decode cX1_follow 99 = .ok (.aload_n 1, 1) := by decide +kernel
theorem dX1_follow_100 : decode cX1_follow 100 = .ok (.iload_n 3, 1) := by decide +kernel
theorem dX1_follow_101 : decode cX1_follow 101 = .ok (.invokevirtual 57, 3) := by decide +kernel
theorem dX1_follow_104 : decode cX1_follow 104 = .ok (.bipush 14, 2) := by decide +kernel
theorem dX1_follow_106 : decode cX1_follow 106 = .ok (.if_icmp .ne 23, 3) := by decide +kernel
theorem dX1_follow_109 : decode cX1_follow 109 = .ok (.aload_n 0, 1) := by decide +kernel
theorem dX1_follow_110 : decode cX1_follow 110 = .ok (.getfield 18, 3) := by decide +kernel
theorem dX1_follow_113 : decode cX1_follow 113 = .ok (.aload_n 0, 1) := by decide +kernel
theorem dX1_follow_114 : decode cX1_follow 114 = .ok (.getfield 12, 3) := by decide +kernel
theorem dX1_follow_117 : decode cX1_follow 117 = .ok (.invokevirtual 61, 3) := by decide +kernel
theorem dX1_follow_120 : decode cX1_follow 120 = .ok (.aload_n 1, 1) := by decide +kernel
theorem dX1_follow_121 : decode cX1_follow 121 = .ok (.iload_n 3, 1) := by decide +kernel
theorem dX1_follow_122 : decode cX1_follow 122 = .ok (.invokevirtual 65, 3) := by decide +kernel
theorem dX1_follow_125 : decode cX1_follow 125 = .ok (.istore_n 2, 1) := by decide +kernel
theorem dX1_follow_126 : decode cX1_follow 126 = .ok (.goto 47, 3) := by decide +kernel
theorem dX1_follow_129 : decode cX1_follow 129 = .ok (.aload_n 0, 1) := by decide +kernel
theorem dX1_follow_130 : decode cX1_follow 130 = .ok (.getfield 12, 3) := by decide +kernel
theorem dX1_follow_133 : decode cX1_follow 133 = .ok (.getfield 55, 3) := by decide +kernel
theorem dX1_follow_136 : decode cX1_follow 136 = .ok (.ifCond .eq 15, 3) := by decide +kernel
theorem dX1_follow_139 : decode cX1_follow 139 = .ok (.aload_n 0, 1) := by decide +kernel
theorem dX1_follow_140 : decode cX1_follow 140 = .ok (.getfield 29, 3) := by decide +kernel
theorem dX1_follow_143 : decode cX1_follow 143 = .ok (.iload_n 3, 1) := by decide +kernel
theorem dX1_follow_144 : decode cX1_follow 144 = .ok (.aload_n 0, 1) := by decide +kernel
theorem dX1_follow_145 : decode cX1_follow 145 = .ok (.aload_n 1, 1) := by decide +kernel
theorem dX1_follow_146 : decode cX1_follow 146 = .ok (.iload_n 3, 1) := by decide +kernel
theorem dX1_follow_147 : decode cX1_follow 147 = .ok (.invokevirtual 68, 3) := by decide +kernel
theorem dX1_follow_150 : decode cX1_follow 150 = .ok (.iastore, 1) := by decide +kernel
theorem dX1_follow_151 : decode cX1_follow 151 = .ok (.iload_n 2, 1) := by decide +kernel
theorem dX1_follow_152 : decode cX1_follow 152 = .ok (.ifCond .le 21, 3) := by decide +kernel
theorem dX1_follow_155 : decode cX1_follow 155 = .ok (.iinc 2 (-1), 3) := by decide +kernel
theorem dX1_follow_158 : decode cX1_follow 158 = .ok (.iload_n 2, 1) := by decide +kernel
theorem dX1_follow_159 : decode cX1_follow 159 = .ok (.ifCond .ne 14, 3) := by decide +kernel
theorem dX1_follow_162 : decode cX1_follow 162 = .ok (.aload_n 0, 1) := by decide +kernel
theorem dX1_follow_163 : decode cX1_follow 163 = .ok (.getfield 12, 3) := by decide +kernel
theorem dX1_follow_166 : decode cX1_follow 166 = .ok (.aload_n 0, 1) := by decide +kernel
theorem dX1_follow_167 : decode cX1_follow 167 = .ok (.getfield 18, 3) := by decide +kernel
theorem dX1_follow_170 : decode cX1_follow 170 = .ok (.invokevirtual 72, 3) := by decide +kernel
theorem dX1_follow_173 : decode cX1_follow 173 = .ok (.iinc 3 1, 3) := by decide +kernel
theorem dX1_follow_176 : decode cX1_follow 176 = .ok (.goto (-152), 3) := by decide +kernel
theorem dX1_follow_179 : decode cX1_follow 179 = .ok (.iload_n 2, 1) := by decide +kernel
theorem dX1_follow_180 : decode cX1_follow 180 = .ok (.ifCond .le 14, 3) := by decide +kernel
theorem dX1_follow_183 : decode cX1_follow 183 = .ok (.aload_n 0, 1) := by decide +kernel
theorem dX1_follow_184 : decode cX1_follow 184 = .ok (.getfield 12, 3) := by decide +kernel
theorem dX1_follow_187 : decode cX1_follow 187 = .ok (.aload_n 0, 1) := by decide +kernel
theorem dX1_follow_188 : decode cX1_follow 188 = .ok (.getfield 18, 3) := by decide +kernel
theorem dX1_follow_191 : decode cX1_follow 191 = .ok (.invokevirtual 72, 3) := by decide +kernel
theorem dX1_follow_194 : decode cX1_follow 194 = .ok (.return_, 1) := by decide +kernel
theorem dX1_countReached_0 : decode cX1_countReached 0 = .ok (.iconst 0, 1) := by decide +kernel
theorem dX1_countReached_1 : decode cX1_countReached 1 = .ok (.istore_n 1, 1) := by decide +kernel
theorem dX1_countReached_2 : decode cX1_countReached 2 = .ok (.iconst 0, 1) := by decide +kernel
theorem dX1_countReached_3 : decode cX1_countReached 3 = .ok (.istore_n 2, 1) := by decide +kernel
theorem dX1_countReached_4 : decode cX1_countReached 4 = .ok (.iload_n 2, 1) := by decide +kernel
theorem dX1_countReached_5 : decode cX1_countReached 5 = .ok (.bipush 40, 2) := by decide +kernel
theorem dX1_countReached_7 : decode cX1_countReached 7 = .ok (.if_icmp .ge 21, 3) := by decide +kernel
theorem dX1_countReached_10 : decode cX1_countReached 10 = .ok (.aload_n 0, 1) := by decide +kernel
theorem dX1_countReached_11 : decode cX1_countReached 11 = .ok (.getfield 25, 3) := by decide +kernel
theorem dX1_countReached_14 : decode cX1_countReached 14 = .ok (.iload_n 2, 1) := by decide +kernel
theorem dX1_countReached_15 : decode cX1_countReached 15 = .ok (.baload, 1) := by decide +kernel
theorem dX1_countReached_16 : decode cX1_countReached 16 = .ok (.ifCond .eq 6, 3) := by decide +kernel
theorem dX1_countReached_19 : decode cX1_countReached 19 = .ok (.iinc 1 1, 3) := by decide +kernel
theorem dX1_countReached_22 : decode cX1_countReached 22 = .ok (.iinc 2 1, 3) := by decide +kernel
theorem dX1_countReached_25 : decode cX1_countReached 25 = .ok (.goto (-21), 3) := by decide +kernel
theorem dX1_countReached_28 : decode cX1_countReached 28 = .ok (.iload_n 1, 1) := by decide +kernel
theorem dX1_countReached_29 : decode cX1_countReached 29 = .ok (.ireturn, 1) := by decide +kernel
theorem dX1_countThrowing_0 : decode cX1_countThrowing 0 = .ok (.iconst 0, 1) := by decide +kernel
theorem dX1_countThrowing_1 : decode cX1_countThrowing 1 = .ok (.istore_n 1, 1) := by decide +kernel
theorem dX1_countThrowing_2 : decode cX1_countThrowing 2 = .ok (.iconst 0, 1) := by decide +kernel
theorem dX1_countThrowing_3 : decode cX1_countThrowing 3 = .ok (.istore_n 2, 1) := by decide +kernel
theorem dX1_countThrowing_4 : decode cX1_countThrowing 4 = .ok (.iload_n 2, 1) := by decide +kernel
theorem dX1_countThrowing_5 : decode cX1_countThrowing 5 = .ok (.bipush 40, 2) := by decide +kernel
theorem dX1_countThrowing_7 : decode cX1_countThrowing 7 = .ok (.if_icmp .ge 21, 3) := by decide +kernel
theorem dX1_countThrowing_10 : decode cX1_countThrowing 10 = .ok (.aload_n 0, 1) := by decide +kernel
theorem dX1_countThrowing_11 : decode cX1_countThrowing 11 = .ok (.getfield 29, 3) := by decide +kernel
theorem dX1_countThrowing_14 : decode cX1_countThrowing 14 = .ok (.iload_n 2, 1) := by decide +kernel
theorem dX1_countThrowing_15 : decode cX1_countThrowing 15 = .ok (.iaload, 1) := by decide +kernel
theorem dX1_countThrowing_16 : decode cX1_countThrowing 16 = .ok (.ifCond .eq 6, 3) := by decide +kernel
theorem dX1_countThrowing_19 : decode cX1_countThrowing 19 = .ok (.iinc 1 1, 3) := by decide +kernel
theorem dX1_countThrowing_22 : decode cX1_countThrowing 22 = .ok (.iinc 2 1, 3) := by decide +kernel
theorem dX1_countThrowing_25 : decode cX1_countThrowing 25 = .ok (.goto (-21), 3) := by decide +kernel
theorem dX1_countThrowing_28 : decode cX1_countThrowing 28 = .ok (.iload_n 1, 1) := by decide +kernel
theorem dX1_countThrowing_29 : decode cX1_countThrowing 29 = .ok (.ireturn, 1) := by decide +kernel
theorem dX2_init_0 : decode cX2_init 0 = .ok (.aload_n 0, 1) := by decide +kernel
theorem dX2_init_1 : decode cX2_init 1 = .ok (.invokespecial 3, 3) := by decide +kernel
theorem dX2_init_4 : decode cX2_init 4 = .ok (.aload_n 0, 1) := by decide +kernel
theorem dX2_init_5 : decode cX2_init 5 = .ok (.iconst 0, 1) := by decide +kernel
theorem dX2_init_6 : decode cX2_init 6 = .ok (.putfield 9, 3) := by decide +kernel
theorem dX2_init_9 : decode cX2_init 9 = .ok (.aload_n 0, 1) := by decide +kernel
theorem dX2_init_10 : decode cX2_init 10 = .ok (.iconst 0, 1) := by decide +kernel
theorem dX2_init_11 : decode cX2_init 11 = .ok (.putfield 15, 3) := by decide +kernel
theorem dX2_init_14 : decode cX2_init 14 = .ok (.aload_n 0, 1) := by decide +kernel
theorem dX2_init_15 : decode cX2_init 15 = .ok (.iconst (-1), 1) := by decide +kernel
theorem dX2_init_16 : decode cX2_init 16 = .ok (.putfield 19, 3) := by decide +kernel
theorem dX2_init_19 : decode cX2_init 19 = .ok (.aload_n 0, 1) := by decide +kernel
theorem dX2_init_20 : decode cX2_init 20 = .ok (.bipush 6, 2) := by decide +kernel
theorem dX2_init_22 : decode cX2_init 22 = .ok (.newarray .int, 2) := by decide +kernel
theorem dX2_init_24 : decode cX2_init 24 = .ok (.putfield 22, 3) := by decide +kernel
theorem dX2_init_27 : decode cX2_init 27 = .ok (.aload_n 0, 1) := by decide +kernel
theorem dX2_init_28 : decode cX2_init 28 = .ok (.bipush 6, 2) := by decide +kernel
theorem dX2_init_30 : decode cX2_init 30 = .ok (.newarray .int, 2) := by decide +kernel
theorem dX2_init_32 : decode cX2_init 32 = .ok (.putfield 26, 3) := by decide +kernel
theorem dX2_init_35 : decode cX2_init 35 = .ok (.aload_n 0, 1) := by decide +kernel
theorem dX2_init_36 : decode cX2_init 36 = .ok (.bipush 40, 2) := by decide +kernel
theorem dX2_init_38 : decode cX2_init 38 = .ok (.newarray .int, 2) := by decide +kernel
theorem dX2_init_40 : decode cX2_init 40 = .ok (.putfield 29, 3) := by decide +kernel
theorem dX2_init_43 : decode cX2_init 43 = .ok (.aload_n 0, 1) := by decide +kernel
theorem dX2_init_44 : decode cX2_init 44 = .ok (.bipush 40, 2) := by decide +kernel
theorem dX2_init_46 : decode cX2_init 46 = .ok (.newarray .int, 2) := by decide +kernel
theorem dX2_init_48 : decode cX2_init 48 = .ok (.putfield 32, 3) := by decide +kernel
theorem dX2_init_51 : decode cX2_init 51 = .ok (.aload_n 0, 1) := by decide +kernel
theorem dX2_init_52 : decode cX2_init 52 = .ok (.sipush 480, 3) := by decide +kernel
theorem dX2_init_55 : decode cX2_init 55 = .ok (.newarray .int, 2) := by decide +kernel
theorem dX2_init_57 : decode cX2_init 57 = .ok (.putfield 35, 3) := by decide +kernel
theorem dX2_init_60 : decode cX2_init 60 = .ok (.aload_n 0, 1) := by decide +kernel
theorem dX2_init_61 : decode cX2_init 61 = .ok (.lconst 0, 1) := by decide +kernel
theorem dX2_init_62 : decode cX2_init 62 = .ok (.putfield 38, 3) := by decide +kernel
theorem dX2_init_65 : decode cX2_init 65 = .ok (.aload_n 0, 1) := by decide +kernel
theorem dX2_init_66 : decode cX2_init 66 = .ok (.invokevirtual 42, 3) := by decide +kernel
theorem dX2_init_69 : decode cX2_init 69 = .ok (.return_, 1) := by decide +kernel
theorem dX2_forget_0 : decode cX2_forget 0 = .ok (.aload_n 0, 1) := by decide +kernel
theorem dX2_forget_1 : decode cX2_forget 1 = .ok (.iconst 0, 1) := by decide +kernel
theorem dX2_forget_2 : decode cX2_forget 2 = .ok (.putfield 9, 3) := by decide +kernel
theorem dX2_forget_5 : decode cX2_forget 5 = .ok (.aload_n 0, 1) := by decide +kernel
theorem dX2_forget_6 : decode cX2_forget 6 = .ok (.iconst 0, 1) := by decide +kernel
theorem dX2_forget_7 : decode cX2_forget 7 = .ok (.putfield 15, 3) := by decide +kernel
theorem dX2_forget_10 : decode cX2_forget 10 = .ok (.aload_n 0, 1) := by decide +kernel
theorem dX2_forget_11 : decode cX2_forget 11 = .ok (.iconst (-1), 1) := by decide +kernel
theorem dX2_forget_12 : decode cX2_forget 12 = .ok (.putfield 19, 3) := by decide +kernel
theorem dX2_forget_15 : decode cX2_forget 15 = .ok (.iconst 0, 1) := by decide +kernel
theorem dX2_forget_16 : decode cX2_forget 16 = .ok (.istore_n 1, 1) := by decide +kernel
theorem dX2_forget_17 : decode cX2_forget 17 = .ok (.iload_n 1, 1) := by decide +kernel
theorem dX2_forget_18 : decode cX2_forget 18 = .ok (.bipush 6, 2) := by decide +kernel
theorem dX2_forget_20 : decode cX2_forget 20 = .ok (.if_icmp .ge 16, 3) := by decide +kernel
theorem dX2_forget_23 : decode cX2_forget 23 = .ok (.aload_n 0, 1) := by decide +kernel
theorem dX2_forget_24 : decode cX2_forget 24 = .ok (.getfield 22, 3) := by decide +kernel
theorem dX2_forget_27 : decode cX2_forget 27 = .ok (.iload_n 1, 1) := by decide +kernel
theorem dX2_forget_28 : decode cX2_forget 28 = .ok (.iconst 0, 1) := by decide +kernel
theorem dX2_forget_29 : decode cX2_forget 29 = .ok (.iastore, 1) := by decide +kernel
theorem dX2_forget_30 : decode cX2_forget 30 = .ok (.iinc 1 1, 3) := by decide +kernel
theorem dX2_forget_33 : decode cX2_forget 33 = .ok (.goto (-16), 3) := by decide +kernel
theorem dX2_forget_36 : decode cX2_forget 36 = .ok (.iconst 0, 1) := by decide +kernel
theorem dX2_forget_37 : decode cX2_forget 37 = .ok (.istore_n 1, 1) := by decide +kernel
theorem dX2_forget_38 : decode cX2_forget 38 = .ok (.iload_n 1, 1) := by decide +kernel
theorem dX2_forget_39 : decode cX2_forget 39 = .ok (.bipush 6, 2) := by decide +kernel
theorem dX2_forget_41 : decode cX2_forget 41 = .ok (.if_icmp .ge 16, 3) := by decide +kernel
theorem dX2_forget_44 : decode cX2_forget 44 = .ok (.aload_n 0, 1) := by decide +kernel
theorem dX2_forget_45 : decode cX2_forget 45 = .ok (.getfield 26, 3) := by decide +kernel
theorem dX2_forget_48 : decode cX2_forget 48 = .ok (.iload_n 1, 1) := by decide +kernel
theorem dX2_forget_49 : decode cX2_forget 49 = .ok (.iconst (-1), 1) := by decide +kernel
theorem dX2_forget_50 : decode cX2_forget 50 = .ok (.iastore, 1) := by decide +kernel
theorem dX2_forget_51 : decode cX2_forget 51 = .ok (.iinc 1 1, 3) := by decide +kernel
theorem dX2_forget_54 : decode cX2_forget 54 = .ok (.goto (-16), 3) := by decide +kernel
theorem dX2_forget_57 : decode cX2_forget 57 = .ok (.return_, 1) := by decide +kernel
theorem dX2_perform_0 : decode cX2_perform 0 = .ok (.aload_n 0, 1) := by decide +kernel
theorem dX2_perform_1 : decode cX2_perform 1 = .ok (.invokevirtual 42, 3) := by decide +kernel
theorem dX2_perform_4 : decode cX2_perform 4 = .ok (.aload_n 0, 1) := by decide +kernel
theorem dX2_perform_5 : decode cX2_perform 5 = .ok (.iconst 1, 1) := by decide +kernel
theorem dX2_perform_6 : decode cX2_perform 6 = .ok (.putfield 9, 3) := by decide +kernel
theorem dX2_perform_9 : decode cX2_perform 9 = .ok (.aload_n 0, 1) := by decide +kernel
theorem dX2_perform_10 : decode cX2_perform 10 = .ok (.lload_n 2, 1) := by decide +kernel
theorem dX2_perform_11 : decode cX2_perform 11 = .ok (.putfield 38, 3) := by decide +kernel
theorem dX2_perform_14 : decode cX2_perform 14 = .ok (.iconst 0, 1) := by decide +kernel
theorem dX2_perform_15 : decode cX2_perform 15 = .ok (.istore 4, 2) := by decide +kernel
theorem dX2_perform_17 : decode cX2_perform 17 = .ok (.iconst 1, 1) := by decide +kernel
theorem dX2_perform_18 : decode cX2_perform 18 = .ok (.istore 5, 2) := by decide +kernel
theorem dX2_perform_20 : decode cX2_perform 20 = .ok (.iconst 0, 1) := by decide +kernel
theorem dX2_perform_21 : decode cX2_perform 21 = .ok (.istore 6, 2) := by decide +kernel
theorem dX2_perform_23 : decode cX2_perform 23 = .ok (.iload 6, 2) := by decide +kernel
theorem dX2_perform_25 : decode cX2_perform 25 = .ok (.aload_n 1, 1) := by decide +kernel
theorem dX2_perform_26 : decode cX2_perform 26 = .ok (.getfield 45, 3) := by decide +kernel
theorem dX2_perform_29 : decode cX2_perform 29 = .ok (.if_icmp .ge 110, 3) := by decide +kernel
theorem dX2_perform_32 : decode cX2_perform 32 = .ok (.aload_n 0, 1) := by decide +kernel
theorem dX2_perform_33 : decode cX2_perform 33 = .ok (.getfield 15, 3) := by decide +kernel
theorem dX2_perform_36 : decode cX2_perform 36 = .ok (.ifCond .ne 103, 3) := by decide +kernel
theorem dX2_perform_39 : decode cX2_perform 39 = .ok (.aload_n 1, 1) := by decide +kernel
theorem dX2_perform_40 : decode cX2_perform 40 = .ok (.getfield 50, 3) := by decide +kernel
theorem dX2_perform_43 : decode cX2_perform 43 = .ok (.iload 6, 2) := by decide +kernel
theorem dX2_perform_45 : decode cX2_perform 45 = .ok (.baload, 1) := by decide +kernel
theorem dX2_perform_46 : decode cX2_perform 46 = .ok (.ifCond .eq 6, 3) := by decide +kernel
theorem dX2_perform_49 : decode cX2_perform 49 = .ok (.goto 84, 3) := by decide +kernel
theorem dX2_perform_52 : decode cX2_perform 52 = .ok (.iload 4, 2) := by decide +kernel
theorem dX2_perform_54 : decode cX2_perform 54 = .ok (.ifCond .ne 31, 3) := by decide +kernel
theorem dX2_perform_57 : decode cX2_perform 57 = .ok (.aload_n 1, 1) := by decide +kernel
theorem dX2_perform_58 : decode cX2_perform 58 = .ok (.iload 6, 2) := by decide +kernel
theorem dX2_perform_60 : decode cX2_perform 60 = .ok (.invokevirtual 54, 3) := by decide +kernel
theorem dX2_perform_63 : decode cX2_perform 63 = .ok (.bipush 14, 2) := by decide +kernel
theorem dX2_perform_65 : decode cX2_perform 65 = .ok (.if_icmp .ne 20, 3) := by decide +kernel
theorem dX2_perform_68 : decode cX2_perform 68 = .ok (.aload_n 1, 1) := by decide +kernel
theorem dX2_perform_69 : decode cX2_perform 69 = .ok (.iload 6, 2) := by decide +kernel
theorem dX2_perform_71 : decode cX2_perform 71 = .ok (.invokevirtual 58, 3) := by decide +kernel
theorem dX2_perform_74 : decode cX2_perform 74 = .ok (.istore 4, 2) := by decide +kernel
theorem dX2_perform_76 : decode cX2_perform 76 = .ok (.aload_n 0, 1) := by decide +kernel
theorem dX2_perform_77 : decode cX2_perform 77 = .ok (.invokevirtual 61, 3) := by decide +kernel
theorem dX2_perform_80 : decode cX2_perform 80 = .ok (.istore 5, 2) := by decide +kernel
theorem dX2_perform_82 : decode cX2_perform 82 = .ok (.goto 51, 3) := by decide +kernel
theorem dX2_perform_85 : decode cX2_perform 85 = .ok (.iload 4, 2) := by decide +kernel
theorem dX2_perform_87 : decode cX2_perform 87 = .ok (.ifCond .eq 8, 3) := by decide +kernel
theorem dX2_perform_90 : decode cX2_perform 90 = .ok (.iload 5, 2) := by decide +kernel
theorem dX2_perform_92 : decode cX2_perform 92 = .ok (.ifCond .eq 31, 3) := by decide +kernel
theorem dX2_perform_95 : decode cX2_perform 95 = .ok (.aload_n 0, 1) := by decide +kernel
theorem dX2_perform_96 : decode cX2_perform 96 = .ok (.aload_n 0, 1) := by decide +kernel
theorem dX2_perform_97 : decode cX2_perform 97 = .ok (.aload_n 1, 1) := by decide +kernel
theorem dX2_perform_98 : decode cX2_perform 98 = .ok (.iload 6, 2) := by decide +kernel
theorem dX2_perform_100 : decode cX2_perform 100 = .ok (.invokevirtual 65, 3) := by decide +kernel
theorem dX2_perform_103 : decode cX2_perform 103 = .ok (.putfield 15, 3) := by decide +kernel
theorem dX2_perform_106 : decode cX2_perform 106 = .ok (.aload_n 0, 1) := by decide +kernel
theorem dX2_perform_107 : decode cX2_perform 107 = .ok (.aload_n 0, 1) := by decide +kernel
theorem dX2_perform_108 : decode cX2_perform 108 = .ok (.getfield 15, 3) := by decide +kernel
theorem dX2_perform_111 : decode cX2_perform 111 = .ok (.ifCond .ne 7, 3) := by decide +kernel
theorem dX2_perform_114 : decode cX2_perform 114 = .ok (.iconst (-1), 1) := by decide +kernel
theorem dX2_perform_115 : decode cX2_perform 115 = .ok (.goto 5, 3) := by decide +kernel
theorem dX2_perform_118 : decode cX2_perform 118 = .ok (.iload 6, 2) := by decide +kernel
theorem dX2_perform_120 : decode cX2_perform 120 = .ok (.putfield 19, 3) := by decide +kernel
theorem dX2_perform_123 : decode cX2_perform 123 = .ok (.iload 4, 2) := by decide +kernel
theorem dX2_perform_125 : decode cX2_perform 125 = .ok (.iconst 1, 1) := by decide +kernel
theorem dX2_perform_126 : decode cX2_perform 126 = .ok (.isub, 1) := by decide +kernel
theorem dX2_perform_127 : decode cX2_perform 127 = .ok (.iconst 0, 1) := by decide +kernel
theorem dX2_perform_128 : decode cX2_perform 128 = .ok (.invokestatic 69, 3) := by decide +kernel
theorem dX2_perform_131 : decode cX2_perform 131 = .ok (.istore 4, 2) := by decide +kernel
theorem dX2_perform_133 : decode cX2_perform 133 = .ok (.iinc 6 1, 3) := by decide +kernel
theorem dX2_perform_136 : decode cX2_perform 136 = .ok (.goto (-113), 3) := by decide +kernel
theorem dX2_perform_139 : decode cX2_perform 139 = .ok (.return_, 1) := by decide +kernel
theorem dX3_init_0 : decode cX3_init 0 = .ok (.aload_n 0, 1) := by decide +kernel
theorem dX3_init_1 : decode cX3_init 1 = .ok (.invokespecial 3, 3) := by decide +kernel
theorem dX3_init_4 : decode cX3_init 4 = .ok (.aload_n 0, 1) := by decide +kernel
theorem dX3_init_5 : decode cX3_init 5 = .ok (.sipush 240, 3) := by decide +kernel
theorem dX3_init_8 : decode cX3_init 8 = .ok (.newarray .int, 2) := by decide +kernel
theorem dX3_init_10 : decode cX3_init 10 = .ok (.putfield 11, 3) := by decide +kernel
theorem dX3_init_13 : decode cX3_init 13 = .ok (.aload_n 0, 1) := by decide +kernel
theorem dX3_init_14 : decode cX3_init 14 = .ok (.bipush 40, 2) := by decide +kernel
theorem dX3_init_16 : decode cX3_init 16 = .ok (.newarray .boolean, 2) := by decide +kernel
theorem dX3_init_18 : decode cX3_init 18 = .ok (.putfield 15, 3) := by decide +kernel
theorem dX3_init_21 : decode cX3_init 21 = .ok (.aload_n 0, 1) := by decide +kernel
theorem dX3_init_22 : decode cX3_init 22 = .ok (.iconst 0, 1) := by decide +kernel
theorem dX3_init_23 : decode cX3_init 23 = .ok (.putfield 19, 3) := by decide +kernel
theorem dX3_init_26 : decode cX3_init 26 = .ok (.return_, 1) := by decide +kernel
theorem dX3_isAct_0 : decode cX3_isAct 0 = .ok (.iload_n 0, 1) := by decide +kernel
theorem dX3_isAct_1 : decode cX3_isAct 1 = .ok (.tableswitch 426 0 14 #[75, 95, 127, 127, 154, 181, 186, 206, 186, 233, 268, 303, 346, 389, 409], 75) := by decide +kernel
theorem dX3_isAct_76 : decode cX3_isAct 76 = .ok (.iload_n 1, 1) := by decide +kernel
theorem dX3_isAct_77 : decode cX3_isAct 77 = .ok (.invokestatic 23, 3) := by decide +kernel
theorem dX3_isAct_80 : decode cX3_isAct 80 = .ok (.ifCond .eq 14, 3) := by decide +kernel
theorem dX3_isAct_83 : decode cX3_isAct 83 = .ok (.iload_n 2, 1) := by decide +kernel
theorem dX3_isAct_84 : decode cX3_isAct 84 = .ok (.invokestatic 27, 3) := by decide +kernel
theorem dX3_isAct_87 : decode cX3_isAct 87 = .ok (.ifCond .eq 7, 3) := by decide +kernel
theorem dX3_isAct_90 : decode cX3_isAct 90 = .ok (.iconst 1, 1) := by decide +kernel
theorem dX3_isAct_91 : decode cX3_isAct 91 = .ok (.goto 4, 3) := by decide +kernel
theorem dX3_isAct_94 : decode cX3_isAct 94 = .ok (.iconst 0, 1) := by decide +kernel
theorem dX3_isAct_95 : decode cX3_isAct 95 = .ok (.ireturn, 1) := by decide +kernel
theorem dX3_isAct_96 : decode cX3_isAct 96 = .ok (.iload_n 1, 1) := by decide +kernel
theorem dX3_isAct_97 : decode cX3_isAct 97 = .ok (.invokestatic 23, 3) := by decide +kernel
theorem dX3_isAct_100 : decode cX3_isAct 100 = .ok (.ifCond .eq 26, 3) := by decide +kernel
theorem dX3_isAct_103 : decode cX3_isAct 103 = .ok (.iload_n 2, 1) := by decide +kernel
theorem dX3_isAct_104 : decode cX3_isAct 104 = .ok (.invokestatic 27, 3) := by decide +kernel
theorem dX3_isAct_107 : decode cX3_isAct 107 = .ok (.ifCond .eq 19, 3) := by decide +kernel
theorem dX3_isAct_110 : decode cX3_isAct 110 = .ok (.iload_n 3, 1) := by decide +kernel
theorem dX3_isAct_111 : decode cX3_isAct 111 = .ok (.invokestatic 27, 3) := by decide +kernel
theorem dX3_isAct_114 : decode cX3_isAct 114 = .ok (.ifCond .eq 12, 3) := by decide +kernel
theorem dX3_isAct_117 : decode cX3_isAct 117 = .ok (.iload_n 2, 1) := by decide +kernel
theorem dX3_isAct_118 : decode cX3_isAct 118 = .ok (.iload_n 3, 1) := by decide +kernel
theorem dX3_isAct_119 : decode cX3_isAct 119 = .ok (.if_icmp .gt 7, 3) := by decide +kernel
theorem dX3_isAct_122 : decode cX3_isAct 122 = .ok (.iconst 1, 1) := by decide +kernel
theorem dX3_isAct_123 : decode cX3_isAct 123 = .ok (.goto 4, 3) := by decide +kernel
theorem dX3_isAct_126 : decode cX3_isAct 126 = .ok (.iconst 0, 1) := by decide +kernel
theorem dX3_isAct_127 : decode cX3_isAct 127 = .ok (.ireturn, 1) := by decide +kernel
theorem dX3_isAct_128 : decode cX3_isAct 128 = .ok (.iload_n 1, 1) := by decide +kernel
theorem dX3_isAct_129 : decode cX3_isAct 129 = .ok (.invokestatic 23, 3) := by decide +kernel
theorem dX3_isAct_132 : decode cX3_isAct 132 = .ok (.ifCond .eq 21, 3) := by decide +kernel
theorem dX3_isAct_135 : decode cX3_isAct 135 = .ok (.iload_n 2, 1) := by decide +kernel
theorem dX3_isAct_136 : decode cX3_isAct 136 = .ok (.invokestatic 23, 3) := by decide +kernel
theorem dX3_isAct_139 : decode cX3_isAct 139 = .ok (.ifCond .eq 14, 3) := by decide +kernel
theorem dX3_isAct_142 : decode cX3_isAct 142 = .ok (.iload_n 3, 1) := by decide +kernel
theorem dX3_isAct_143 : decode cX3_isAct 143 = .ok (.invokestatic 23, 3) := by decide +kernel
theorem dX3_isAct_146 : decode cX3_isAct 146 = .ok (.ifCond .eq 7, 3) := by decide +kernel
theorem dX3_isAct_149 : decode cX3_isAct 149 = .ok (.iconst 1, 1) := by decide +kernel
theorem dX3_isAct_150 : decode cX3_isAct 150 = .ok (.goto 4, 3) := by decide +kernel
theorem dX3_isAct_153 : decode cX3_isAct 153 = .ok (.iconst 0, 1) := by decide +kernel
theorem dX3_isAct_154 : decode cX3_isAct 154 = .ok (.ireturn, 1) := by decide +kernel
theorem dX3_isAct_155 : decode cX3_isAct 155 = .ok (.iload_n 1, 1) := by decide +kernel
theorem dX3_isAct_156 : decode cX3_isAct 156 = .ok (.invokestatic 30, 3) := by decide +kernel
theorem dX3_isAct_159 : decode cX3_isAct 159 = .ok (.ifCond .eq 21, 3) := by decide +kernel
theorem dX3_isAct_162 : decode cX3_isAct 162 = .ok (.iload_n 2, 1) := by decide +kernel
theorem dX3_isAct_163 : decode cX3_isAct 163 = .ok (.invokestatic 33, 3) := by decide +kernel
theorem dX3_isAct_166 : decode cX3_isAct 166 = .ok (.ifCond .eq 14, 3) := by decide +kernel
theorem dX3_isAct_169 : decode cX3_isAct 169 = .ok (.iload_n 3, 1) := by decide +kernel
theorem dX3_isAct_170 : decode cX3_isAct 170 = .ok (.invokestatic 23, 3) := by decide +kernel
theorem dX3_isAct_173 : decode cX3_isAct 173 = .ok (.ifCond .eq 7, 3) := by decide +kernel
theorem dX3_isAct_176 : decode cX3_isAct 176 = .ok (.iconst 1, 1) := by decide +kernel
theorem dX3_isAct_177 : decode cX3_isAct 177 = .ok (.goto 4, 3) := by decide +kernel
theorem dX3_isAct_180 : decode cX3_isAct 180 = .ok (.iconst 0, 1) := by decide +kernel
theorem dX3_isAct_181 : decode cX3_isAct 181 = .ok (.ireturn, 1) := by decide +kernel
theorem dX3_isAct_182 : decode cX3_isAct 182 = .ok (.iload_n 1, 1) := by decide +kernel
theorem dX3_isAct_183 : decode cX3_isAct 183 = .ok (.invokestatic 30, 3) := by decide +kernel
theorem dX3_isAct_186 : decode cX3_isAct 186 = .ok (.ireturn, 1) := by decide +kernel
theorem dX3_isAct_187 : decode cX3_isAct 187 = .ok (.iload_n 1, 1) := by decide +kernel
theorem dX3_isAct_188 : decode cX3_isAct 188 = .ok (.invokestatic 30, 3) := by decide +kernel
theorem dX3_isAct_191 : decode cX3_isAct 191 = .ok (.ifCond .eq 14, 3) := by decide +kernel
theorem dX3_isAct_194 : decode cX3_isAct 194 = .ok (.iload_n 2, 1) := by decide +kernel
theorem dX3_isAct_195 : decode cX3_isAct 195 = .ok (.invokestatic 30, 3) := by decide +kernel
theorem dX3_isAct_198 : decode cX3_isAct 198 = .ok (.ifCond .eq 7, 3) := by decide +kernel
theorem dX3_isAct_201 : decode cX3_isAct 201 = .ok (.iconst 1, 1) := by decide +kernel
theorem dX3_isAct_202 : decode cX3_isAct 202 = .ok (.goto 4, 3) := by decide +kernel
theorem dX3_isAct_205 : decode cX3_isAct 205 = .ok (.iconst 0, 1) := by decide +kernel
theorem dX3_isAct_206 : decode cX3_isAct 206 = .ok (.ireturn, 1) := by decide +kernel
theorem dX3_isAct_207 : decode cX3_isAct 207 = .ok (.iload_n 1, 1) := by decide +kernel
theorem dX3_isAct_208 : decode cX3_isAct 208 = .ok (.invokestatic 30, 3) := by decide +kernel
theorem dX3_isAct_211 : decode cX3_isAct 211 = .ok (.ifCond .eq 21, 3) := by decide +kernel
theorem dX3_isAct_214 : decode cX3_isAct 214 = .ok (.iload_n 2, 1) := by decide +kernel
theorem dX3_isAct_215 : decode cX3_isAct 215 = .ok (.invokestatic 30, 3) := by decide +kernel
theorem dX3_isAct_218 : decode cX3_isAct 218 = .ok (.ifCond .eq 14, 3) := by decide +kernel
theorem dX3_isAct_221 : decode cX3_isAct 221 = .ok (.iload_n 3, 1) := by decide +kernel
theorem dX3_isAct_222 : decode cX3_isAct 222 = .ok (.invokestatic 30, 3) := by decide +kernel
theorem dX3_isAct_225 : decode cX3_isAct 225 = .ok (.ifCond .eq 7, 3) := by decide +kernel
theorem dX3_isAct_228 : decode cX3_isAct 228 = .ok (.iconst 1, 1) := by decide +kernel
theorem dX3_isAct_229 : decode cX3_isAct 229 = .ok (.goto 4, 3) := by decide +kernel
theorem dX3_isAct_232 : decode cX3_isAct 232 = .ok (.iconst 0, 1) := by decide +kernel
theorem dX3_isAct_233 : decode cX3_isAct 233 = .ok (.ireturn, 1) := by decide +kernel
theorem dX3_isAct_234 : decode cX3_isAct 234 = .ok (.iload_n 1, 1) := by decide +kernel
theorem dX3_isAct_235 : decode cX3_isAct 235 = .ok (.invokestatic 30, 3) := by decide +kernel
theorem dX3_isAct_238 : decode cX3_isAct 238 = .ok (.ifCond .eq 29, 3) := by decide +kernel
theorem dX3_isAct_241 : decode cX3_isAct 241 = .ok (.iload_n 2, 1) := by decide +kernel
theorem dX3_isAct_242 : decode cX3_isAct 242 = .ok (.invokestatic 33, 3) := by decide +kernel
theorem dX3_isAct_245 : decode cX3_isAct 245 = .ok (.ifCond .eq 22, 3) := by decide +kernel
theorem dX3_isAct_248 : decode cX3_isAct 248 = .ok (.iload_n 3, 1) := by decide +kernel
theorem dX3_isAct_249 : decode cX3_isAct 249 = .ok (.invokestatic 23, 3) := by decide +kernel
theorem dX3_isAct_252 : decode cX3_isAct 252 = .ok (.ifCond .eq 15, 3) := by decide +kernel
theorem dX3_isAct_255 : decode cX3_isAct 255 = .ok (.iload 4, 2) := by decide +kernel
theorem dX3_isAct_257 : decode cX3_isAct 257 = .ok (.invokestatic 23, 3) := by decide +kernel
theorem dX3_isAct_260 : decode cX3_isAct 260 = .ok (.ifCond .eq 7, 3) := by decide +kernel
theorem dX3_isAct_263 : decode cX3_isAct 263 = .ok (.iconst 1, 1) := by decide +kernel
theorem dX3_isAct_264 : decode cX3_isAct 264 = .ok (.goto 4, 3) := by decide +kernel
theorem dX3_isAct_267 : decode cX3_isAct 267 = .ok (.iconst 0, 1) := by decide +kernel
theorem dX3_isAct_268 : decode cX3_isAct 268 = .ok (.ireturn, 1) := by decide +kernel
theorem dX3_isAct_269 : decode cX3_isAct 269 = .ok (.iload_n 1, 1) := by decide +kernel
theorem dX3_isAct_270 : decode cX3_isAct 270 = .ok (.invokestatic 23, 3) := by decide +kernel
theorem dX3_isAct_273 : decode cX3_isAct 273 = .ok (.ifCond .eq 29, 3) := by decide +kernel
theorem dX3_isAct_276 : decode cX3_isAct 276 = .ok (.iload_n 2, 1) := by decide +kernel
theorem dX3_isAct_277 : decode cX3_isAct 277 = .ok (.invokestatic 30, 3) := by decide +kernel
theorem dX3_isAct_280 : decode cX3_isAct 280 = .ok (.ifCond .eq 22, 3) := by decide +kernel
theorem dX3_isAct_283 : decode cX3_isAct 283 = .ok (.iload_n 3, 1) := by decide +kernel
theorem dX3_isAct_284 : decode cX3_isAct 284 = .ok (.invokestatic 33, 3) := by decide +kernel
theorem dX3_isAct_287 : decode cX3_isAct 287 = .ok (.ifCond .eq 15, 3) := by decide +kernel
theorem dX3_isAct_290 : decode cX3_isAct 290 = .ok (.iload 4, 2) := by decide +kernel
theorem dX3_isAct_292 : decode cX3_isAct 292 = .ok (.invokestatic 23, 3) := by decide +kernel
theorem dX3_isAct_295 : decode cX3_isAct 295 = .ok (.ifCond .eq 7, 3) := by decide +kernel
theorem dX3_isAct_298 : decode cX3_isAct 298 = .ok (.iconst 1, 1) := by decide +kernel
theorem dX3_isAct_299 : decode cX3_isAct 299 = .ok (.goto 4, 3) := by decide +kernel
theorem dX3_isAct_302 : decode cX3_isAct 302 = .ok (.iconst 0, 1) := by decide +kernel
theorem dX3_isAct_303 : decode cX3_isAct 303 = .ok (.ireturn, 1) := by decide +kernel
theorem dX3_isAct_304 : decode cX3_isAct 304 = .ok (.iload_n 1, 1) := by decide +kernel
theorem dX3_isAct_305 : decode cX3_isAct 305 = .ok (.invokestatic 30, 3) := by decide +kernel
theorem dX3_isAct_308 : decode cX3_isAct 308 = .ok (.ifCond .eq 37, 3) := by decide +kernel
theorem dX3_isAct_311 : decode cX3_isAct 311 = .ok (.iload_n 2, 1) := by decide +kernel
theorem dX3_isAct_312 : decode cX3_isAct 312 = .ok (.invokestatic 23, 3) := by decide +kernel
theorem dX3_isAct_315 : decode cX3_isAct 315 = .ok (.ifCond .eq 30, 3) := by decide +kernel
theorem dX3_isAct_318 : decode cX3_isAct 318 = .ok (.iload_n 3, 1) := by decide +kernel
theorem dX3_isAct_319 : decode cX3_isAct 319 = .ok (.invokestatic 30, 3) := by decide +kernel
theorem dX3_isAct_322 : decode cX3_isAct 322 = .ok (.ifCond .eq 23, 3) := by decide +kernel
theorem dX3_isAct_325 : decode cX3_isAct 325 = .ok (.iload 4, 2) := by decide +kernel
theorem dX3_isAct_327 : decode cX3_isAct 327 = .ok (.invokestatic 23, 3) := by decide +kernel
theorem dX3_isAct_330 : decode cX3_isAct 330 = .ok (.ifCond .eq 15, 3) := by decide +kernel
theorem dX3_isAct_333 : decode cX3_isAct 333 = .ok (.iload 5, 2) := by decide +kernel
theorem dX3_isAct_335 : decode cX3_isAct 335 = .ok (.invokestatic 23, 3) := by decide +kernel
theorem dX3_isAct_338 : decode cX3_isAct 338 = .ok (.ifCond .eq 7, 3) := by decide +kernel
theorem dX3_isAct_341 : decode cX3_isAct 341 = .ok (.iconst 1, 1) := by decide +kernel
theorem dX3_isAct_342 : decode cX3_isAct 342 = .ok (.goto 4, 3) := by decide +kernel
theorem dX3_isAct_345 : decode cX3_isAct 345 = .ok (.iconst 0, 1) := by decide +kernel
theorem dX3_isAct_346 : decode cX3_isAct 346 = .ok (.ireturn, 1) := by decide +kernel
theorem dX3_isAct_347 : decode cX3_isAct 347 = .ok (.iload_n 1, 1) := by decide +kernel
theorem dX3_isAct_348 : decode cX3_isAct 348 = .ok (.invokestatic 30, 3) := by decide +kernel
theorem dX3_isAct_351 : decode cX3_isAct 351 = .ok (.ifCond .eq 37, 3) := by decide +kernel
theorem dX3_isAct_354 : decode cX3_isAct 354 = .ok (.iload_n 2, 1) := by decide +kernel
theorem dX3_isAct_355 : decode cX3_isAct 355 = .ok (.invokestatic 33, 3) := by decide +kernel
theorem dX3_isAct_358 : decode cX3_isAct 358 = .ok (.ifCond .eq 30, 3) := by decide +kernel
theorem dX3_isAct_361 : decode cX3_isAct 361 = .ok (.iload_n 3, 1) := by decide +kernel
theorem dX3_isAct_362 : decode cX3_isAct 362 = .ok (.invokestatic 23, 3) := by decide +kernel
theorem dX3_isAct_365 : decode cX3_isAct 365 = .ok (.ifCond .eq 23, 3) := by decide +kernel
theorem dX3_isAct_368 : decode cX3_isAct 368 = .ok (.iload 4, 2) := by decide +kernel
theorem dX3_isAct_370 : decode cX3_isAct 370 = .ok (.invokestatic 23, 3) := by decide +kernel
theorem dX3_isAct_373 : decode cX3_isAct 373 = .ok (.ifCond .eq 15, 3) := by decide +kernel
theorem dX3_isAct_376 : decode cX3_isAct 376 = .ok (.iload 5, 2) := by decide +kernel
theorem dX3_isAct_378 : decode cX3_isAct 378 = .ok (.invokestatic 23, 3) := by decide +kernel
theorem dX3_isAct_381 : decode cX3_isAct 381 = .ok (.ifCond .eq 7, 3) := by decide +kernel
theorem dX3_isAct_384 : decode cX3_isAct 384 = .ok (.iconst 1, 1) := by decide +kernel
theorem dX3_isAct_385 : decode cX3_isAct 385 = .ok (.goto 4, 3) := by decide +kernel
theorem dX3_isAct_388 : decode cX3_isAct 388 = .ok (.iconst 0, 1) := by decide +kernel
theorem dX3_isAct_389 : decode cX3_isAct 389 = .ok (.ireturn, 1) := by decide +kernel
theorem dX3_isAct_390 : decode cX3_isAct 390 = .ok (.iload_n 1, 1) := by decide +kernel
theorem dX3_isAct_391 : decode cX3_isAct 391 = .ok (.invokestatic 23, 3) := by decide +kernel
theorem dX3_isAct_394 : decode cX3_isAct 394 = .ok (.ifCond .eq 14, 3) := by decide +kernel
theorem dX3_isAct_397 : decode cX3_isAct 397 = .ok (.iload_n 2, 1) := by decide +kernel
theorem dX3_isAct_398 : decode cX3_isAct 398 = .ok (.invokestatic 30, 3) := by decide +kernel
theorem dX3_isAct_401 : decode cX3_isAct 401 = .ok (.ifCond .eq 7, 3) := by decide +kernel
theorem dX3_isAct_404 : decode cX3_isAct 404 = .ok (.iconst 1, 1) := by decide +kernel
theorem dX3_isAct_405 : decode cX3_isAct 405 = .ok (.goto 4, 3) := by decide +kernel
theorem dX3_isAct_408 : decode cX3_isAct 408 = .ok (.iconst 0, 1) := by decide +kernel
theorem dX3_isAct_409 : decode cX3_isAct 409 = .ok (.ireturn, 1) := by decide +kernel
theorem dX3_isAct_410 : decode cX3_isAct 410 = .ok (.iload_n 2, 1) := by decide +kernel
theorem dX3_isAct_411 : decode cX3_isAct 411 = .ok (.iconst 1, 1) := by decide +kernel
theorem dX3_isAct_412 : decode cX3_isAct 412 = .ok (.if_icmp .lt 13, 3) := by decide +kernel
theorem dX3_isAct_415 : decode cX3_isAct 415 = .ok (.iload_n 2, 1) := by decide +kernel
theorem dX3_isAct_416 : decode cX3_isAct 416 = .ok (.bipush 10, 2) := by decide +kernel
theorem dX3_isAct_418 : decode cX3_isAct 418 = .ok (.if_icmp .gt 7, 3) := by decide +kernel
theorem dX3_isAct_421 : decode cX3_isAct 421 = .ok (.iconst 1, 1) := by decide +kernel
theorem dX3_isAct_422 : decode cX3_isAct 422 = .ok (.goto 4, 3) := by decide +kernel
theorem dX3_isAct_425 : decode cX3_isAct 425 = .ok (.iconst 0, 1) := by decide +kernel
theorem dX3_isAct_426 : decode cX3_isAct 426 = .ok (.ireturn, 1) := by decide +kernel
theorem dX3_isAct_427 : decode cX3_isAct 427 = .ok (.iconst 0, 1) := by decide +kernel
theorem dX3_isAct_428 : decode cX3_isAct 428 = .ok (.ireturn, 1) := by decide +kernel
theorem dX3_hasAct_0 : decode cX3_hasAct 0 = .ok (.iload_n 1, 1) := by decide +kernel
theorem dX3_hasAct_1 : decode cX3_hasAct 1 = .ok (.ifCond .lt 21, 3) := by decide +kernel
theorem dX3_hasAct_4 : decode cX3_hasAct 4 = .ok (.iload_n 1, 1) := by decide +kernel
theorem dX3_hasAct_5 : decode cX3_hasAct 5 = .ok (.aload_n 0, 1) := by decide +kernel
theorem dX3_hasAct_6 : decode cX3_hasAct 6 = .ok (.getfield 19, 3) := by decide +kernel
theorem dX3_hasAct_9 : decode cX3_hasAct 9 = .ok (.if_icmp .ge 13, 3) := by decide +kernel
theorem dX3_hasAct_12 : decode cX3_hasAct 12 = .ok (.iload_n 1, 1) := by decide +kernel
theorem dX3_hasAct_13 : decode cX3_hasAct 13 = .ok (.bipush 40, 2) := by decide +kernel
theorem dX3_hasAct_15 : decode cX3_hasAct 15 = .ok (.if_icmp .ge 7, 3) := by decide +kernel
theorem dX3_hasAct_18 : decode cX3_hasAct 18 = .ok (.iconst 1, 1) := by decide +kernel
theorem dX3_hasAct_19 : decode cX3_hasAct 19 = .ok (.goto 4, 3) := by decide +kernel
theorem dX3_hasAct_22 : decode cX3_hasAct 22 = .ok (.iconst 0, 1) := by decide +kernel
theorem dX3_hasAct_23 : decode cX3_hasAct 23 = .ok (.ireturn, 1) := by decide +kernel
theorem dX3_append_0 : decode cX3_append 0 = .ok (.aload_n 0, 1) := by decide +kernel
theorem dX3_append_1 : decode cX3_append 1 = .ok (.getfield 19, 3) := by decide +kernel
theorem dX3_append_4 : decode cX3_append 4 = .ok (.bipush 6, 2) := by decide +kernel
theorem dX3_append_6 : decode cX3_append 6 = .ok (.imul, 1) := by decide +kernel
theorem dX3_append_7 : decode cX3_append 7 = .ok (.istore 7, 2) := by decide +kernel
theorem dX3_append_9 : decode cX3_append 9 = .ok (.aload_n 0, 1) := by decide +kernel
theorem dX3_append_10 : decode cX3_append 10 = .ok (.getfield 11, 3) := by decide +kernel
theorem dX3_append_13 : decode cX3_append 13 = .ok (.iload 7, 2) := by decide +kernel
theorem dX3_append_15 : decode cX3_append 15 = .ok (.iload_n 1, 1) := by decide +kernel
theorem dX3_append_16 : decode cX3_append 16 = .ok (.iastore, 1) := by decide +kernel
theorem dX3_append_17 : decode cX3_append 17 = .ok (.aload_n 0, 1) := by decide +kernel
theorem dX3_append_18 : decode cX3_append 18 = .ok (.getfield 11, 3) := by decide +kernel
theorem dX3_append_21 : decode cX3_append 21 = .ok (.iload 7, 2) := by decide +kernel
theorem dX3_append_23 : decode cX3_append 23 = .ok (.iconst 1, 1) := by decide +kernel
theorem dX3_append_24 : decode cX3_append 24 = .ok (.iadd, 1) := by decide +kernel
theorem dX3_append_25 : decode cX3_append 25 = .ok (.iload_n 2, 1) := by decide +kernel
theorem dX3_append_26 : decode cX3_append 26 = .ok (.iastore, 1) := by decide +kernel
theorem dX3_append_27 : decode cX3_append 27 = .ok (.aload_n 0, 1) := by decide +kernel
theorem dX3_append_28 : decode cX3_append 28 = .ok (.getfield 11, 3) := by decide +kernel
theorem dX3_append_31 : decode cX3_append 31 = .ok (.iload 7, 2) := by decide +kernel
theorem dX3_append_33 : decode cX3_append 33 = .ok (.iconst 2, 1) := by decide +kernel
theorem dX3_append_34 : decode cX3_append 34 = .ok (.iadd, 1) := by decide +kernel
theorem dX3_append_35 : decode cX3_append 35 = .ok (.iload_n 3, 1) := by decide +kernel
theorem dX3_append_36 : decode cX3_append 36 = .ok (.iastore, 1) := by decide +kernel
theorem dX3_append_37 : decode cX3_append 37 = .ok (.aload_n 0, 1) := by decide +kernel
theorem dX3_append_38 : decode cX3_append 38 = .ok (.getfield 11, 3) := by decide +kernel
theorem dX3_append_41 : decode cX3_append 41 = .ok (.iload 7, 2) := by decide +kernel
theorem dX3_append_43 : decode cX3_append 43 = .ok (.iconst 3, 1) := by decide +kernel
theorem dX3_append_44 : decode cX3_append 44 = .ok (.iadd, 1) := by decide +kernel
theorem dX3_append_45 : decode cX3_append 45 = .ok (.iload 4, 2) := by decide +kernel
theorem dX3_append_47 : decode cX3_append 47 = .ok (.iastore, 1) := by decide +kernel
theorem dX3_append_48 : decode cX3_append 48 = .ok (.aload_n 0, 1) := by decide +kernel
theorem dX3_append_49 : decode cX3_append 49 = .ok (.getfield 11, 3) := by decide +kernel
theorem dX3_append_52 : decode cX3_append 52 = .ok (.iload 7, 2) := by decide +kernel
theorem dX3_append_54 : decode cX3_append 54 = .ok (.iconst 4, 1) := by decide +kernel
theorem dX3_append_55 : decode cX3_append 55 = .ok (.iadd, 1) := by decide +kernel
theorem dX3_append_56 : decode cX3_append 56 = .ok (.iload 5, 2) := by decide +kernel
theorem dX3_append_58 : decode cX3_append 58 = .ok (.iastore, 1) := by decide +kernel
theorem dX3_append_59 : decode cX3_append 59 = .ok (.aload_n 0, 1) := by decide +kernel
theorem dX3_append_60 : decode cX3_append 60 = .ok (.getfield 11, 3) := by decide +kernel
theorem dX3_append_63 : decode cX3_append 63 = .ok (.iload 7, 2) := by decide +kernel
theorem dX3_append_65 : decode cX3_append 65 = .ok (.iconst 5, 1) := by decide +kernel
theorem dX3_append_66 : decode cX3_append 66 = .ok (.iadd, 1) := by decide +kernel
theorem dX3_append_67 : decode cX3_append 67 = .ok (.iload 6, 2) := by decide +kernel
theorem dX3_append_69 : decode cX3_append 69 = .ok (.iastore, 1) := by decide +kernel
theorem dX3_append_70 : decode cX3_append 70 = .ok (.aload_n 0, 1) := by decide +kernel
theorem dX3_append_71 : decode cX3_append 71 = .ok (.getfield 15, 3) := by decide +kernel
theorem dX3_append_74 : decode cX3_append 74 = .ok (.aload_n 0, 1) := by decide +kernel
theorem dX3_append_75 : decode cX3_append 75 = .ok (.getfield 19, 3) := by decide +kernel
theorem dX3_append_78 : decode cX3_append 78 = .ok (.iconst 0, 1) := by decide +kernel
theorem dX3_append_79 : decode cX3_append 79 = .ok (.bastore, 1) := by decide +kernel
theorem dX3_append_80 : decode cX3_append 80 = .ok (.aload_n 0, 1) := by decide +kernel
theorem dX3_append_81 : decode cX3_append 81 = .ok (.dup, 1) := by decide +kernel
theorem dX3_append_82 : decode cX3_append 82 = .ok (.getfield 19, 3) := by decide +kernel
theorem dX3_append_85 : decode cX3_append 85 = .ok (.iconst 1, 1) := by decide +kernel
theorem dX3_append_86 : decode cX3_append 86 = .ok (.iadd, 1) := by decide +kernel
theorem dX3_append_87 : decode cX3_append 87 = .ok (.putfield 19, 3) := by decide +kernel
theorem dX3_append_90 : decode cX3_append 90 = .ok (.aload_n 0, 1) := by decide +kernel
theorem dX3_append_91 : decode cX3_append 91 = .ok (.getfield 19, 3) := by decide +kernel
theorem dX3_append_94 : decode cX3_append 94 = .ok (.iconst 1, 1) := by decide +kernel
theorem dX3_append_95 : decode cX3_append 95 = .ok (.isub, 1) := by decide +kernel
theorem dX3_append_96 : decode cX3_append 96 = .ok (.ireturn, 1) := by decide +kernel
theorem dX3_removeAll_0 : decode cX3_removeAll 0 = .ok (.aload_n 0, 1) := by decide +kernel
theorem dX3_removeAll_1 : decode cX3_removeAll 1 = .ok (.iconst 0, 1) := by decide +kernel
theorem dX3_removeAll_2 : decode cX3_removeAll 2 = .ok (.putfield 19, 3) := by decide +kernel
theorem dX3_removeAll_5 : decode cX3_removeAll 5 = .ok (.return_, 1) := by decide +kernel
theorem dX3_countKept_0 : decode cX3_countKept 0 = .ok (.iconst 0, 1) := by decide +kernel
theorem dX3_countKept_1 : decode cX3_countKept 1 = .ok (.istore_n 1, 1) := by decide +kernel
theorem dX3_countKept_2 : decode cX3_countKept 2 = .ok (.iconst 0, 1) := by decide +kernel
theorem dX3_countKept_3 : decode cX3_countKept 3 = .ok (.istore_n 2, 1) := by decide +kernel
theorem dX3_countKept_4 : decode cX3_countKept 4 = .ok (.iload_n 2, 1) := by decide +kernel
theorem dX3_countKept_5 : decode cX3_countKept 5 = .ok (.aload_n 0, 1) := by decide +kernel
theorem dX3_countKept_6 : decode cX3_countKept 6 = .ok (.getfield 19, 3) := by decide +kernel
theorem dX3_countKept_9 : decode cX3_countKept 9 = .ok (.if_icmp .ge 21, 3) := by decide +kernel
theorem dX3_countKept_12 : decode cX3_countKept 12 = .ok (.aload_n 0, 1) := by decide +kernel
theorem dX3_countKept_13 : decode cX3_countKept 13 = .ok (.getfield 15, 3) := by decide +kernel
theorem dX3_countKept_16 : decode cX3_countKept 16 = .ok (.iload_n 2, 1) := by decide +kernel
theorem dX3_countKept_17 : decode cX3_countKept 17 = .ok (.baload, 1) := by decide +kernel
theorem dX3_countKept_18 : decode cX3_countKept 18 = .ok (.ifCond .ne 6, 3) := by decide +kernel
theorem dX3_countKept_21 : decode cX3_countKept 21 = .ok (.iinc 1 1, 3) := by decide +kernel
theorem dX3_countKept_24 : decode cX3_countKept 24 = .ok (.iinc 2 1, 3) := by decide +kernel
theorem dX3_countKept_27 : decode cX3_countKept 27 = .ok (.goto (-23), 3) := by decide +kernel
theorem dX3_countKept_30 : decode cX3_countKept 30 = .ok (.iload_n 1, 1) := by decide +kernel
theorem dX3_countKept_31 : decode cX3_countKept 31 = .ok (.ireturn, 1) := by decide +kernel
theorem dJ13_bitCount_95d88_0 : decode cJ13_bitCount_95d88 0 = .ok (.lload_n 0, 1) := by decide +kernel
theorem dJ13_bitCount_95d88_1 : decode cJ13_bitCount_95d88 1 = .ok (.lload_n 0, 1) := by decide +kernel
theorem dJ13_bitCount_95d88_2 : decode cJ13_bitCount_95d88 2 = .ok (.iconst 1, 1) := by decide +kernel
theorem dJ13_bitCount_95d88_3 : decode cJ13_bitCount_95d88 3 = .ok (.lushr, 1) := by decide +kernel
theorem dJ13_bitCount_95d88_4 : decode cJ13_bitCount_95d88 4 = .ok (.ldc2_w 314, 3) := by decide +kernel
theorem dJ13_bitCount_95d88_7 : decode cJ13_bitCount_95d88 7 = .ok (.land, 1) := by decide +kernel
theorem dJ13_bitCount_95d88_8 : decode cJ13_bitCount_95d88 8 = .ok (.lsub, 1) := by decide +kernel
theorem dJ13_bitCount_95d88_9 : decode cJ13_bitCount_95d88 9 = .ok (.lstore_n 0, 1) := by decide +kernel
theorem dJ13_bitCount_95d88_10 : decode cJ13_bitCount_95d88 10 = .ok (.lload_n 0, 1) := by decide +kernel
theorem dJ13_bitCount_95d88_11 : decode cJ13_bitCount_95d88 11 = .ok (.ldc2_w 316, 3) := by decide +kernel
theorem dJ13_bitCount_95d88_14 : decode cJ13_bitCount_95d88 14 = .ok (.land, 1) := by decide +kernel
theorem dJ13_bitCount_95d88_15 : decode cJ13_bitCount_95d88 15 = .ok (.lload_n 0, 1) := by decide +kernel
theorem dJ13_bitCount_95d88_16 : decode cJ13_bitCount_95d88 16 = .ok (.iconst 2, 1) := by decide +kernel
theorem dJ13_bitCount_95d88_17 : decode cJ13_bitCount_95d88 17 = .ok (.lushr, 1) := by decide +kernel
theorem dJ13_bitCount_95d88_18 : decode cJ13_bitCount_95d88 18 = .ok (.ldc2_w 316, 3) := by decide +kernel
theorem dJ13_bitCount_95d88_21 : decode cJ13_bitCount_95d88 21 = .ok (.land, 1) := by decide +kernel
theorem dJ13_bitCount_95d88_22 : decode cJ13_bitCount_95d88 22 = .ok (.ladd, 1) := by decide +kernel
theorem dJ13_bitCount_95d88_23 : decode cJ13_bitCount_95d88 23 = .ok (.lstore_n 0, 1) := by decide +kernel
theorem dJ13_bitCount_95d88_24 : decode cJ13_bitCount_95d88 24 = .ok (.lload_n 0, 1) := by decide +kernel
theorem dJ13_bitCount_95d88_25 : decode cJ13_bitCount_95d88 25 = .ok (.lload_n 0, 1) := by decide +kernel
theorem dJ13_bitCount_95d88_26 : decode cJ13_bitCount_95d88 26 = .ok (.iconst 4, 1) := by decide +kernel
theorem dJ13_bitCount_95d88_27 : decode cJ13_bitCount_95d88 27 = .ok (.lushr, 1) := by decide +kernel
theorem dJ13_bitCount_95d88_28 : decode cJ13_bitCount_95d88 28 = .ok (.ladd, 1) := by decide +kernel
theorem dJ13_bitCount_95d88_29 : decode cJ13_bitCount_95d88 29 = .ok (.ldc2_w 318, 3) := by decide +kernel
theorem dJ13_bitCount_95d88_32 : decode cJ13_bitCount_95d88 32 = .ok (.land, 1) := by decide +kernel
theorem dJ13_bitCount_95d88_33 : decode cJ13_bitCount_95d88 33 = .ok (.lstore_n 0, 1) := by decide +kernel
theorem dJ13_bitCount_95d88_34 : decode cJ13_bitCount_95d88 34 = .ok (.lload_n 0, 1) := by decide +kernel
theorem dJ13_bitCount_95d88_35 : decode cJ13_bitCount_95d88 35 = .ok (.lload_n 0, 1) := by decide +kernel
theorem dJ13_bitCount_95d88_36 : decode cJ13_bitCount_95d88 36 = .ok (.bipush 8, 2) := by decide +kernel
theorem dJ13_bitCount_95d88_38 : decode cJ13_bitCount_95d88 38 = .ok (.lushr, 1) := by decide +kernel
theorem dJ13_bitCount_95d88_39 : decode cJ13_bitCount_95d88 39 = .ok (.ladd, 1) := by decide +kernel
theorem dJ13_bitCount_95d88_40 : decode cJ13_bitCount_95d88 40 = .ok (.lstore_n 0, 1) := by decide +kernel
theorem dJ13_bitCount_95d88_41 : decode cJ13_bitCount_95d88 41 = .ok (.lload_n 0, 1) := by decide +kernel
theorem dJ13_bitCount_95d88_42 : decode cJ13_bitCount_95d88 42 = .ok (.lload_n 0, 1) := by decide +kernel
theorem dJ13_bitCount_95d88_43 : decode cJ13_bitCount_95d88 43 = .ok (.bipush 16, 2) := by decide +kernel
theorem dJ13_bitCount_95d88_45 : decode cJ13_bitCount_95d88 45 = .ok (.lushr, 1) := by decide +kernel
theorem dJ13_bitCount_95d88_46 : decode cJ13_bitCount_95d88 46 = .ok (.ladd, 1) := by decide +kernel
theorem dJ13_bitCount_95d88_47 : decode cJ13_bitCount_95d88 47 = .ok (.lstore_n 0, 1) := by decide +kernel
theorem dJ13_bitCount_95d88_48 : decode cJ13_bitCount_95d88 48 = .ok (.lload_n 0, 1) := by decide +kernel
theorem dJ13_bitCount_95d88_49 : decode cJ13_bitCount_95d88 49 = .ok (.lload_n 0, 1) := by decide +kernel
theorem dJ13_bitCount_95d88_50 : decode cJ13_bitCount_95d88 50 = .ok (.bipush 32, 2) := by decide +kernel
theorem dJ13_bitCount_95d88_52 : decode cJ13_bitCount_95d88 52 = .ok (.lushr, 1) := by decide +kernel
theorem dJ13_bitCount_95d88_53 : decode cJ13_bitCount_95d88 53 = .ok (.ladd, 1) := by decide +kernel
theorem dJ13_bitCount_95d88_54 : decode cJ13_bitCount_95d88 54 = .ok (.lstore_n 0, 1) := by decide +kernel
theorem dJ13_bitCount_95d88_55 : decode cJ13_bitCount_95d88 55 = .ok (.lload_n 0, 1) := by decide +kernel
theorem dJ13_bitCount_95d88_56 : decode cJ13_bitCount_95d88 56 = .ok (.l2i, 1) := by decide +kernel
theorem dJ13_bitCount_95d88_57 : decode cJ13_bitCount_95d88 57 = .ok (.bipush 127, 2) := by decide +kernel
theorem dJ13_bitCount_95d88_59 : decode cJ13_bitCount_95d88 59 = .ok (.iand, 1) := by decide +kernel
theorem dJ13_bitCount_95d88_60 : decode cJ13_bitCount_95d88 60 = .ok (.ireturn, 1) := by decide +kernel
