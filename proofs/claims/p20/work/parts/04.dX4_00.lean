theorem dX4_init_0 : decode cX4_init 0 = .ok (.aload_n 0, 1) := by decide +kernel
theorem dX4_init_1 : decode cX4_init 1 = .ok (.invokespecial 1, 3) := by decide +kernel
theorem dX4_init_4 : decode cX4_init 4 = .ok (.aload_n 0, 1) := by decide +kernel
theorem dX4_init_5 : decode cX4_init 5 = .ok (.new 7, 3) := by decide +kernel
theorem dX4_init_8 : decode cX4_init 8 = .ok (.dup, 1) := by decide +kernel
theorem dX4_init_9 : decode cX4_init 9 = .ok (.invokespecial 9, 3) := by decide +kernel
theorem dX4_init_12 : decode cX4_init 12 = .ok (.putfield 10, 3) := by decide +kernel
theorem dX4_init_15 : decode cX4_init 15 = .ok (.aload_n 0, 1) := by decide +kernel
theorem dX4_init_16 : decode cX4_init 16 = .ok (.new 16, 3) := by decide +kernel
theorem dX4_init_19 : decode cX4_init 19 = .ok (.dup, 1) := by decide +kernel
theorem dX4_init_20 : decode cX4_init 20 = .ok (.invokespecial 18, 3) := by decide +kernel
theorem dX4_init_23 : decode cX4_init 23 = .ok (.putfield 19, 3) := by decide +kernel
theorem dX4_init_26 : decode cX4_init 26 = .ok (.aload_n 0, 1) := by decide +kernel
theorem dX4_init_27 : decode cX4_init 27 = .ok (.new 23, 3) := by decide +kernel
theorem dX4_init_30 : decode cX4_init 30 = .ok (.dup, 1) := by decide +kernel
theorem dX4_init_31 : decode cX4_init 31 = .ok (.invokespecial 25, 3) := by decide +kernel
theorem dX4_init_34 : decode cX4_init 34 = .ok (.putfield 26, 3) := by decide +kernel
theorem dX4_init_37 : decode cX4_init 37 = .ok (.aload_n 0, 1) := by decide +kernel
theorem dX4_init_38 : decode cX4_init 38 = .ok (.iconst 0, 1) := by decide +kernel
theorem dX4_init_39 : decode cX4_init 39 = .ok (.putfield 30, 3) := by decide +kernel
theorem dX4_init_42 : decode cX4_init 42 = .ok (.return_, 1) := by decide +kernel
theorem dX4_clear_0 : decode cX4_clear 0 = .ok (.aload_n 0, 1) := by decide +kernel
theorem dX4_clear_1 : decode cX4_clear 1 = .ok (.getfield 10, 3) := by decide +kernel
theorem dX4_clear_4 : decode cX4_clear 4 = .ok (.getfield 34, 3) := by decide +kernel
theorem dX4_clear_7 : decode cX4_clear 7 = .ok (.istore_n 1, 1) := by decide +kernel
theorem dX4_clear_8 : decode cX4_clear 8 = .ok (.aload_n 0, 1) := by decide +kernel
theorem dX4_clear_9 : decode cX4_clear 9 = .ok (.getfield 10, 3) := by decide +kernel
theorem dX4_clear_12 : decode cX4_clear 12 = .ok (.invokevirtual 37, 3) := by decide +kernel
theorem dX4_clear_15 : decode cX4_clear 15 = .ok (.aload_n 0, 1) := by decide +kernel
theorem dX4_clear_16 : decode cX4_clear 16 = .ok (.invokevirtual 40, 3) := by decide +kernel
theorem dX4_clear_19 : decode cX4_clear 19 = .ok (.iload_n 1, 1) := by decide +kernel
theorem dX4_clear_20 : decode cX4_clear 20 = .ok (.ireturn, 1) := by decide +kernel
theorem dX4_act_0 : decode cX4_act 0 = .ok (.iload_n 1, 1) := by decide +kernel
theorem dX4_act_1 : decode cX4_act 1 = .ok (.iload_n 2, 1) := by decide +kernel
theorem dX4_act_2 : decode cX4_act 2 = .ok (.iload_n 3, 1) := by decide +kernel
theorem dX4_act_3 : decode cX4_act 3 = .ok (.iload 4, 2) := by decide +kernel
theorem dX4_act_5 : decode cX4_act 5 = .ok (.iload 5, 2) := by decide +kernel
theorem dX4_act_7 : decode cX4_act 7 = .ok (.iload 6, 2) := by decide +kernel
theorem dX4_act_9 : decode cX4_act 9 = .ok (.invokestatic 43, 3) := by decide +kernel
theorem dX4_act_12 : decode cX4_act 12 = .ok (.ifCond .ne 6, 3) := by decide +kernel
theorem dX4_act_15 : decode cX4_act 15 = .ok (.bipush (-2), 2) := by decide +kernel
theorem dX4_act_17 : decode cX4_act 17 = .ok (.ireturn, 1) := by decide +kernel
theorem dX4_act_18 : decode cX4_act 18 = .ok (.aload_n 0, 1) := by decide +kernel
theorem dX4_act_19 : decode cX4_act 19 = .ok (.getfield 10, 3) := by decide +kernel
theorem dX4_act_22 : decode cX4_act 22 = .ok (.getfield 34, 3) := by decide +kernel
theorem dX4_act_25 : decode cX4_act 25 = .ok (.bipush 40, 2) := by decide +kernel
theorem dX4_act_27 : decode cX4_act 27 = .ok (.if_icmp .lt 6, 3) := by decide +kernel
theorem dX4_act_30 : decode cX4_act 30 = .ok (.bipush (-4), 2) := by decide +kernel
theorem dX4_act_32 : decode cX4_act 32 = .ok (.ireturn, 1) := by decide +kernel
theorem dX4_act_33 : decode cX4_act 33 = .ok (.aload_n 0, 1) := by decide +kernel
theorem dX4_act_34 : decode cX4_act 34 = .ok (.getfield 10, 3) := by decide +kernel
theorem dX4_act_37 : decode cX4_act 37 = .ok (.iload_n 1, 1) := by decide +kernel
theorem dX4_act_38 : decode cX4_act 38 = .ok (.iload_n 2, 1) := by decide +kernel
theorem dX4_act_39 : decode cX4_act 39 = .ok (.iload_n 3, 1) := by decide +kernel
theorem dX4_act_40 : decode cX4_act 40 = .ok (.iload 4, 2) := by decide +kernel
theorem dX4_act_42 : decode cX4_act 42 = .ok (.iload 5, 2) := by decide +kernel
theorem dX4_act_44 : decode cX4_act 44 = .ok (.iload 6, 2) := by decide +kernel
theorem dX4_act_46 : decode cX4_act 46 = .ok (.invokevirtual 47, 3) := by decide +kernel
theorem dX4_act_49 : decode cX4_act 49 = .ok (.istore 7, 2) := by decide +kernel
theorem dX4_act_51 : decode cX4_act 51 = .ok (.aload_n 0, 1) := by decide +kernel
theorem dX4_act_52 : decode cX4_act 52 = .ok (.invokevirtual 40, 3) := by decide +kernel
theorem dX4_act_55 : decode cX4_act 55 = .ok (.iload 7, 2) := by decide +kernel
theorem dX4_act_57 : decode cX4_act 57 = .ok (.ireturn, 1) := by decide +kernel
theorem dX4_drop_0 : decode cX4_drop 0 = .ok (.aload_n 0, 1) := by decide +kernel
theorem dX4_drop_1 : decode cX4_drop 1 = .ok (.getfield 10, 3) := by decide +kernel
theorem dX4_drop_4 : decode cX4_drop 4 = .ok (.iload_n 1, 1) := by decide +kernel
theorem dX4_drop_5 : decode cX4_drop 5 = .ok (.invokevirtual 51, 3) := by decide +kernel
theorem dX4_drop_8 : decode cX4_drop 8 = .ok (.ifCond .ne 6, 3) := by decide +kernel
theorem dX4_drop_11 : decode cX4_drop 11 = .ok (.bipush (-2), 2) := by decide +kernel
theorem dX4_drop_13 : decode cX4_drop 13 = .ok (.ireturn, 1) := by decide +kernel
theorem dX4_drop_14 : decode cX4_drop 14 = .ok (.aload_n 0, 1) := by decide +kernel
theorem dX4_drop_15 : decode cX4_drop 15 = .ok (.getfield 10, 3) := by decide +kernel
theorem dX4_drop_18 : decode cX4_drop 18 = .ok (.getfield 55, 3) := by decide +kernel
theorem dX4_drop_21 : decode cX4_drop 21 = .ok (.iload_n 1, 1) := by decide +kernel
theorem dX4_drop_22 : decode cX4_drop 22 = .ok (.baload, 1) := by decide +kernel
theorem dX4_drop_23 : decode cX4_drop 23 = .ok (.ifCond .eq 5, 3) := by decide +kernel
theorem dX4_drop_26 : decode cX4_drop 26 = .ok (.iconst 0, 1) := by decide +kernel
theorem dX4_drop_27 : decode cX4_drop 27 = .ok (.ireturn, 1) := by decide +kernel
theorem dX4_drop_28 : decode cX4_drop 28 = .ok (.aload_n 0, 1) := by decide +kernel
theorem dX4_drop_29 : decode cX4_drop 29 = .ok (.getfield 10, 3) := by decide +kernel
theorem dX4_drop_32 : decode cX4_drop 32 = .ok (.getfield 55, 3) := by decide +kernel
theorem dX4_drop_35 : decode cX4_drop 35 = .ok (.iload_n 1, 1) := by decide +kernel
theorem dX4_drop_36 : decode cX4_drop 36 = .ok (.iconst 1, 1) := by decide +kernel
theorem dX4_drop_37 : decode cX4_drop 37 = .ok (.bastore, 1) := by decide +kernel
theorem dX4_drop_38 : decode cX4_drop 38 = .ok (.aload_n 0, 1) := by decide +kernel
theorem dX4_drop_39 : decode cX4_drop 39 = .ok (.invokevirtual 40, 3) := by decide +kernel
theorem dX4_drop_42 : decode cX4_drop 42 = .ok (.iconst 1, 1) := by decide +kernel
theorem dX4_drop_43 : decode cX4_drop 43 = .ok (.ireturn, 1) := by decide +kernel
theorem dX4_reached_0 : decode cX4_reached 0 = .ok (.aload_n 0, 1) := by decide +kernel
theorem dX4_reached_1 : decode cX4_reached 1 = .ok (.getfield 10, 3) := by decide +kernel
theorem dX4_reached_4 : decode cX4_reached 4 = .ok (.iload_n 1, 1) := by decide +kernel
theorem dX4_reached_5 : decode cX4_reached 5 = .ok (.invokevirtual 51, 3) := by decide +kernel
theorem dX4_reached_8 : decode cX4_reached 8 = .ok (.ifCond .ne 6, 3) := by decide +kernel
theorem dX4_reached_11 : decode cX4_reached 11 = .ok (.bipush (-2), 2) := by decide +kernel
theorem dX4_reached_13 : decode cX4_reached 13 = .ok (.ireturn, 1) := by decide +kernel
theorem dX4_reached_14 : decode cX4_reached 14 = .ok (.aload_n 0, 1) := by decide +kernel
theorem dX4_reached_15 : decode cX4_reached 15 = .ok (.getfield 19, 3) := by decide +kernel
theorem dX4_reached_18 : decode cX4_reached 18 = .ok (.aload_n 0, 1) := by decide +kernel
theorem dX4_reached_19 : decode cX4_reached 19 = .ok (.getfield 10, 3) := by decide +kernel
theorem dX4_reached_22 : decode cX4_reached 22 = .ok (.invokevirtual 59, 3) := by decide +kernel
theorem dX4_reached_25 : decode cX4_reached 25 = .ok (.aload_n 0, 1) := by decide +kernel
theorem dX4_reached_26 : decode cX4_reached 26 = .ok (.getfield 19, 3) := by decide +kernel
theorem dX4_reached_29 : decode cX4_reached 29 = .ok (.getfield 63, 3) := by decide +kernel
theorem dX4_reached_32 : decode cX4_reached 32 = .ok (.iload_n 1, 1) := by decide +kernel
theorem dX4_reached_33 : decode cX4_reached 33 = .ok (.baload, 1) := by decide +kernel
theorem dX4_reached_34 : decode cX4_reached 34 = .ok (.ifCond .eq 7, 3) := by decide +kernel
theorem dX4_reached_37 : decode cX4_reached 37 = .ok (.iconst 1, 1) := by decide +kernel
theorem dX4_reached_38 : decode cX4_reached 38 = .ok (.goto 4, 3) := by decide +kernel
theorem dX4_reached_41 : decode cX4_reached 41 = .ok (.iconst 0, 1) := by decide +kernel
theorem dX4_reached_42 : decode cX4_reached 42 = .ok (.ireturn, 1) := by decide +kernel
theorem dX4_throwsAt_0 : decode cX4_throwsAt 0 = .ok (.aload_n 0, 1) := by decide +kernel
theorem dX4_throwsAt_1 : decode cX4_throwsAt 1 = .ok (.getfield 10, 3) := by decide +kernel
theorem dX4_throwsAt_4 : decode cX4_throwsAt 4 = .ok (.iload_n 1, 1) := by decide +kernel
theorem dX4_throwsAt_5 : decode cX4_throwsAt 5 = .ok (.invokevirtual 51, 3) := by decide +kernel
theorem dX4_throwsAt_8 : decode cX4_throwsAt 8 = .ok (.ifCond .ne 6, 3) := by decide +kernel
theorem dX4_throwsAt_11 : decode cX4_throwsAt 11 = .ok (.bipush (-2), 2) := by decide +kernel
theorem dX4_throwsAt_13 : decode cX4_throwsAt 13 = .ok (.ireturn, 1) := by decide +kernel
theorem dX4_throwsAt_14 : decode cX4_throwsAt 14 = .ok (.aload_n 0, 1) := by decide +kernel
theorem dX4_throwsAt_15 : decode cX4_throwsAt 15 = .ok (.getfield 19, 3) := by decide +kernel
theorem dX4_throwsAt_18 : decode cX4_throwsAt 18 = .ok (.aload_n 0, 1) := by decide +kernel
theorem dX4_throwsAt_19 : decode cX4_throwsAt 19 = .ok (.getfield 10, 3) := by decide +kernel
theorem dX4_throwsAt_22 : decode cX4_throwsAt 22 = .ok (.invokevirtual 59, 3) := by decide +kernel
theorem dX4_throwsAt_25 : decode cX4_throwsAt 25 = .ok (.aload_n 0, 1) := by decide +kernel
theorem dX4_throwsAt_26 : decode cX4_throwsAt 26 = .ok (.getfield 19, 3) := by decide +kernel
theorem dX4_throwsAt_29 : decode cX4_throwsAt 29 = .ok (.getfield 66, 3) := by decide +kernel
theorem dX4_throwsAt_32 : decode cX4_throwsAt 32 = .ok (.iload_n 1, 1) := by decide +kernel
theorem dX4_throwsAt_33 : decode cX4_throwsAt 33 = .ok (.iaload, 1) := by decide +kernel
theorem dX4_throwsAt_34 : decode cX4_throwsAt 34 = .ok (.ireturn, 1) := by decide +kernel
theorem dX4_ends_0 : decode cX4_ends 0 = .ok (.aload_n 0, 1) := by decide +kernel
theorem dX4_ends_1 : decode cX4_ends 1 = .ok (.getfield 19, 3) := by decide +kernel
theorem dX4_ends_4 : decode cX4_ends 4 = .ok (.aload_n 0, 1) := by decide +kernel
theorem dX4_ends_5 : decode cX4_ends 5 = .ok (.getfield 10, 3) := by decide +kernel
theorem dX4_ends_8 : decode cX4_ends 8 = .ok (.invokevirtual 59, 3) := by decide +kernel
theorem dX4_ends_11 : decode cX4_ends 11 = .ok (.aload_n 0, 1) := by decide +kernel
theorem dX4_ends_12 : decode cX4_ends 12 = .ok (.getfield 19, 3) := by decide +kernel
theorem dX4_ends_15 : decode cX4_ends 15 = .ok (.getfield 70, 3) := by decide +kernel
theorem dX4_ends_18 : decode cX4_ends 18 = .ok (.getfield 74, 3) := by decide +kernel
theorem dX4_ends_21 : decode cX4_ends 21 = .ok (.ifCond .eq 7, 3) := by decide +kernel
theorem dX4_ends_24 : decode cX4_ends 24 = .ok (.iconst 1, 1) := by decide +kernel
theorem dX4_ends_25 : decode cX4_ends 25 = .ok (.goto 4, 3) := by decide +kernel
theorem dX4_ends_28 : decode cX4_ends 28 = .ok (.iconst 0, 1) := by decide +kernel
theorem dX4_ends_29 : decode cX4_ends 29 = .ok (.ireturn, 1) := by decide +kernel
theorem dX4_variable_0 : decode cX4_variable 0 = .ok (.iload_n 1, 1) := by decide +kernel
theorem dX4_variable_1 : decode cX4_variable 1 = .ok (.invokestatic 79, 3) := by decide +kernel
theorem dX4_variable_4 : decode cX4_variable 4 = .ok (.ifCond .eq 12, 3) := by decide +kernel
theorem dX4_variable_7 : decode cX4_variable 7 = .ok (.iload_n 2, 1) := by decide +kernel
theorem dX4_variable_8 : decode cX4_variable 8 = .ok (.ifCond .lt 8, 3) := by decide +kernel
theorem dX4_variable_11 : decode cX4_variable 11 = .ok (.iload_n 2, 1) := by decide +kernel
theorem dX4_variable_12 : decode cX4_variable 12 = .ok (.iconst 1, 1) := by decide +kernel
theorem dX4_variable_13 : decode cX4_variable 13 = .ok (.if_icmp .le 10, 3) := by decide +kernel
theorem dX4_variable_16 : decode cX4_variable 16 = .ok (.aload_n 0, 1) := by decide +kernel
theorem dX4_variable_17 : decode cX4_variable 17 = .ok (.bipush (-2), 2) := by decide +kernel
theorem dX4_variable_19 : decode cX4_variable 19 = .ok (.invokevirtual 82, 3) := by decide +kernel
theorem dX4_variable_22 : decode cX4_variable 22 = .ok (.ireturn, 1) := by decide +kernel
theorem dX4_variable_23 : decode cX4_variable 23 = .ok (.aload_n 0, 1) := by decide +kernel
theorem dX4_variable_24 : decode cX4_variable 24 = .ok (.getfield 19, 3) := by decide +kernel
theorem dX4_variable_27 : decode cX4_variable 27 = .ok (.aload_n 0, 1) := by decide +kernel
theorem dX4_variable_28 : decode cX4_variable 28 = .ok (.getfield 10, 3) := by decide +kernel
theorem dX4_variable_31 : decode cX4_variable 31 = .ok (.invokevirtual 59, 3) := by decide +kernel
theorem dX4_variable_34 : decode cX4_variable 34 = .ok (.aload_n 0, 1) := by decide +kernel
theorem dX4_variable_35 : decode cX4_variable 35 = .ok (.getfield 19, 3) := by decide +kernel
theorem dX4_variable_38 : decode cX4_variable 38 = .ok (.getfield 70, 3) := by decide +kernel
theorem dX4_variable_41 : decode cX4_variable 41 = .ok (.getfield 74, 3) := by decide +kernel
theorem dX4_variable_44 : decode cX4_variable 44 = .ok (.ifCond .ne 10, 3) := by decide +kernel
theorem dX4_variable_47 : decode cX4_variable 47 = .ok (.aload_n 0, 1) := by decide +kernel
theorem dX4_variable_48 : decode cX4_variable 48 = .ok (.bipush (-3), 2) := by decide +kernel
theorem dX4_variable_50 : decode cX4_variable 50 = .ok (.invokevirtual 82, 3) := by decide +kernel
theorem dX4_variable_53 : decode cX4_variable 53 = .ok (.ireturn, 1) := by decide +kernel
theorem dX4_variable_54 : decode cX4_variable 54 = .ok (.aload_n 0, 1) := by decide +kernel
theorem dX4_variable_55 : decode cX4_variable 55 = .ok (.iload_n 2, 1) := by decide +kernel
theorem dX4_variable_56 : decode cX4_variable 56 = .ok (.ifCond .ne 18, 3) := by decide +kernel
theorem dX4_variable_59 : decode cX4_variable 59 = .ok (.aload_n 0, 1) := by decide +kernel
theorem dX4_variable_60 : decode cX4_variable 60 = .ok (.getfield 19, 3) := by decide +kernel
theorem dX4_variable_63 : decode cX4_variable 63 = .ok (.getfield 70, 3) := by decide +kernel
theorem dX4_variable_66 : decode cX4_variable 66 = .ok (.getfield 86, 3) := by decide +kernel
theorem dX4_variable_69 : decode cX4_variable 69 = .ok (.iload_n 1, 1) := by decide +kernel
theorem dX4_variable_70 : decode cX4_variable 70 = .ok (.iaload, 1) := by decide +kernel
theorem dX4_variable_71 : decode cX4_variable 71 = .ok (.goto 15, 3) := by decide +kernel
theorem dX4_variable_74 : decode cX4_variable 74 = .ok (.aload_n 0, 1) := by decide +kernel
theorem dX4_variable_75 : decode cX4_variable 75 = .ok (.getfield 19, 3) := by decide +kernel
theorem dX4_variable_78 : decode cX4_variable 78 = .ok (.getfield 70, 3) := by decide +kernel
theorem dX4_variable_81 : decode cX4_variable 81 = .ok (.getfield 89, 3) := by decide +kernel
theorem dX4_variable_84 : decode cX4_variable 84 = .ok (.iload_n 1, 1) := by decide +kernel
theorem dX4_variable_85 : decode cX4_variable 85 = .ok (.iaload, 1) := by decide +kernel
theorem dX4_variable_86 : decode cX4_variable 86 = .ok (.invokevirtual 92, 3) := by decide +kernel
theorem dX4_variable_89 : decode cX4_variable 89 = .ok (.ireturn, 1) := by decide +kernel
theorem dX4_reference_0 : decode cX4_reference 0 = .ok (.iload_n 1, 1) := by decide +kernel
theorem dX4_reference_1 : decode cX4_reference 1 = .ok (.invokestatic 95, 3) := by decide +kernel
theorem dX4_reference_4 : decode cX4_reference 4 = .ok (.ifCond .ne 6, 3) := by decide +kernel
theorem dX4_reference_7 : decode cX4_reference 7 = .ok (.bipush (-2), 2) := by decide +kernel
theorem dX4_reference_9 : decode cX4_reference 9 = .ok (.ireturn, 1) := by decide +kernel
theorem dX4_reference_10 : decode cX4_reference 10 = .ok (.aload_n 0, 1) := by decide +kernel
theorem dX4_reference_11 : decode cX4_reference 11 = .ok (.getfield 19, 3) := by decide +kernel
theorem dX4_reference_14 : decode cX4_reference 14 = .ok (.aload_n 0, 1) := by decide +kernel
theorem dX4_reference_15 : decode cX4_reference 15 = .ok (.getfield 10, 3) := by decide +kernel
theorem dX4_reference_18 : decode cX4_reference 18 = .ok (.invokevirtual 59, 3) := by decide +kernel
theorem dX4_reference_21 : decode cX4_reference 21 = .ok (.aload_n 0, 1) := by decide +kernel
theorem dX4_reference_22 : decode cX4_reference 22 = .ok (.getfield 19, 3) := by decide +kernel
theorem dX4_reference_25 : decode cX4_reference 25 = .ok (.getfield 70, 3) := by decide +kernel
theorem dX4_reference_28 : decode cX4_reference 28 = .ok (.getfield 74, 3) := by decide +kernel
theorem dX4_reference_31 : decode cX4_reference 31 = .ok (.ifCond .ne 6, 3) := by decide +kernel
theorem dX4_reference_34 : decode cX4_reference 34 = .ok (.bipush (-3), 2) := by decide +kernel
theorem dX4_reference_36 : decode cX4_reference 36 = .ok (.ireturn, 1) := by decide +kernel
theorem dX4_reference_37 : decode cX4_reference 37 = .ok (.iconst 2, 1) := by decide +kernel
theorem dX4_reference_38 : decode cX4_reference 38 = .ok (.aload_n 0, 1) := by decide +kernel
theorem dX4_reference_39 : decode cX4_reference 39 = .ok (.getfield 19, 3) := by decide +kernel
theorem dX4_reference_42 : decode cX4_reference 42 = .ok (.getfield 70, 3) := by decide +kernel
theorem dX4_reference_45 : decode cX4_reference 45 = .ok (.getfield 98, 3) := by decide +kernel
theorem dX4_reference_48 : decode cX4_reference 48 = .ok (.iload_n 1, 1) := by decide +kernel
theorem dX4_reference_49 : decode cX4_reference 49 = .ok (.laload, 1) := by decide +kernel
theorem dX4_reference_50 : decode cX4_reference 50 = .ok (.invokestatic 102, 3) := by decide +kernel
theorem dX4_reference_53 : decode cX4_reference 53 = .ok (.imul, 1) := by decide +kernel
theorem dX4_reference_54 : decode cX4_reference 54 = .ok (.aload_n 0, 1) := by decide +kernel
theorem dX4_reference_55 : decode cX4_reference 55 = .ok (.getfield 19, 3) := by decide +kernel
theorem dX4_reference_58 : decode cX4_reference 58 = .ok (.getfield 70, 3) := by decide +kernel
theorem dX4_reference_61 : decode cX4_reference 61 = .ok (.getfield 108, 3) := by decide +kernel
theorem dX4_reference_64 : decode cX4_reference 64 = .ok (.iload_n 1, 1) := by decide +kernel
theorem dX4_reference_65 : decode cX4_reference 65 = .ok (.baload, 1) := by decide +kernel
theorem dX4_reference_66 : decode cX4_reference 66 = .ok (.ifCond .eq 7, 3) := by decide +kernel
theorem dX4_reference_69 : decode cX4_reference 69 = .ok (.iconst 1, 1) := by decide +kernel
theorem dX4_reference_70 : decode cX4_reference 70 = .ok (.goto 4, 3) := by decide +kernel
theorem dX4_reference_73 : decode cX4_reference 73 = .ok (.iconst 0, 1) := by decide +kernel
theorem dX4_reference_74 : decode cX4_reference 74 = .ok (.iadd, 1) := by decide +kernel
theorem dX4_reference_75 : decode cX4_reference 75 = .ok (.ireturn, 1) := by decide +kernel
theorem dX4_means_0 : decode cX4_means 0 = .ok (.iload_n 1, 1) := by decide +kernel
theorem dX4_means_1 : decode cX4_means 1 = .ok (.invokestatic 95, 3) := by decide +kernel
theorem dX4_means_4 : decode cX4_means 4 = .ok (.ifCond .eq 14, 3) := by decide +kernel
theorem dX4_means_7 : decode cX4_means 7 = .ok (.aload_n 0, 1) := by decide +kernel
theorem dX4_means_8 : decode cX4_means 8 = .ok (.getfield 10, 3) := by decide +kernel
theorem dX4_means_11 : decode cX4_means 11 = .ok (.iload_n 2, 1) := by decide +kernel
theorem dX4_means_12 : decode cX4_means 12 = .ok (.invokevirtual 51, 3) := by decide +kernel
theorem dX4_means_15 : decode cX4_means 15 = .ok (.ifCond .ne 6, 3) := by decide +kernel
theorem dX4_means_18 : decode cX4_means 18 = .ok (.bipush (-2), 2) := by decide +kernel
theorem dX4_means_20 : decode cX4_means 20 = .ok (.ireturn, 1) := by decide +kernel
theorem dX4_means_21 : decode cX4_means 21 = .ok (.aload_n 0, 1) := by decide +kernel
theorem dX4_means_22 : decode cX4_means 22 = .ok (.getfield 19, 3) := by decide +kernel
theorem dX4_means_25 : decode cX4_means 25 = .ok (.aload_n 0, 1) := by decide +kernel
theorem dX4_means_26 : decode cX4_means 26 = .ok (.getfield 10, 3) := by decide +kernel
theorem dX4_means_29 : decode cX4_means 29 = .ok (.invokevirtual 59, 3) := by decide +kernel
theorem dX4_means_32 : decode cX4_means 32 = .ok (.aload_n 0, 1) := by decide +kernel
theorem dX4_means_33 : decode cX4_means 33 = .ok (.getfield 19, 3) := by decide +kernel
theorem dX4_means_36 : decode cX4_means 36 = .ok (.getfield 70, 3) := by decide +kernel
theorem dX4_means_39 : decode cX4_means 39 = .ok (.getfield 74, 3) := by decide +kernel
theorem dX4_means_42 : decode cX4_means 42 = .ok (.ifCond .ne 6, 3) := by decide +kernel
theorem dX4_means_45 : decode cX4_means 45 = .ok (.bipush (-3), 2) := by decide +kernel
theorem dX4_means_47 : decode cX4_means 47 = .ok (.ireturn, 1) := by decide +kernel
theorem dX4_means_48 : decode cX4_means 48 = .ok (.aload_n 0, 1) := by decide +kernel
theorem dX4_means_49 : decode cX4_means 49 = .ok (.getfield 19, 3) := by decide +kernel
theorem dX4_means_52 : decode cX4_means 52 = .ok (.getfield 70, 3) := by decide +kernel
theorem dX4_means_55 : decode cX4_means 55 = .ok (.getfield 98, 3) := by decide +kernel
theorem dX4_means_58 : decode cX4_means 58 = .ok (.iload_n 1, 1) := by decide +kernel
theorem dX4_means_59 : decode cX4_means 59 = .ok (.laload, 1) := by decide +kernel
theorem dX4_means_60 : decode cX4_means 60 = .ok (.iload_n 2, 1) := by decide +kernel
theorem dX4_means_61 : decode cX4_means 61 = .ok (.invokestatic 111, 3) := by decide +kernel
theorem dX4_means_64 : decode cX4_means 64 = .ok (.ifCond .eq 7, 3) := by decide +kernel
theorem dX4_means_67 : decode cX4_means 67 = .ok (.iconst 1, 1) := by decide +kernel
theorem dX4_means_68 : decode cX4_means 68 = .ok (.goto 4, 3) := by decide +kernel
theorem dX4_means_71 : decode cX4_means 71 = .ok (.iconst 0, 1) := by decide +kernel
theorem dX4_means_72 : decode cX4_means 72 = .ok (.ireturn, 1) := by decide +kernel
theorem dX4_array_0 : decode cX4_array 0 = .ok (.aload_n 0, 1) := by decide +kernel
theorem dX4_array_1 : decode cX4_array 1 = .ok (.getfield 10, 3) := by decide +kernel
theorem dX4_array_4 : decode cX4_array 4 = .ok (.iload_n 1, 1) := by decide +kernel
theorem dX4_array_5 : decode cX4_array 5 = .ok (.invokevirtual 51, 3) := by decide +kernel
theorem dX4_array_8 : decode cX4_array 8 = .ok (.ifCond .eq 12, 3) := by decide +kernel
theorem dX4_array_11 : decode cX4_array 11 = .ok (.iload_n 2, 1) := by decide +kernel
theorem dX4_array_12 : decode cX4_array 12 = .ok (.ifCond .lt 8, 3) := by decide +kernel
theorem dX4_array_15 : decode cX4_array 15 = .ok (.iload_n 2, 1) := by decide +kernel
theorem dX4_array_16 : decode cX4_array 16 = .ok (.iconst 4, 1) := by decide +kernel
theorem dX4_array_17 : decode cX4_array 17 = .ok (.if_icmp .le 6, 3) := by decide +kernel
theorem dX4_array_20 : decode cX4_array 20 = .ok (.bipush (-2), 2) := by decide +kernel
theorem dX4_array_22 : decode cX4_array 22 = .ok (.ireturn, 1) := by decide +kernel
theorem dX4_array_23 : decode cX4_array 23 = .ok (.aload_n 0, 1) := by decide +kernel
theorem dX4_array_24 : decode cX4_array 24 = .ok (.getfield 19, 3) := by decide +kernel
theorem dX4_array_27 : decode cX4_array 27 = .ok (.aload_n 0, 1) := by decide +kernel
theorem dX4_array_28 : decode cX4_array 28 = .ok (.getfield 10, 3) := by decide +kernel
theorem dX4_array_31 : decode cX4_array 31 = .ok (.invokevirtual 59, 3) := by decide +kernel
theorem dX4_array_34 : decode cX4_array 34 = .ok (.aload_n 0, 1) := by decide +kernel
theorem dX4_array_35 : decode cX4_array 35 = .ok (.getfield 19, 3) := by decide +kernel
theorem dX4_array_38 : decode cX4_array 38 = .ok (.getfield 70, 3) := by decide +kernel
theorem dX4_array_41 : decode cX4_array 41 = .ok (.getfield 74, 3) := by decide +kernel
theorem dX4_array_44 : decode cX4_array 44 = .ok (.ifCond .ne 6, 3) := by decide +kernel
theorem dX4_array_47 : decode cX4_array 47 = .ok (.bipush (-3), 2) := by decide +kernel
theorem dX4_array_49 : decode cX4_array 49 = .ok (.ireturn, 1) := by decide +kernel
theorem dX4_array_50 : decode cX4_array 50 = .ok (.aload_n 0, 1) := by decide +kernel
theorem dX4_array_51 : decode cX4_array 51 = .ok (.getfield 19, 3) := by decide +kernel
theorem dX4_array_54 : decode cX4_array 54 = .ok (.getfield 70, 3) := by decide +kernel
theorem dX4_array_57 : decode cX4_array 57 = .ok (.astore_n 3, 1) := by decide +kernel
theorem dX4_array_58 : decode cX4_array 58 = .ok (.aload_n 3, 1) := by decide +kernel
theorem dX4_array_59 : decode cX4_array 59 = .ok (.getfield 115, 3) := by decide +kernel
theorem dX4_array_62 : decode cX4_array 62 = .ok (.iload_n 1, 1) := by decide +kernel
theorem dX4_array_63 : decode cX4_array 63 = .ok (.baload, 1) := by decide +kernel
theorem dX4_array_64 : decode cX4_array 64 = .ok (.ifCond .ne 5, 3) := by decide +kernel
theorem dX4_array_67 : decode cX4_array 67 = .ok (.iconst (-1), 1) := by decide +kernel
theorem dX4_array_68 : decode cX4_array 68 = .ok (.ireturn, 1) := by decide +kernel
theorem dX4_array_69 : decode cX4_array 69 = .ok (.iload_n 2, 1) := by decide +kernel
theorem dX4_array_70 : decode cX4_array 70 = .ok (.tableswitch 57 0 3 #[30, 37, 44, 51], 30) := by decide +kernel
theorem dX4_array_100 : decode cX4_array 100 = .ok (.aload_n 3, 1) := by decide +kernel
theorem dX4_array_101 : decode cX4_array 101 = .ok (.getfield 118, 3) := by decide +kernel
theorem dX4_array_104 : decode cX4_array 104 = .ok (.iload_n 1, 1) := by decide +kernel
theorem dX4_array_105 : decode cX4_array 105 = .ok (.iaload, 1) := by decide +kernel
theorem dX4_array_106 : decode cX4_array 106 = .ok (.ireturn, 1) := by decide +kernel
theorem dX4_array_107 : decode cX4_array 107 = .ok (.aload_n 3, 1) := by decide +kernel
theorem dX4_array_108 : decode cX4_array 108 = .ok (.getfield 121, 3) := by decide +kernel
theorem dX4_array_111 : decode cX4_array 111 = .ok (.iload_n 1, 1) := by decide +kernel
theorem dX4_array_112 : decode cX4_array 112 = .ok (.iaload, 1) := by decide +kernel
theorem dX4_array_113 : decode cX4_array 113 = .ok (.ireturn, 1) := by decide +kernel
theorem dX4_array_114 : decode cX4_array 114 = .ok (.aload_n 3, 1) := by decide +kernel
theorem dX4_array_115 : decode cX4_array 115 = .ok (.getfield 124, 3) := by decide +kernel
theorem dX4_array_118 : decode cX4_array 118 = .ok (.iload_n 1, 1) := by decide +kernel
theorem dX4_array_119 : decode cX4_array 119 = .ok (.iaload, 1) := by decide +kernel
theorem dX4_array_120 : decode cX4_array 120 = .ok (.ireturn, 1) := by decide +kernel
theorem dX4_array_121 : decode cX4_array 121 = .ok (.aload_n 3, 1) := by decide +kernel
theorem dX4_array_122 : decode cX4_array 122 = .ok (.iload_n 1, 1) := by decide +kernel
theorem dX4_array_123 : decode cX4_array 123 = .ok (.invokevirtual 127, 3) := by decide +kernel
theorem dX4_array_126 : decode cX4_array 126 = .ok (.ireturn, 1) := by decide +kernel
theorem dX4_array_127 : decode cX4_array 127 = .ok (.aload_n 3, 1) := by decide +kernel
theorem dX4_array_128 : decode cX4_array 128 = .ok (.iload_n 1, 1) := by decide +kernel
theorem dX4_array_129 : decode cX4_array 129 = .ok (.invokevirtual 130, 3) := by decide +kernel
theorem dX4_array_132 : decode cX4_array 132 = .ok (.ifCond .eq 7, 3) := by decide +kernel
theorem dX4_array_135 : decode cX4_array 135 = .ok (.iconst 1, 1) := by decide +kernel
theorem dX4_array_136 : decode cX4_array 136 = .ok (.goto 4, 3) := by decide +kernel
theorem dX4_array_139 : decode cX4_array 139 = .ok (.iconst 0, 1) := by decide +kernel
theorem dX4_array_140 : decode cX4_array 140 = .ok (.ireturn, 1) := by decide +kernel
theorem dX4_segment_0 : decode cX4_segment 0 = .ok (.aload_n 0, 1) := by decide +kernel
theorem dX4_segment_1 : decode cX4_segment 1 = .ok (.getfield 10, 3) := by decide +kernel
theorem dX4_segment_4 : decode cX4_segment 4 = .ok (.iload_n 1, 1) := by decide +kernel
theorem dX4_segment_5 : decode cX4_segment 5 = .ok (.invokevirtual 51, 3) := by decide +kernel
theorem dX4_segment_8 : decode cX4_segment 8 = .ok (.ifCond .eq 16, 3) := by decide +kernel
theorem dX4_segment_11 : decode cX4_segment 11 = .ok (.iload_n 2, 1) := by decide +kernel
theorem dX4_segment_12 : decode cX4_segment 12 = .ok (.ifCond .lt 12, 3) := by decide +kernel
theorem dX4_segment_15 : decode cX4_segment 15 = .ok (.iload_n 3, 1) := by decide +kernel
theorem dX4_segment_16 : decode cX4_segment 16 = .ok (.ifCond .lt 8, 3) := by decide +kernel
theorem dX4_segment_19 : decode cX4_segment 19 = .ok (.iload_n 3, 1) := by decide +kernel
theorem dX4_segment_20 : decode cX4_segment 20 = .ok (.iconst 3, 1) := by decide +kernel
theorem dX4_segment_21 : decode cX4_segment 21 = .ok (.if_icmp .le 10, 3) := by decide +kernel
theorem dX4_segment_24 : decode cX4_segment 24 = .ok (.aload_n 0, 1) := by decide +kernel
theorem dX4_segment_25 : decode cX4_segment 25 = .ok (.bipush (-2), 2) := by decide +kernel
theorem dX4_segment_27 : decode cX4_segment 27 = .ok (.invokevirtual 82, 3) := by decide +kernel
theorem dX4_segment_30 : decode cX4_segment 30 = .ok (.ireturn, 1) := by decide +kernel
theorem dX4_segment_31 : decode cX4_segment 31 = .ok (.aload_n 0, 1) := by decide +kernel
theorem dX4_segment_32 : decode cX4_segment 32 = .ok (.getfield 19, 3) := by decide +kernel
theorem dX4_segment_35 : decode cX4_segment 35 = .ok (.aload_n 0, 1) := by decide +kernel
theorem dX4_segment_36 : decode cX4_segment 36 = .ok (.getfield 10, 3) := by decide +kernel
theorem dX4_segment_39 : decode cX4_segment 39 = .ok (.invokevirtual 59, 3) := by decide +kernel
theorem dX4_segment_42 : decode cX4_segment 42 = .ok (.aload_n 0, 1) := by decide +kernel
theorem dX4_segment_43 : decode cX4_segment 43 = .ok (.getfield 19, 3) := by decide +kernel
theorem dX4_segment_46 : decode cX4_segment 46 = .ok (.getfield 70, 3) := by decide +kernel
theorem dX4_segment_49 : decode cX4_segment 49 = .ok (.getfield 74, 3) := by decide +kernel
theorem dX4_segment_52 : decode cX4_segment 52 = .ok (.ifCond .ne 10, 3) := by decide +kernel
theorem dX4_segment_55 : decode cX4_segment 55 = .ok (.aload_n 0, 1) := by decide +kernel
theorem dX4_segment_56 : decode cX4_segment 56 = .ok (.bipush (-3), 2) := by decide +kernel
theorem dX4_segment_58 : decode cX4_segment 58 = .ok (.invokevirtual 82, 3) := by decide +kernel
theorem dX4_segment_61 : decode cX4_segment 61 = .ok (.ireturn, 1) := by decide +kernel
theorem dX4_segment_62 : decode cX4_segment 62 = .ok (.aload_n 0, 1) := by decide +kernel
theorem dX4_segment_63 : decode cX4_segment 63 = .ok (.getfield 19, 3) := by decide +kernel
theorem dX4_segment_66 : decode cX4_segment 66 = .ok (.getfield 70, 3) := by decide +kernel
theorem dX4_segment_69 : decode cX4_segment 69 = .ok (.astore 4, 2) := by decide +kernel
theorem dX4_segment_71 : decode cX4_segment 71 = .ok (.aload 4, 2) := by decide +kernel
theorem dX4_segment_73 : decode cX4_segment 73 = .ok (.getfield 115, 3) := by decide +kernel
theorem dX4_segment_76 : decode cX4_segment 76 = .ok (.iload_n 1, 1) := by decide +kernel
theorem dX4_segment_77 : decode cX4_segment 77 = .ok (.baload, 1) := by decide +kernel
theorem dX4_segment_78 : decode cX4_segment 78 = .ok (.ifCond .ne 9, 3) := by decide +kernel
theorem dX4_segment_81 : decode cX4_segment 81 = .ok (.aload_n 0, 1) := by decide +kernel
theorem dX4_segment_82 : decode cX4_segment 82 = .ok (.iconst (-1), 1) := by decide +kernel
theorem dX4_segment_83 : decode cX4_segment 83 = .ok (.invokevirtual 82, 3) := by decide +kernel
theorem dX4_segment_86 : decode cX4_segment 86 = .ok (.ireturn, 1) := by decide +kernel
theorem dX4_segment_87 : decode cX4_segment 87 = .ok (.aload 4, 2) := by decide +kernel
theorem dX4_segment_89 : decode cX4_segment 89 = .ok (.iload_n 1, 1) := by decide +kernel
theorem dX4_segment_90 : decode cX4_segment 90 = .ok (.iload_n 2, 1) := by decide +kernel
theorem dX4_segment_91 : decode cX4_segment 91 = .ok (.invokevirtual 133, 3) := by decide +kernel
theorem dX4_segment_94 : decode cX4_segment 94 = .ok (.istore 5, 2) := by decide +kernel
theorem dX4_segment_96 : decode cX4_segment 96 = .ok (.iload 5, 2) := by decide +kernel
theorem dX4_segment_98 : decode cX4_segment 98 = .ok (.ifCond .ge 10, 3) := by decide +kernel
theorem dX4_segment_101 : decode cX4_segment 101 = .ok (.aload_n 0, 1) := by decide +kernel
theorem dX4_segment_102 : decode cX4_segment 102 = .ok (.bipush (-2), 2) := by decide +kernel
theorem dX4_segment_104 : decode cX4_segment 104 = .ok (.invokevirtual 82, 3) := by decide +kernel
theorem dX4_segment_107 : decode cX4_segment 107 = .ok (.ireturn, 1) := by decide +kernel
theorem dX4_segment_108 : decode cX4_segment 108 = .ok (.iload_n 3, 1) := by decide +kernel
theorem dX4_segment_109 : decode cX4_segment 109 = .ok (.tableswitch 65 0 2 #[27, 34, 47], 27) := by decide +kernel
theorem dX4_segment_136 : decode cX4_segment 136 = .ok (.aload_n 0, 1) := by decide +kernel
theorem dX4_segment_137 : decode cX4_segment 137 = .ok (.iload 5, 2) := by decide +kernel
theorem dX4_segment_139 : decode cX4_segment 139 = .ok (.invokevirtual 92, 3) := by decide +kernel
theorem dX4_segment_142 : decode cX4_segment 142 = .ok (.ireturn, 1) := by decide +kernel
theorem dX4_segment_143 : decode cX4_segment 143 = .ok (.aload_n 0, 1) := by decide +kernel
theorem dX4_segment_144 : decode cX4_segment 144 = .ok (.aload 4, 2) := by decide +kernel
theorem dX4_segment_146 : decode cX4_segment 146 = .ok (.iload_n 1, 1) := by decide +kernel
theorem dX4_segment_147 : decode cX4_segment 147 = .ok (.iload 5, 2) := by decide +kernel
theorem dX4_segment_149 : decode cX4_segment 149 = .ok (.invokevirtual 137, 3) := by decide +kernel
theorem dX4_segment_152 : decode cX4_segment 152 = .ok (.invokevirtual 92, 3) := by decide +kernel
theorem dX4_segment_155 : decode cX4_segment 155 = .ok (.ireturn, 1) := by decide +kernel
theorem dX4_segment_156 : decode cX4_segment 156 = .ok (.aload_n 0, 1) := by decide +kernel
theorem dX4_segment_157 : decode cX4_segment 157 = .ok (.aload 4, 2) := by decide +kernel
theorem dX4_segment_159 : decode cX4_segment 159 = .ok (.getfield 140, 3) := by decide +kernel
theorem dX4_segment_162 : decode cX4_segment 162 = .ok (.iload_n 1, 1) := by decide +kernel
theorem dX4_segment_163 : decode cX4_segment 163 = .ok (.bipush 12, 2) := by decide +kernel
theorem dX4_segment_165 : decode cX4_segment 165 = .ok (.imul, 1) := by decide +kernel
theorem dX4_segment_166 : decode cX4_segment 166 = .ok (.iload 5, 2) := by decide +kernel
theorem dX4_segment_168 : decode cX4_segment 168 = .ok (.iadd, 1) := by decide +kernel
theorem dX4_segment_169 : decode cX4_segment 169 = .ok (.iaload, 1) := by decide +kernel
theorem dX4_segment_170 : decode cX4_segment 170 = .ok (.invokevirtual 92, 3) := by decide +kernel
theorem dX4_segment_173 : decode cX4_segment 173 = .ok (.ireturn, 1) := by decide +kernel
theorem dX4_segment_174 : decode cX4_segment 174 = .ok (.aload_n 0, 1) := by decide +kernel
theorem dX4_segment_175 : decode cX4_segment 175 = .ok (.aload 4, 2) := by decide +kernel
theorem dX4_segment_177 : decode cX4_segment 177 = .ok (.getfield 143, 3) := by decide +kernel
theorem dX4_segment_180 : decode cX4_segment 180 = .ok (.iload_n 1, 1) := by decide +kernel
theorem dX4_segment_181 : decode cX4_segment 181 = .ok (.bipush 12, 2) := by decide +kernel
theorem dX4_segment_183 : decode cX4_segment 183 = .ok (.imul, 1) := by decide +kernel
theorem dX4_segment_184 : decode cX4_segment 184 = .ok (.iload 5, 2) := by decide +kernel
theorem dX4_segment_186 : decode cX4_segment 186 = .ok (.iadd, 1) := by decide +kernel
theorem dX4_segment_187 : decode cX4_segment 187 = .ok (.iaload, 1) := by decide +kernel
theorem dX4_segment_188 : decode cX4_segment 188 = .ok (.invokevirtual 92, 3) := by decide +kernel
theorem dX4_segment_191 : decode cX4_segment 191 = .ok (.ireturn, 1) := by decide +kernel
theorem dX4_status_0 : decode cX4_status 0 = .ok (.aload_n 0, 1) := by decide +kernel
theorem dX4_status_1 : decode cX4_status 1 = .ok (.getfield 30, 3) := by decide +kernel
theorem dX4_status_4 : decode cX4_status 4 = .ok (.ireturn, 1) := by decide +kernel
theorem dX4_run_0 : decode cX4_run 0 = .ok (.aload_n 0, 1) := by decide +kernel
theorem dX4_run_1 : decode cX4_run 1 = .ok (.getfield 26, 3) := by decide +kernel
theorem dX4_run_4 : decode cX4_run 4 = .ok (.aload_n 0, 1) := by decide +kernel
theorem dX4_run_5 : decode cX4_run 5 = .ok (.getfield 10, 3) := by decide +kernel
theorem dX4_run_8 : decode cX4_run 8 = .ok (.lload_n 1, 1) := by decide +kernel
theorem dX4_run_9 : decode cX4_run 9 = .ok (.invokevirtual 146, 3) := by decide +kernel
theorem dX4_run_12 : decode cX4_run 12 = .ok (.aload_n 0, 1) := by decide +kernel
theorem dX4_run_13 : decode cX4_run 13 = .ok (.getfield 26, 3) := by decide +kernel
theorem dX4_run_16 : decode cX4_run 16 = .ok (.getfield 150, 3) := by decide +kernel
theorem dX4_run_19 : decode cX4_run 19 = .ok (.ireturn, 1) := by decide +kernel
theorem dX4_where_0 : decode cX4_where 0 = .ok (.aload_n 0, 1) := by decide +kernel
theorem dX4_where_1 : decode cX4_where 1 = .ok (.getfield 26, 3) := by decide +kernel
theorem dX4_where_4 : decode cX4_where 4 = .ok (.getfield 153, 3) := by decide +kernel
theorem dX4_where_7 : decode cX4_where 7 = .ok (.ireturn, 1) := by decide +kernel
theorem dX4_value_0 : decode cX4_value 0 = .ok (.iload_n 1, 1) := by decide +kernel
theorem dX4_value_1 : decode cX4_value 1 = .ok (.invokestatic 79, 3) := by decide +kernel
theorem dX4_value_4 : decode cX4_value 4 = .ok (.ifCond .eq 15, 3) := by decide +kernel
theorem dX4_value_7 : decode cX4_value 7 = .ok (.aload_n 0, 1) := by decide +kernel
theorem dX4_value_8 : decode cX4_value 8 = .ok (.getfield 26, 3) := by decide +kernel
theorem dX4_value_11 : decode cX4_value 11 = .ok (.getfield 156, 3) := by decide +kernel
theorem dX4_value_14 : decode cX4_value 14 = .ok (.iload_n 1, 1) := by decide +kernel
theorem dX4_value_15 : decode cX4_value 15 = .ok (.iaload, 1) := by decide +kernel
theorem dX4_value_16 : decode cX4_value 16 = .ok (.goto 4, 3) := by decide +kernel
theorem dX4_value_19 : decode cX4_value 19 = .ok (.iconst 0, 1) := by decide +kernel
theorem dX4_value_20 : decode cX4_value 20 = .ok (.ireturn, 1) := by decide +kernel
theorem dX4_place_0 : decode cX4_place 0 = .ok (.iload_n 1, 1) := by decide +kernel
theorem dX4_place_1 : decode cX4_place 1 = .ok (.invokestatic 95, 3) := by decide +kernel
theorem dX4_place_4 : decode cX4_place 4 = .ok (.ifCond .ne 5, 3) := by decide +kernel
theorem dX4_place_7 : decode cX4_place 7 = .ok (.iconst 0, 1) := by decide +kernel
theorem dX4_place_8 : decode cX4_place 8 = .ok (.ireturn, 1) := by decide +kernel
theorem dX4_place_9 : decode cX4_place 9 = .ok (.aload_n 0, 1) := by decide +kernel
theorem dX4_place_10 : decode cX4_place 10 = .ok (.getfield 26, 3) := by decide +kernel
theorem dX4_place_13 : decode cX4_place 13 = .ok (.getfield 159, 3) := by decide +kernel
theorem dX4_place_16 : decode cX4_place 16 = .ok (.iload_n 1, 1) := by decide +kernel
theorem dX4_place_17 : decode cX4_place 17 = .ok (.iaload, 1) := by decide +kernel
theorem dX4_place_18 : decode cX4_place 18 = .ok (.istore_n 3, 1) := by decide +kernel
theorem dX4_place_19 : decode cX4_place 19 = .ok (.iload_n 3, 1) := by decide +kernel
theorem dX4_place_20 : decode cX4_place 20 = .ok (.ifCond .lt 20, 3) := by decide +kernel
theorem dX4_place_23 : decode cX4_place 23 = .ok (.iload_n 2, 1) := by decide +kernel
theorem dX4_place_24 : decode cX4_place 24 = .ok (.ifCond .lt 16, 3) := by decide +kernel
theorem dX4_place_27 : decode cX4_place 27 = .ok (.iload_n 2, 1) := by decide +kernel
theorem dX4_place_28 : decode cX4_place 28 = .ok (.aload_n 0, 1) := by decide +kernel
theorem dX4_place_29 : decode cX4_place 29 = .ok (.getfield 26, 3) := by decide +kernel
theorem dX4_place_32 : decode cX4_place 32 = .ok (.getfield 162, 3) := by decide +kernel
theorem dX4_place_35 : decode cX4_place 35 = .ok (.iload_n 3, 1) := by decide +kernel
theorem dX4_place_36 : decode cX4_place 36 = .ok (.iaload, 1) := by decide +kernel
theorem dX4_place_37 : decode cX4_place 37 = .ok (.if_icmp .lt 5, 3) := by decide +kernel
theorem dX4_place_40 : decode cX4_place 40 = .ok (.iconst 0, 1) := by decide +kernel
theorem dX4_place_41 : decode cX4_place 41 = .ok (.ireturn, 1) := by decide +kernel
theorem dX4_place_42 : decode cX4_place 42 = .ok (.aload_n 0, 1) := by decide +kernel
theorem dX4_place_43 : decode cX4_place 43 = .ok (.getfield 26, 3) := by decide +kernel
theorem dX4_place_46 : decode cX4_place 46 = .ok (.getfield 165, 3) := by decide +kernel
theorem dX4_place_49 : decode cX4_place 49 = .ok (.iload_n 3, 1) := by decide +kernel
theorem dX4_place_50 : decode cX4_place 50 = .ok (.bipush 12, 2) := by decide +kernel
theorem dX4_place_52 : decode cX4_place 52 = .ok (.imul, 1) := by decide +kernel
theorem dX4_place_53 : decode cX4_place 53 = .ok (.iload_n 2, 1) := by decide +kernel
theorem dX4_place_54 : decode cX4_place 54 = .ok (.iadd, 1) := by decide +kernel
theorem dX4_place_55 : decode cX4_place 55 = .ok (.iaload, 1) := by decide +kernel
theorem dX4_place_56 : decode cX4_place 56 = .ok (.ireturn, 1) := by decide +kernel
theorem dX4_length_0 : decode cX4_length 0 = .ok (.iload_n 1, 1) := by decide +kernel
theorem dX4_length_1 : decode cX4_length 1 = .ok (.invokestatic 95, 3) := by decide +kernel
theorem dX4_length_4 : decode cX4_length 4 = .ok (.ifCond .ne 6, 3) := by decide +kernel
theorem dX4_length_7 : decode cX4_length 7 = .ok (.bipush (-2), 2) := by decide +kernel
theorem dX4_length_9 : decode cX4_length 9 = .ok (.ireturn, 1) := by decide +kernel
theorem dX4_length_10 : decode cX4_length 10 = .ok (.aload_n 0, 1) := by decide +kernel
theorem dX4_length_11 : decode cX4_length 11 = .ok (.getfield 26, 3) := by decide +kernel
theorem dX4_length_14 : decode cX4_length 14 = .ok (.getfield 159, 3) := by decide +kernel
theorem dX4_length_17 : decode cX4_length 17 = .ok (.iload_n 1, 1) := by decide +kernel
theorem dX4_length_18 : decode cX4_length 18 = .ok (.iaload, 1) := by decide +kernel
theorem dX4_length_19 : decode cX4_length 19 = .ok (.istore_n 2, 1) := by decide +kernel
theorem dX4_length_20 : decode cX4_length 20 = .ok (.iload_n 2, 1) := by decide +kernel
theorem dX4_length_21 : decode cX4_length 21 = .ok (.ifCond .ge 7, 3) := by decide +kernel
theorem dX4_length_24 : decode cX4_length 24 = .ok (.iconst (-1), 1) := by decide +kernel
theorem dX4_length_25 : decode cX4_length 25 = .ok (.goto 12, 3) := by decide +kernel
theorem dX4_length_28 : decode cX4_length 28 = .ok (.aload_n 0, 1) := by decide +kernel
theorem dX4_length_29 : decode cX4_length 29 = .ok (.getfield 26, 3) := by decide +kernel
theorem dX4_length_32 : decode cX4_length 32 = .ok (.getfield 162, 3) := by decide +kernel
theorem dX4_length_35 : decode cX4_length 35 = .ok (.iload_n 2, 1) := by decide +kernel
theorem dX4_length_36 : decode cX4_length 36 = .ok (.iaload, 1) := by decide +kernel
theorem dX4_length_37 : decode cX4_length 37 = .ok (.ireturn, 1) := by decide +kernel
theorem dX4_same_0 : decode cX4_same 0 = .ok (.iload_n 1, 1) := by decide +kernel
theorem dX4_same_1 : decode cX4_same 1 = .ok (.invokestatic 95, 3) := by decide +kernel
theorem dX4_same_4 : decode cX4_same 4 = .ok (.ifCond .eq 10, 3) := by decide +kernel
theorem dX4_same_7 : decode cX4_same 7 = .ok (.iload_n 2, 1) := by decide +kernel
theorem dX4_same_8 : decode cX4_same 8 = .ok (.invokestatic 95, 3) := by decide +kernel
theorem dX4_same_11 : decode cX4_same 11 = .ok (.ifCond .ne 6, 3) := by decide +kernel
theorem dX4_same_14 : decode cX4_same 14 = .ok (.bipush (-2), 2) := by decide +kernel
theorem dX4_same_16 : decode cX4_same 16 = .ok (.ireturn, 1) := by decide +kernel
theorem dX4_same_17 : decode cX4_same 17 = .ok (.aload_n 0, 1) := by decide +kernel
theorem dX4_same_18 : decode cX4_same 18 = .ok (.getfield 26, 3) := by decide +kernel
theorem dX4_same_21 : decode cX4_same 21 = .ok (.getfield 168, 3) := by decide +kernel
theorem dX4_same_24 : decode cX4_same 24 = .ok (.ifCond .ne 6, 3) := by decide +kernel
theorem dX4_same_27 : decode cX4_same 27 = .ok (.bipush (-3), 2) := by decide +kernel
theorem dX4_same_29 : decode cX4_same 29 = .ok (.ireturn, 1) := by decide +kernel
theorem dX4_same_30 : decode cX4_same 30 = .ok (.aload_n 0, 1) := by decide +kernel
theorem dX4_same_31 : decode cX4_same 31 = .ok (.getfield 26, 3) := by decide +kernel
theorem dX4_same_34 : decode cX4_same 34 = .ok (.getfield 159, 3) := by decide +kernel
theorem dX4_same_37 : decode cX4_same 37 = .ok (.iload_n 1, 1) := by decide +kernel
theorem dX4_same_38 : decode cX4_same 38 = .ok (.iaload, 1) := by decide +kernel
theorem dX4_same_39 : decode cX4_same 39 = .ok (.aload_n 0, 1) := by decide +kernel
theorem dX4_same_40 : decode cX4_same 40 = .ok (.getfield 26, 3) := by decide +kernel
theorem dX4_same_43 : decode cX4_same 43 = .ok (.getfield 159, 3) := by decide +kernel
theorem dX4_same_46 : decode cX4_same 46 = .ok (.iload_n 2, 1) := by decide +kernel
theorem dX4_same_47 : decode cX4_same 47 = .ok (.iaload, 1) := by decide +kernel
theorem dX4_same_48 : decode cX4_same 48 = .ok (.if_icmp .ne 7, 3) := by decide +kernel
theorem dX4_same_51 : decode cX4_same 51 = .ok (.iconst 1, 1) := by decide +kernel
theorem dX4_same_52 : decode cX4_same 52 = .ok (.goto 4, 3) := by decide +kernel
theorem dX4_same_55 : decode cX4_same 55 = .ok (.iconst 0, 1) := by decide +kernel
theorem dX4_same_56 : decode cX4_same 56 = .ok (.ireturn, 1) := by decide +kernel
theorem dX4_holds_0 : decode cX4_holds 0 = .ok (.aload_n 0, 1) := by decide +kernel
theorem dX4_holds_1 : decode cX4_holds 1 = .ok (.getfield 19, 3) := by decide +kernel
theorem dX4_holds_4 : decode cX4_holds 4 = .ok (.aload_n 0, 1) := by decide +kernel
theorem dX4_holds_5 : decode cX4_holds 5 = .ok (.getfield 10, 3) := by decide +kernel
theorem dX4_holds_8 : decode cX4_holds 8 = .ok (.invokevirtual 59, 3) := by decide +kernel
theorem dX4_holds_11 : decode cX4_holds 11 = .ok (.aload_n 0, 1) := by decide +kernel
theorem dX4_holds_12 : decode cX4_holds 12 = .ok (.getfield 26, 3) := by decide +kernel
theorem dX4_holds_15 : decode cX4_holds 15 = .ok (.aload_n 0, 1) := by decide +kernel
theorem dX4_holds_16 : decode cX4_holds 16 = .ok (.getfield 10, 3) := by decide +kernel
theorem dX4_holds_19 : decode cX4_holds 19 = .ok (.lload_n 1, 1) := by decide +kernel
theorem dX4_holds_20 : decode cX4_holds 20 = .ok (.invokevirtual 146, 3) := by decide +kernel
theorem dX4_holds_23 : decode cX4_holds 23 = .ok (.aload_n 0, 1) := by decide +kernel
theorem dX4_holds_24 : decode cX4_holds 24 = .ok (.getfield 26, 3) := by decide +kernel
theorem dX4_holds_27 : decode cX4_holds 27 = .ok (.getfield 150, 3) := by decide +kernel
theorem dX4_holds_30 : decode cX4_holds 30 = .ok (.ifCond .ne 10, 3) := by decide +kernel
theorem dX4_holds_33 : decode cX4_holds 33 = .ok (.aload_n 0, 1) := by decide +kernel
theorem dX4_holds_34 : decode cX4_holds 34 = .ok (.invokevirtual 171, 3) := by decide +kernel
theorem dX4_holds_37 : decode cX4_holds 37 = .ok (.goto 7, 3) := by decide +kernel
theorem dX4_holds_40 : decode cX4_holds 40 = .ok (.aload_n 0, 1) := by decide +kernel
theorem dX4_holds_41 : decode cX4_holds 41 = .ok (.invokevirtual 175, 3) := by decide +kernel
theorem dX4_holds_44 : decode cX4_holds 44 = .ok (.istore_n 3, 1) := by decide +kernel
theorem dX4_holds_45 : decode cX4_holds 45 = .ok (.iload_n 3, 1) := by decide +kernel
theorem dX4_holds_46 : decode cX4_holds 46 = .ok (.ifCond .eq 7, 3) := by decide +kernel
theorem dX4_holds_49 : decode cX4_holds 49 = .ok (.iconst 1, 1) := by decide +kernel
theorem dX4_holds_50 : decode cX4_holds 50 = .ok (.goto 4, 3) := by decide +kernel
theorem dX4_holds_53 : decode cX4_holds 53 = .ok (.iconst 0, 1) := by decide +kernel
theorem dX4_holds_54 : decode cX4_holds 54 = .ok (.ireturn, 1) := by decide +kernel
theorem dX4_told_0 : decode cX4_told 0 = .ok (.iload_n 1, 1) := by decide +kernel
theorem dX4_told_1 : decode cX4_told 1 = .ok (.ifCond .lt 8, 3) := by decide +kernel
theorem dX4_told_4 : decode cX4_told 4 = .ok (.iload_n 1, 1) := by decide +kernel
theorem dX4_told_5 : decode cX4_told 5 = .ok (.iconst 4, 1) := by decide +kernel
theorem dX4_told_6 : decode cX4_told 6 = .ok (.if_icmp .le 6, 3) := by decide +kernel
theorem dX4_told_9 : decode cX4_told 9 = .ok (.bipush (-2), 2) := by decide +kernel
theorem dX4_told_11 : decode cX4_told 11 = .ok (.ireturn, 1) := by decide +kernel
theorem dX4_told_12 : decode cX4_told 12 = .ok (.aload_n 0, 1) := by decide +kernel
theorem dX4_told_13 : decode cX4_told 13 = .ok (.getfield 19, 3) := by decide +kernel
theorem dX4_told_16 : decode cX4_told 16 = .ok (.aload_n 0, 1) := by decide +kernel
theorem dX4_told_17 : decode cX4_told 17 = .ok (.getfield 10, 3) := by decide +kernel
theorem dX4_told_20 : decode cX4_told 20 = .ok (.invokevirtual 59, 3) := by decide +kernel
theorem dX4_told_23 : decode cX4_told 23 = .ok (.iload_n 1, 1) := by decide +kernel
theorem dX4_told_24 : decode cX4_told 24 = .ok (.tableswitch 64 0 3 #[32, 40, 48, 56], 32) := by decide +kernel
theorem dX4_told_56 : decode cX4_told 56 = .ok (.aload_n 0, 1) := by decide +kernel
theorem dX4_told_57 : decode cX4_told 57 = .ok (.getfield 10, 3) := by decide +kernel
theorem dX4_told_60 : decode cX4_told 60 = .ok (.getfield 34, 3) := by decide +kernel
theorem dX4_told_63 : decode cX4_told 63 = .ok (.ireturn, 1) := by decide +kernel
theorem dX4_told_64 : decode cX4_told 64 = .ok (.aload_n 0, 1) := by decide +kernel
theorem dX4_told_65 : decode cX4_told 65 = .ok (.getfield 10, 3) := by decide +kernel
theorem dX4_told_68 : decode cX4_told 68 = .ok (.invokevirtual 178, 3) := by decide +kernel
theorem dX4_told_71 : decode cX4_told 71 = .ok (.ireturn, 1) := by decide +kernel
theorem dX4_told_72 : decode cX4_told 72 = .ok (.aload_n 0, 1) := by decide +kernel
theorem dX4_told_73 : decode cX4_told 73 = .ok (.getfield 19, 3) := by decide +kernel
theorem dX4_told_76 : decode cX4_told 76 = .ok (.invokevirtual 182, 3) := by decide +kernel
theorem dX4_told_79 : decode cX4_told 79 = .ok (.ireturn, 1) := by decide +kernel
theorem dX4_told_80 : decode cX4_told 80 = .ok (.aload_n 0, 1) := by decide +kernel
theorem dX4_told_81 : decode cX4_told 81 = .ok (.getfield 19, 3) := by decide +kernel
theorem dX4_told_84 : decode cX4_told 84 = .ok (.invokevirtual 185, 3) := by decide +kernel
theorem dX4_told_87 : decode cX4_told 87 = .ok (.ireturn, 1) := by decide +kernel
theorem dX4_told_88 : decode cX4_told 88 = .ok (.aload_n 0, 1) := by decide +kernel
theorem dX4_told_89 : decode cX4_told 89 = .ok (.getfield 19, 3) := by decide +kernel
theorem dX4_told_92 : decode cX4_told 92 = .ok (.getfield 70, 3) := by decide +kernel
theorem dX4_told_95 : decode cX4_told 95 = .ok (.getfield 74, 3) := by decide +kernel
theorem dX4_told_98 : decode cX4_told 98 = .ok (.ifCond .eq 16, 3) := by decide +kernel
theorem dX4_told_101 : decode cX4_told 101 = .ok (.aload_n 0, 1) := by decide +kernel
theorem dX4_told_102 : decode cX4_told 102 = .ok (.getfield 19, 3) := by decide +kernel
theorem dX4_told_105 : decode cX4_told 105 = .ok (.getfield 70, 3) := by decide +kernel
theorem dX4_told_108 : decode cX4_told 108 = .ok (.invokevirtual 188, 3) := by decide +kernel
theorem dX4_told_111 : decode cX4_told 111 = .ok (.goto 4, 3) := by decide +kernel
theorem dX4_told_114 : decode cX4_told 114 = .ok (.iconst 0, 1) := by decide +kernel
theorem dX4_told_115 : decode cX4_told 115 = .ok (.ireturn, 1) := by decide +kernel
theorem dX4_programChanged_0 : decode cX4_programChanged 0 = .ok (.aload_n 0, 1) := by decide +kernel
theorem dX4_programChanged_1 : decode cX4_programChanged 1 = .ok (.getfield 19, 3) := by decide +kernel
theorem dX4_programChanged_4 : decode cX4_programChanged 4 = .ok (.iconst 1, 1) := by decide +kernel
theorem dX4_programChanged_5 : decode cX4_programChanged 5 = .ok (.putfield 191, 3) := by decide +kernel
theorem dX4_programChanged_8 : decode cX4_programChanged 8 = .ok (.aload_n 0, 1) := by decide +kernel
theorem dX4_programChanged_9 : decode cX4_programChanged 9 = .ok (.getfield 26, 3) := by decide +kernel
theorem dX4_programChanged_12 : decode cX4_programChanged 12 = .ok (.invokevirtual 194, 3) := by decide +kernel
theorem dX4_programChanged_15 : decode cX4_programChanged 15 = .ok (.return_, 1) := by decide +kernel
theorem dX4_refuse_0 : decode cX4_refuse 0 = .ok (.aload_n 0, 1) := by decide +kernel
theorem dX4_refuse_1 : decode cX4_refuse 1 = .ok (.iload_n 1, 1) := by decide +kernel
theorem dX4_refuse_2 : decode cX4_refuse 2 = .ok (.putfield 30, 3) := by decide +kernel
theorem dX4_refuse_5 : decode cX4_refuse 5 = .ok (.iload_n 1, 1) := by decide +kernel
theorem dX4_refuse_6 : decode cX4_refuse 6 = .ok (.ireturn, 1) := by decide +kernel
theorem dX4_tell_0 : decode cX4_tell 0 = .ok (.aload_n 0, 1) := by decide +kernel
theorem dX4_tell_1 : decode cX4_tell 1 = .ok (.iconst 0, 1) := by decide +kernel
theorem dX4_tell_2 : decode cX4_tell 2 = .ok (.putfield 30, 3) := by decide +kernel
theorem dX4_tell_5 : decode cX4_tell 5 = .ok (.iload_n 1, 1) := by decide +kernel
theorem dX4_tell_6 : decode cX4_tell 6 = .ok (.ireturn, 1) := by decide +kernel
theorem dX4_throwHolds_0 : decode cX4_throwHolds 0 = .ok (.aload_n 0, 1) := by decide +kernel
theorem dX4_throwHolds_1 : decode cX4_throwHolds 1 = .ok (.getfield 26, 3) := by decide +kernel
theorem dX4_throwHolds_4 : decode cX4_throwHolds 4 = .ok (.getfield 153, 3) := by decide +kernel
theorem dX4_throwHolds_7 : decode cX4_throwHolds 7 = .ok (.istore_n 1, 1) := by decide +kernel
theorem dX4_throwHolds_8 : decode cX4_throwHolds 8 = .ok (.aload_n 0, 1) := by decide +kernel
theorem dX4_throwHolds_9 : decode cX4_throwHolds 9 = .ok (.getfield 10, 3) := by decide +kernel
theorem dX4_throwHolds_12 : decode cX4_throwHolds 12 = .ok (.iload_n 1, 1) := by decide +kernel
theorem dX4_throwHolds_13 : decode cX4_throwHolds 13 = .ok (.invokevirtual 51, 3) := by decide +kernel
theorem dX4_throwHolds_16 : decode cX4_throwHolds 16 = .ok (.ifCond .eq 42, 3) := by decide +kernel
theorem dX4_throwHolds_19 : decode cX4_throwHolds 19 = .ok (.aload_n 0, 1) := by decide +kernel
theorem dX4_throwHolds_20 : decode cX4_throwHolds 20 = .ok (.getfield 19, 3) := by decide +kernel
theorem dX4_throwHolds_23 : decode cX4_throwHolds 23 = .ok (.getfield 63, 3) := by decide +kernel
theorem dX4_throwHolds_26 : decode cX4_throwHolds 26 = .ok (.iload_n 1, 1) := by decide +kernel
theorem dX4_throwHolds_27 : decode cX4_throwHolds 27 = .ok (.baload, 1) := by decide +kernel
theorem dX4_throwHolds_28 : decode cX4_throwHolds 28 = .ok (.ifCond .eq 30, 3) := by decide +kernel
theorem dX4_throwHolds_31 : decode cX4_throwHolds 31 = .ok (.aload_n 0, 1) := by decide +kernel
theorem dX4_throwHolds_32 : decode cX4_throwHolds 32 = .ok (.getfield 19, 3) := by decide +kernel
theorem dX4_throwHolds_35 : decode cX4_throwHolds 35 = .ok (.getfield 66, 3) := by decide +kernel
theorem dX4_throwHolds_38 : decode cX4_throwHolds 38 = .ok (.iload_n 1, 1) := by decide +kernel
theorem dX4_throwHolds_39 : decode cX4_throwHolds 39 = .ok (.iaload, 1) := by decide +kernel
theorem dX4_throwHolds_40 : decode cX4_throwHolds 40 = .ok (.aload_n 0, 1) := by decide +kernel
theorem dX4_throwHolds_41 : decode cX4_throwHolds 41 = .ok (.getfield 26, 3) := by decide +kernel
theorem dX4_throwHolds_44 : decode cX4_throwHolds 44 = .ok (.getfield 150, 3) := by decide +kernel
theorem dX4_throwHolds_47 : decode cX4_throwHolds 47 = .ok (.iushr, 1) := by decide +kernel
theorem dX4_throwHolds_48 : decode cX4_throwHolds 48 = .ok (.iconst 1, 1) := by decide +kernel
theorem dX4_throwHolds_49 : decode cX4_throwHolds 49 = .ok (.iand, 1) := by decide +kernel
theorem dX4_throwHolds_50 : decode cX4_throwHolds 50 = .ok (.iconst 1, 1) := by decide +kernel
theorem dX4_throwHolds_51 : decode cX4_throwHolds 51 = .ok (.if_icmp .ne 7, 3) := by decide +kernel
theorem dX4_throwHolds_54 : decode cX4_throwHolds 54 = .ok (.iconst 1, 1) := by decide +kernel
theorem dX4_throwHolds_55 : decode cX4_throwHolds 55 = .ok (.goto 4, 3) := by decide +kernel
theorem dX4_throwHolds_58 : decode cX4_throwHolds 58 = .ok (.iconst 0, 1) := by decide +kernel
theorem dX4_throwHolds_59 : decode cX4_throwHolds 59 = .ok (.ireturn, 1) := by decide +kernel
theorem dX4_endHolds_0 : decode cX4_endHolds 0 = .ok (.aload_n 0, 1) := by decide +kernel
theorem dX4_endHolds_1 : decode cX4_endHolds 1 = .ok (.getfield 19, 3) := by decide +kernel
theorem dX4_endHolds_4 : decode cX4_endHolds 4 = .ok (.getfield 70, 3) := by decide +kernel
theorem dX4_endHolds_7 : decode cX4_endHolds 7 = .ok (.getfield 74, 3) := by decide +kernel
theorem dX4_endHolds_10 : decode cX4_endHolds 10 = .ok (.ifCond .ne 5, 3) := by decide +kernel
theorem dX4_endHolds_13 : decode cX4_endHolds 13 = .ok (.iconst 0, 1) := by decide +kernel
theorem dX4_endHolds_14 : decode cX4_endHolds 14 = .ok (.ireturn, 1) := by decide +kernel
theorem dX4_endHolds_15 : decode cX4_endHolds 15 = .ok (.iconst 0, 1) := by decide +kernel
theorem dX4_endHolds_16 : decode cX4_endHolds 16 = .ok (.istore_n 1, 1) := by decide +kernel
theorem dX4_endHolds_17 : decode cX4_endHolds 17 = .ok (.iload_n 1, 1) := by decide +kernel
theorem dX4_endHolds_18 : decode cX4_endHolds 18 = .ok (.bipush 6, 2) := by decide +kernel
theorem dX4_endHolds_20 : decode cX4_endHolds 20 = .ok (.if_icmp .ge 59, 3) := by decide +kernel
theorem dX4_endHolds_23 : decode cX4_endHolds 23 = .ok (.aload_n 0, 1) := by decide +kernel
theorem dX4_endHolds_24 : decode cX4_endHolds 24 = .ok (.getfield 26, 3) := by decide +kernel
theorem dX4_endHolds_27 : decode cX4_endHolds 27 = .ok (.getfield 156, 3) := by decide +kernel
theorem dX4_endHolds_30 : decode cX4_endHolds 30 = .ok (.iload_n 1, 1) := by decide +kernel
theorem dX4_endHolds_31 : decode cX4_endHolds 31 = .ok (.iaload, 1) := by decide +kernel
theorem dX4_endHolds_32 : decode cX4_endHolds 32 = .ok (.aload_n 0, 1) := by decide +kernel
theorem dX4_endHolds_33 : decode cX4_endHolds 33 = .ok (.getfield 19, 3) := by decide +kernel
theorem dX4_endHolds_36 : decode cX4_endHolds 36 = .ok (.getfield 70, 3) := by decide +kernel
theorem dX4_endHolds_39 : decode cX4_endHolds 39 = .ok (.getfield 86, 3) := by decide +kernel
theorem dX4_endHolds_42 : decode cX4_endHolds 42 = .ok (.iload_n 1, 1) := by decide +kernel
theorem dX4_endHolds_43 : decode cX4_endHolds 43 = .ok (.iaload, 1) := by decide +kernel
theorem dX4_endHolds_44 : decode cX4_endHolds 44 = .ok (.if_icmp .lt 27, 3) := by decide +kernel
theorem dX4_endHolds_47 : decode cX4_endHolds 47 = .ok (.aload_n 0, 1) := by decide +kernel
theorem dX4_endHolds_48 : decode cX4_endHolds 48 = .ok (.getfield 26, 3) := by decide +kernel
theorem dX4_endHolds_51 : decode cX4_endHolds 51 = .ok (.getfield 156, 3) := by decide +kernel
theorem dX4_endHolds_54 : decode cX4_endHolds 54 = .ok (.iload_n 1, 1) := by decide +kernel
theorem dX4_endHolds_55 : decode cX4_endHolds 55 = .ok (.iaload, 1) := by decide +kernel
theorem dX4_endHolds_56 : decode cX4_endHolds 56 = .ok (.aload_n 0, 1) := by decide +kernel
theorem dX4_endHolds_57 : decode cX4_endHolds 57 = .ok (.getfield 19, 3) := by decide +kernel
theorem dX4_endHolds_60 : decode cX4_endHolds 60 = .ok (.getfield 70, 3) := by decide +kernel
theorem dX4_endHolds_63 : decode cX4_endHolds 63 = .ok (.getfield 89, 3) := by decide +kernel
theorem dX4_endHolds_66 : decode cX4_endHolds 66 = .ok (.iload_n 1, 1) := by decide +kernel
theorem dX4_endHolds_67 : decode cX4_endHolds 67 = .ok (.iaload, 1) := by decide +kernel
theorem dX4_endHolds_68 : decode cX4_endHolds 68 = .ok (.if_icmp .le 5, 3) := by decide +kernel
theorem dX4_endHolds_71 : decode cX4_endHolds 71 = .ok (.iconst 0, 1) := by decide +kernel
theorem dX4_endHolds_72 : decode cX4_endHolds 72 = .ok (.ireturn, 1) := by decide +kernel
theorem dX4_endHolds_73 : decode cX4_endHolds 73 = .ok (.iinc 1 1, 3) := by decide +kernel
theorem dX4_endHolds_76 : decode cX4_endHolds 76 = .ok (.goto (-59), 3) := by decide +kernel
theorem dX4_endHolds_79 : decode cX4_endHolds 79 = .ok (.iconst 0, 1) := by decide +kernel
theorem dX4_endHolds_80 : decode cX4_endHolds 80 = .ok (.istore_n 1, 1) := by decide +kernel
theorem dX4_endHolds_81 : decode cX4_endHolds 81 = .ok (.iload_n 1, 1) := by decide +kernel
theorem dX4_endHolds_82 : decode cX4_endHolds 82 = .ok (.bipush 6, 2) := by decide +kernel
theorem dX4_endHolds_84 : decode cX4_endHolds 84 = .ok (.if_icmp .ge 19, 3) := by decide +kernel
theorem dX4_endHolds_87 : decode cX4_endHolds 87 = .ok (.aload_n 0, 1) := by decide +kernel
theorem dX4_endHolds_88 : decode cX4_endHolds 88 = .ok (.iload_n 1, 1) := by decide +kernel
theorem dX4_endHolds_89 : decode cX4_endHolds 89 = .ok (.invokevirtual 197, 3) := by decide +kernel
theorem dX4_endHolds_92 : decode cX4_endHolds 92 = .ok (.ifCond .ne 5, 3) := by decide +kernel
theorem dX4_endHolds_95 : decode cX4_endHolds 95 = .ok (.iconst 0, 1) := by decide +kernel
theorem dX4_endHolds_96 : decode cX4_endHolds 96 = .ok (.ireturn, 1) := by decide +kernel
theorem dX4_endHolds_97 : decode cX4_endHolds 97 = .ok (.iinc 1 1, 3) := by decide +kernel
theorem dX4_endHolds_100 : decode cX4_endHolds 100 = .ok (.goto (-19), 3) := by decide +kernel
theorem dX4_endHolds_103 : decode cX4_endHolds 103 = .ok (.iconst 1, 1) := by decide +kernel
theorem dX4_endHolds_104 : decode cX4_endHolds 104 = .ok (.ireturn, 1) := by decide +kernel
theorem dX4_referenceHolds_0 : decode cX4_referenceHolds 0 = .ok (.aload_n 0, 1) := by decide +kernel
theorem dX4_referenceHolds_1 : decode cX4_referenceHolds 1 = .ok (.getfield 26, 3) := by decide +kernel
theorem dX4_referenceHolds_4 : decode cX4_referenceHolds 4 = .ok (.getfield 159, 3) := by decide +kernel
theorem dX4_referenceHolds_7 : decode cX4_referenceHolds 7 = .ok (.iload_n 1, 1) := by decide +kernel
theorem dX4_referenceHolds_8 : decode cX4_referenceHolds 8 = .ok (.iaload, 1) := by decide +kernel
theorem dX4_referenceHolds_9 : decode cX4_referenceHolds 9 = .ok (.istore_n 2, 1) := by decide +kernel
theorem dX4_referenceHolds_10 : decode cX4_referenceHolds 10 = .ok (.iload_n 2, 1) := by decide +kernel
theorem dX4_referenceHolds_11 : decode cX4_referenceHolds 11 = .ok (.ifCond .ge 16, 3) := by decide +kernel
theorem dX4_referenceHolds_14 : decode cX4_referenceHolds 14 = .ok (.aload_n 0, 1) := by decide +kernel
theorem dX4_referenceHolds_15 : decode cX4_referenceHolds 15 = .ok (.getfield 19, 3) := by decide +kernel
theorem dX4_referenceHolds_18 : decode cX4_referenceHolds 18 = .ok (.getfield 70, 3) := by decide +kernel
theorem dX4_referenceHolds_21 : decode cX4_referenceHolds 21 = .ok (.getfield 108, 3) := by decide +kernel
theorem dX4_referenceHolds_24 : decode cX4_referenceHolds 24 = .ok (.iload_n 1, 1) := by decide +kernel
theorem dX4_referenceHolds_25 : decode cX4_referenceHolds 25 = .ok (.baload, 1) := by decide +kernel
theorem dX4_referenceHolds_26 : decode cX4_referenceHolds 26 = .ok (.ireturn, 1) := by decide +kernel
theorem dX4_referenceHolds_27 : decode cX4_referenceHolds 27 = .ok (.aload_n 0, 1) := by decide +kernel
theorem dX4_referenceHolds_28 : decode cX4_referenceHolds 28 = .ok (.getfield 19, 3) := by decide +kernel
theorem dX4_referenceHolds_31 : decode cX4_referenceHolds 31 = .ok (.getfield 70, 3) := by decide +kernel
theorem dX4_referenceHolds_34 : decode cX4_referenceHolds 34 = .ok (.getfield 98, 3) := by decide +kernel
theorem dX4_referenceHolds_37 : decode cX4_referenceHolds 37 = .ok (.iload_n 1, 1) := by decide +kernel
theorem dX4_referenceHolds_38 : decode cX4_referenceHolds 38 = .ok (.laload, 1) := by decide +kernel
theorem dX4_referenceHolds_39 : decode cX4_referenceHolds 39 = .ok (.iload_n 2, 1) := by decide +kernel
theorem dX4_referenceHolds_40 : decode cX4_referenceHolds 40 = .ok (.invokestatic 111, 3) := by decide +kernel
theorem dX4_referenceHolds_43 : decode cX4_referenceHolds 43 = .ok (.ifCond .eq 30, 3) := by decide +kernel
theorem dX4_referenceHolds_46 : decode cX4_referenceHolds 46 = .ok (.aload_n 0, 1) := by decide +kernel
theorem dX4_referenceHolds_47 : decode cX4_referenceHolds 47 = .ok (.getfield 19, 3) := by decide +kernel
theorem dX4_referenceHolds_50 : decode cX4_referenceHolds 50 = .ok (.getfield 70, 3) := by decide +kernel
theorem dX4_referenceHolds_53 : decode cX4_referenceHolds 53 = .ok (.getfield 115, 3) := by decide +kernel
theorem dX4_referenceHolds_56 : decode cX4_referenceHolds 56 = .ok (.iload_n 2, 1) := by decide +kernel
theorem dX4_referenceHolds_57 : decode cX4_referenceHolds 57 = .ok (.baload, 1) := by decide +kernel
theorem dX4_referenceHolds_58 : decode cX4_referenceHolds 58 = .ok (.ifCond .eq 15, 3) := by decide +kernel
theorem dX4_referenceHolds_61 : decode cX4_referenceHolds 61 = .ok (.aload_n 0, 1) := by decide +kernel
theorem dX4_referenceHolds_62 : decode cX4_referenceHolds 62 = .ok (.iload_n 2, 1) := by decide +kernel
theorem dX4_referenceHolds_63 : decode cX4_referenceHolds 63 = .ok (.invokevirtual 200, 3) := by decide +kernel
theorem dX4_referenceHolds_66 : decode cX4_referenceHolds 66 = .ok (.ifCond .eq 7, 3) := by decide +kernel
theorem dX4_referenceHolds_69 : decode cX4_referenceHolds 69 = .ok (.iconst 1, 1) := by decide +kernel
theorem dX4_referenceHolds_70 : decode cX4_referenceHolds 70 = .ok (.goto 4, 3) := by decide +kernel
theorem dX4_referenceHolds_73 : decode cX4_referenceHolds 73 = .ok (.iconst 0, 1) := by decide +kernel
theorem dX4_referenceHolds_74 : decode cX4_referenceHolds 74 = .ok (.ireturn, 1) := by decide +kernel
theorem dX4_arrayHolds_0 : decode cX4_arrayHolds 0 = .ok (.aload_n 0, 1) := by decide +kernel
theorem dX4_arrayHolds_1 : decode cX4_arrayHolds 1 = .ok (.getfield 19, 3) := by decide +kernel
theorem dX4_arrayHolds_4 : decode cX4_arrayHolds 4 = .ok (.getfield 70, 3) := by decide +kernel
theorem dX4_arrayHolds_7 : decode cX4_arrayHolds 7 = .ok (.astore_n 2, 1) := by decide +kernel
theorem dX4_arrayHolds_8 : decode cX4_arrayHolds 8 = .ok (.aload_n 0, 1) := by decide +kernel
theorem dX4_arrayHolds_9 : decode cX4_arrayHolds 9 = .ok (.getfield 26, 3) := by decide +kernel
theorem dX4_arrayHolds_12 : decode cX4_arrayHolds 12 = .ok (.getfield 162, 3) := by decide +kernel
theorem dX4_arrayHolds_15 : decode cX4_arrayHolds 15 = .ok (.iload_n 1, 1) := by decide +kernel
theorem dX4_arrayHolds_16 : decode cX4_arrayHolds 16 = .ok (.iaload, 1) := by decide +kernel
theorem dX4_arrayHolds_17 : decode cX4_arrayHolds 17 = .ok (.istore_n 3, 1) := by decide +kernel
theorem dX4_arrayHolds_18 : decode cX4_arrayHolds 18 = .ok (.iload_n 3, 1) := by decide +kernel
theorem dX4_arrayHolds_19 : decode cX4_arrayHolds 19 = .ok (.aload_n 2, 1) := by decide +kernel
theorem dX4_arrayHolds_20 : decode cX4_arrayHolds 20 = .ok (.getfield 121, 3) := by decide +kernel
theorem dX4_arrayHolds_23 : decode cX4_arrayHolds 23 = .ok (.iload_n 1, 1) := by decide +kernel
theorem dX4_arrayHolds_24 : decode cX4_arrayHolds 24 = .ok (.iaload, 1) := by decide +kernel
theorem dX4_arrayHolds_25 : decode cX4_arrayHolds 25 = .ok (.if_icmp .lt 13, 3) := by decide +kernel
theorem dX4_arrayHolds_28 : decode cX4_arrayHolds 28 = .ok (.iload_n 3, 1) := by decide +kernel
theorem dX4_arrayHolds_29 : decode cX4_arrayHolds 29 = .ok (.aload_n 2, 1) := by decide +kernel
theorem dX4_arrayHolds_30 : decode cX4_arrayHolds 30 = .ok (.getfield 124, 3) := by decide +kernel
theorem dX4_arrayHolds_33 : decode cX4_arrayHolds 33 = .ok (.iload_n 1, 1) := by decide +kernel
theorem dX4_arrayHolds_34 : decode cX4_arrayHolds 34 = .ok (.iaload, 1) := by decide +kernel
theorem dX4_arrayHolds_35 : decode cX4_arrayHolds 35 = .ok (.if_icmp .le 5, 3) := by decide +kernel
theorem dX4_arrayHolds_38 : decode cX4_arrayHolds 38 = .ok (.iconst 0, 1) := by decide +kernel
theorem dX4_arrayHolds_39 : decode cX4_arrayHolds 39 = .ok (.ireturn, 1) := by decide +kernel
theorem dX4_arrayHolds_40 : decode cX4_arrayHolds 40 = .ok (.aload_n 2, 1) := by decide +kernel
theorem dX4_arrayHolds_41 : decode cX4_arrayHolds 41 = .ok (.getfield 118, 3) := by decide +kernel
theorem dX4_arrayHolds_44 : decode cX4_arrayHolds 44 = .ok (.iload_n 1, 1) := by decide +kernel
theorem dX4_arrayHolds_45 : decode cX4_arrayHolds 45 = .ok (.iaload, 1) := by decide +kernel
theorem dX4_arrayHolds_46 : decode cX4_arrayHolds 46 = .ok (.aload_n 0, 1) := by decide +kernel
theorem dX4_arrayHolds_47 : decode cX4_arrayHolds 47 = .ok (.getfield 26, 3) := by decide +kernel
theorem dX4_arrayHolds_50 : decode cX4_arrayHolds 50 = .ok (.getfield 203, 3) := by decide +kernel
theorem dX4_arrayHolds_53 : decode cX4_arrayHolds 53 = .ok (.iload_n 1, 1) := by decide +kernel
theorem dX4_arrayHolds_54 : decode cX4_arrayHolds 54 = .ok (.iaload, 1) := by decide +kernel
theorem dX4_arrayHolds_55 : decode cX4_arrayHolds 55 = .ok (.iushr, 1) := by decide +kernel
theorem dX4_arrayHolds_56 : decode cX4_arrayHolds 56 = .ok (.iconst 1, 1) := by decide +kernel
theorem dX4_arrayHolds_57 : decode cX4_arrayHolds 57 = .ok (.iand, 1) := by decide +kernel
theorem dX4_arrayHolds_58 : decode cX4_arrayHolds 58 = .ok (.ifCond .ne 5, 3) := by decide +kernel
theorem dX4_arrayHolds_61 : decode cX4_arrayHolds 61 = .ok (.iconst 0, 1) := by decide +kernel
theorem dX4_arrayHolds_62 : decode cX4_arrayHolds 62 = .ok (.ireturn, 1) := by decide +kernel
theorem dX4_arrayHolds_63 : decode cX4_arrayHolds 63 = .ok (.iconst 0, 1) := by decide +kernel
theorem dX4_arrayHolds_64 : decode cX4_arrayHolds 64 = .ok (.istore 4, 2) := by decide +kernel
theorem dX4_arrayHolds_66 : decode cX4_arrayHolds 66 = .ok (.iload 4, 2) := by decide +kernel
theorem dX4_arrayHolds_68 : decode cX4_arrayHolds 68 = .ok (.iload_n 3, 1) := by decide +kernel
theorem dX4_arrayHolds_69 : decode cX4_arrayHolds 69 = .ok (.if_icmp .ge 67, 3) := by decide +kernel
theorem dX4_arrayHolds_72 : decode cX4_arrayHolds 72 = .ok (.iload 4, 2) := by decide +kernel
theorem dX4_arrayHolds_74 : decode cX4_arrayHolds 74 = .ok (.bipush 12, 2) := by decide +kernel
theorem dX4_arrayHolds_76 : decode cX4_arrayHolds 76 = .ok (.if_icmp .ge 60, 3) := by decide +kernel
theorem dX4_arrayHolds_79 : decode cX4_arrayHolds 79 = .ok (.iload_n 1, 1) := by decide +kernel
theorem dX4_arrayHolds_80 : decode cX4_arrayHolds 80 = .ok (.bipush 12, 2) := by decide +kernel
theorem dX4_arrayHolds_82 : decode cX4_arrayHolds 82 = .ok (.imul, 1) := by decide +kernel
theorem dX4_arrayHolds_83 : decode cX4_arrayHolds 83 = .ok (.iload 4, 2) := by decide +kernel
theorem dX4_arrayHolds_85 : decode cX4_arrayHolds 85 = .ok (.iadd, 1) := by decide +kernel
theorem dX4_arrayHolds_86 : decode cX4_arrayHolds 86 = .ok (.istore 5, 2) := by decide +kernel
theorem dX4_arrayHolds_88 : decode cX4_arrayHolds 88 = .ok (.aload_n 0, 1) := by decide +kernel
theorem dX4_arrayHolds_89 : decode cX4_arrayHolds 89 = .ok (.getfield 26, 3) := by decide +kernel
theorem dX4_arrayHolds_92 : decode cX4_arrayHolds 92 = .ok (.getfield 165, 3) := by decide +kernel
theorem dX4_arrayHolds_95 : decode cX4_arrayHolds 95 = .ok (.iload 5, 2) := by decide +kernel
theorem dX4_arrayHolds_97 : decode cX4_arrayHolds 97 = .ok (.iaload, 1) := by decide +kernel
theorem dX4_arrayHolds_98 : decode cX4_arrayHolds 98 = .ok (.aload_n 2, 1) := by decide +kernel
theorem dX4_arrayHolds_99 : decode cX4_arrayHolds 99 = .ok (.getfield 140, 3) := by decide +kernel
theorem dX4_arrayHolds_102 : decode cX4_arrayHolds 102 = .ok (.iload 5, 2) := by decide +kernel
theorem dX4_arrayHolds_104 : decode cX4_arrayHolds 104 = .ok (.iaload, 1) := by decide +kernel
theorem dX4_arrayHolds_105 : decode cX4_arrayHolds 105 = .ok (.if_icmp .lt 23, 3) := by decide +kernel
theorem dX4_arrayHolds_108 : decode cX4_arrayHolds 108 = .ok (.aload_n 0, 1) := by decide +kernel
theorem dX4_arrayHolds_109 : decode cX4_arrayHolds 109 = .ok (.getfield 26, 3) := by decide +kernel
theorem dX4_arrayHolds_112 : decode cX4_arrayHolds 112 = .ok (.getfield 165, 3) := by decide +kernel
theorem dX4_arrayHolds_115 : decode cX4_arrayHolds 115 = .ok (.iload 5, 2) := by decide +kernel
theorem dX4_arrayHolds_117 : decode cX4_arrayHolds 117 = .ok (.iaload, 1) := by decide +kernel
theorem dX4_arrayHolds_118 : decode cX4_arrayHolds 118 = .ok (.aload_n 2, 1) := by decide +kernel
theorem dX4_arrayHolds_119 : decode cX4_arrayHolds 119 = .ok (.getfield 143, 3) := by decide +kernel
theorem dX4_arrayHolds_122 : decode cX4_arrayHolds 122 = .ok (.iload 5, 2) := by decide +kernel
theorem dX4_arrayHolds_124 : decode cX4_arrayHolds 124 = .ok (.iaload, 1) := by decide +kernel
theorem dX4_arrayHolds_125 : decode cX4_arrayHolds 125 = .ok (.if_icmp .le 5, 3) := by decide +kernel
theorem dX4_arrayHolds_128 : decode cX4_arrayHolds 128 = .ok (.iconst 0, 1) := by decide +kernel
theorem dX4_arrayHolds_129 : decode cX4_arrayHolds 129 = .ok (.ireturn, 1) := by decide +kernel
theorem dX4_arrayHolds_130 : decode cX4_arrayHolds 130 = .ok (.iinc 4 1, 3) := by decide +kernel
theorem dX4_arrayHolds_133 : decode cX4_arrayHolds 133 = .ok (.goto (-67), 3) := by decide +kernel
theorem dX4_arrayHolds_136 : decode cX4_arrayHolds 136 = .ok (.iconst 1, 1) := by decide +kernel
theorem dX4_arrayHolds_137 : decode cX4_arrayHolds 137 = .ok (.ireturn, 1) := by decide +kernel
theorem dX4_isVariable_0 : decode cX4_isVariable 0 = .ok (.iload_n 0, 1) := by decide +kernel
theorem dX4_isVariable_1 : decode cX4_isVariable 1 = .ok (.ifCond .lt 13, 3) := by decide +kernel
theorem dX4_isVariable_4 : decode cX4_isVariable 4 = .ok (.iload_n 0, 1) := by decide +kernel
theorem dX4_isVariable_5 : decode cX4_isVariable 5 = .ok (.bipush 6, 2) := by decide +kernel
theorem dX4_isVariable_7 : decode cX4_isVariable 7 = .ok (.if_icmp .ge 7, 3) := by decide +kernel
theorem dX4_isVariable_10 : decode cX4_isVariable 10 = .ok (.iconst 1, 1) := by decide +kernel
theorem dX4_isVariable_11 : decode cX4_isVariable 11 = .ok (.goto 4, 3) := by decide +kernel
theorem dX4_isVariable_14 : decode cX4_isVariable 14 = .ok (.iconst 0, 1) := by decide +kernel
theorem dX4_isVariable_15 : decode cX4_isVariable 15 = .ok (.ireturn, 1) := by decide +kernel
theorem dX4_isReference_0 : decode cX4_isReference 0 = .ok (.iload_n 0, 1) := by decide +kernel
theorem dX4_isReference_1 : decode cX4_isReference 1 = .ok (.ifCond .lt 13, 3) := by decide +kernel
theorem dX4_isReference_4 : decode cX4_isReference 4 = .ok (.iload_n 0, 1) := by decide +kernel
theorem dX4_isReference_5 : decode cX4_isReference 5 = .ok (.bipush 6, 2) := by decide +kernel
theorem dX4_isReference_7 : decode cX4_isReference 7 = .ok (.if_icmp .ge 7, 3) := by decide +kernel
theorem dX4_isReference_10 : decode cX4_isReference 10 = .ok (.iconst 1, 1) := by decide +kernel
theorem dX4_isReference_11 : decode cX4_isReference 11 = .ok (.goto 4, 3) := by decide +kernel
theorem dX4_isReference_14 : decode cX4_isReference 14 = .ok (.iconst 0, 1) := by decide +kernel
theorem dX4_isReference_15 : decode cX4_isReference 15 = .ok (.ireturn, 1) := by decide +kernel
theorem dX4_isLane_0 : decode cX4_isLane 0 = .ok (.iload_n 0, 1) := by decide +kernel
theorem dX4_isLane_1 : decode cX4_isLane 1 = .ok (.ifCond .lt 12, 3) := by decide +kernel
theorem dX4_isLane_4 : decode cX4_isLane 4 = .ok (.iload_n 0, 1) := by decide +kernel
theorem dX4_isLane_5 : decode cX4_isLane 5 = .ok (.iconst 3, 1) := by decide +kernel
theorem dX4_isLane_6 : decode cX4_isLane 6 = .ok (.if_icmp .ge 7, 3) := by decide +kernel
theorem dX4_isLane_9 : decode cX4_isLane 9 = .ok (.iconst 1, 1) := by decide +kernel
theorem dX4_isLane_10 : decode cX4_isLane 10 = .ok (.goto 4, 3) := by decide +kernel
theorem dX4_isLane_13 : decode cX4_isLane 13 = .ok (.iconst 0, 1) := by decide +kernel
theorem dX4_isLane_14 : decode cX4_isLane 14 = .ok (.ireturn, 1) := by decide +kernel
theorem dX4_isNumber_0 : decode cX4_isNumber 0 = .ok (.iload_n 0, 1) := by decide +kernel
theorem dX4_isNumber_1 : decode cX4_isNumber 1 = .ok (.ldc 204, 2) := by decide +kernel
theorem dX4_isNumber_3 : decode cX4_isNumber 3 = .ok (.if_icmp .lt 13, 3) := by decide +kernel
theorem dX4_isNumber_6 : decode cX4_isNumber 6 = .ok (.iload_n 0, 1) := by decide +kernel
theorem dX4_isNumber_7 : decode cX4_isNumber 7 = .ok (.ldc 205, 2) := by decide +kernel
theorem dX4_isNumber_9 : decode cX4_isNumber 9 = .ok (.if_icmp .gt 7, 3) := by decide +kernel
theorem dX4_isNumber_12 : decode cX4_isNumber 12 = .ok (.iconst 1, 1) := by decide +kernel
theorem dX4_isNumber_13 : decode cX4_isNumber 13 = .ok (.goto 4, 3) := by decide +kernel
theorem dX4_isNumber_16 : decode cX4_isNumber 16 = .ok (.iconst 0, 1) := by decide +kernel
theorem dX4_isNumber_17 : decode cX4_isNumber 17 = .ok (.ireturn, 1) := by decide +kernel
theorem dX4_isIn_0 : decode cX4_isIn 0 = .ok (.lload_n 0, 1) := by decide +kernel
theorem dX4_isIn_1 : decode cX4_isIn 1 = .ok (.iload_n 2, 1) := by decide +kernel
theorem dX4_isIn_2 : decode cX4_isIn 2 = .ok (.lushr, 1) := by decide +kernel
theorem dX4_isIn_3 : decode cX4_isIn 3 = .ok (.lconst 1, 1) := by decide +kernel
theorem dX4_isIn_4 : decode cX4_isIn 4 = .ok (.land, 1) := by decide +kernel
theorem dX4_isIn_5 : decode cX4_isIn 5 = .ok (.lconst 1, 1) := by decide +kernel
theorem dX4_isIn_6 : decode cX4_isIn 6 = .ok (.lcmp, 1) := by decide +kernel
theorem dX4_isIn_7 : decode cX4_isIn 7 = .ok (.ifCond .ne 7, 3) := by decide +kernel
theorem dX4_isIn_10 : decode cX4_isIn 10 = .ok (.iconst 1, 1) := by decide +kernel
theorem dX4_isIn_11 : decode cX4_isIn 11 = .ok (.goto 4, 3) := by decide +kernel
theorem dX4_isIn_14 : decode cX4_isIn 14 = .ok (.iconst 0, 1) := by decide +kernel
theorem dX4_isIn_15 : decode cX4_isIn 15 = .ok (.ireturn, 1) := by decide +kernel
theorem dX4_leastOfLane_0 : decode cX4_leastOfLane 0 = .ok (.iload_n 0, 1) := by decide +kernel
theorem dX4_leastOfLane_1 : decode cX4_leastOfLane 1 = .ok (.ifCond .ne 6, 3) := by decide +kernel
theorem dX4_leastOfLane_4 : decode cX4_leastOfLane 4 = .ok (.bipush (-128), 2) := by decide +kernel
theorem dX4_leastOfLane_6 : decode cX4_leastOfLane 6 = .ok (.ireturn, 1) := by decide +kernel
theorem dX4_leastOfLane_7 : decode cX4_leastOfLane 7 = .ok (.iload_n 0, 1) := by decide +kernel
theorem dX4_leastOfLane_8 : decode cX4_leastOfLane 8 = .ok (.iconst 1, 1) := by decide +kernel
theorem dX4_leastOfLane_9 : decode cX4_leastOfLane 9 = .ok (.if_icmp .ne 7, 3) := by decide +kernel
theorem dX4_leastOfLane_12 : decode cX4_leastOfLane 12 = .ok (.iconst 0, 1) := by decide +kernel
theorem dX4_leastOfLane_13 : decode cX4_leastOfLane 13 = .ok (.goto 5, 3) := by decide +kernel
theorem dX4_leastOfLane_16 : decode cX4_leastOfLane 16 = .ok (.ldc 206, 2) := by decide +kernel
theorem dX4_leastOfLane_18 : decode cX4_leastOfLane 18 = .ok (.ireturn, 1) := by decide +kernel
theorem dX4_greatestOfLane_0 : decode cX4_greatestOfLane 0 = .ok (.iload_n 0, 1) := by decide +kernel
theorem dX4_greatestOfLane_1 : decode cX4_greatestOfLane 1 = .ok (.ifCond .ne 6, 3) := by decide +kernel
theorem dX4_greatestOfLane_4 : decode cX4_greatestOfLane 4 = .ok (.bipush 127, 2) := by decide +kernel
theorem dX4_greatestOfLane_6 : decode cX4_greatestOfLane 6 = .ok (.ireturn, 1) := by decide +kernel
theorem dX4_greatestOfLane_7 : decode cX4_greatestOfLane 7 = .ok (.iload_n 0, 1) := by decide +kernel
theorem dX4_greatestOfLane_8 : decode cX4_greatestOfLane 8 = .ok (.iconst 1, 1) := by decide +kernel
theorem dX4_greatestOfLane_9 : decode cX4_greatestOfLane 9 = .ok (.if_icmp .ne 8, 3) := by decide +kernel
theorem dX4_greatestOfLane_12 : decode cX4_greatestOfLane 12 = .ok (.ldc 207, 2) := by decide +kernel
theorem dX4_greatestOfLane_14 : decode cX4_greatestOfLane 14 = .ok (.goto 5, 3) := by decide +kernel
theorem dX4_greatestOfLane_17 : decode cX4_greatestOfLane 17 = .ok (.ldc 208, 2) := by decide +kernel
theorem dX4_greatestOfLane_19 : decode cX4_greatestOfLane 19 = .ok (.ireturn, 1) := by decide +kernel
