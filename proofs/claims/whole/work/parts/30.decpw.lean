theorem zd_PW_new_0 : decode prog_1_method_1_code 0 = .ok (.aload_n 0, 1) := by decide +kernel
theorem zd_PW_new_1 : decode prog_1_method_1_code 1 = .ok (.invokespecial 1, 3) := by decide +kernel
theorem zd_PW_new_4 : decode prog_1_method_1_code 4 = .ok (.aload_n 0, 1) := by decide +kernel
theorem zd_PW_new_5 : decode prog_1_method_1_code 5 = .ok (.new 7, 3) := by decide +kernel
theorem zd_PW_new_8 : decode prog_1_method_1_code 8 = .ok (.dup, 1) := by decide +kernel
theorem zd_PW_new_9 : decode prog_1_method_1_code 9 = .ok (.invokespecial 9, 3) := by decide +kernel
theorem zd_PW_new_12 : decode prog_1_method_1_code 12 = .ok (.putfield 10, 3) := by decide +kernel
theorem zd_PW_new_15 : decode prog_1_method_1_code 15 = .ok (.aload_n 0, 1) := by decide +kernel
theorem zd_PW_new_16 : decode prog_1_method_1_code 16 = .ok (.new 16, 3) := by decide +kernel
theorem zd_PW_new_19 : decode prog_1_method_1_code 19 = .ok (.dup, 1) := by decide +kernel
theorem zd_PW_new_20 : decode prog_1_method_1_code 20 = .ok (.invokespecial 18, 3) := by decide +kernel
theorem zd_PW_new_23 : decode prog_1_method_1_code 23 = .ok (.putfield 19, 3) := by decide +kernel
theorem zd_PW_new_26 : decode prog_1_method_1_code 26 = .ok (.aload_n 0, 1) := by decide +kernel
theorem zd_PW_new_27 : decode prog_1_method_1_code 27 = .ok (.new 23, 3) := by decide +kernel
theorem zd_PW_new_30 : decode prog_1_method_1_code 30 = .ok (.dup, 1) := by decide +kernel
theorem zd_PW_new_31 : decode prog_1_method_1_code 31 = .ok (.invokespecial 25, 3) := by decide +kernel
theorem zd_PW_new_34 : decode prog_1_method_1_code 34 = .ok (.putfield 26, 3) := by decide +kernel
theorem zd_PW_new_37 : decode prog_1_method_1_code 37 = .ok (.aload_n 0, 1) := by decide +kernel
theorem zd_PW_new_38 : decode prog_1_method_1_code 38 = .ok (.new 30, 3) := by decide +kernel
theorem zd_PW_new_41 : decode prog_1_method_1_code 41 = .ok (.dup, 1) := by decide +kernel
theorem zd_PW_new_42 : decode prog_1_method_1_code 42 = .ok (.bipush (64), 2) := by decide +kernel
theorem zd_PW_new_44 : decode prog_1_method_1_code 44 = .ok (.invokespecial 32, 3) := by decide +kernel
theorem zd_PW_new_47 : decode prog_1_method_1_code 47 = .ok (.putfield 35, 3) := by decide +kernel
theorem zd_PW_new_50 : decode prog_1_method_1_code 50 = .ok (.aload_n 0, 1) := by decide +kernel
theorem zd_PW_new_51 : decode prog_1_method_1_code 51 = .ok (.new 39, 3) := by decide +kernel
theorem zd_PW_new_54 : decode prog_1_method_1_code 54 = .ok (.dup, 1) := by decide +kernel
theorem zd_PW_new_55 : decode prog_1_method_1_code 55 = .ok (.invokespecial 41, 3) := by decide +kernel
theorem zd_PW_new_58 : decode prog_1_method_1_code 58 = .ok (.putfield 42, 3) := by decide +kernel
theorem zd_PW_new_61 : decode prog_1_method_1_code 61 = .ok (.aload_n 0, 1) := by decide +kernel
theorem zd_PW_new_62 : decode prog_1_method_1_code 62 = .ok (.iconst 0, 1) := by decide +kernel
theorem zd_PW_new_63 : decode prog_1_method_1_code 63 = .ok (.putfield 46, 3) := by decide +kernel
theorem zd_PW_new_66 : decode prog_1_method_1_code 66 = .ok (.aload_n 0, 1) := by decide +kernel
theorem zd_PW_new_67 : decode prog_1_method_1_code 67 = .ok (.iconst 0, 1) := by decide +kernel
theorem zd_PW_new_68 : decode prog_1_method_1_code 68 = .ok (.putfield 50, 3) := by decide +kernel
theorem zd_PW_new_71 : decode prog_1_method_1_code 71 = .ok (.aload_n 0, 1) := by decide +kernel
theorem zd_PW_new_72 : decode prog_1_method_1_code 72 = .ok (.iconst 0, 1) := by decide +kernel
theorem zd_PW_new_73 : decode prog_1_method_1_code 73 = .ok (.putfield 53, 3) := by decide +kernel
theorem zd_PW_new_76 : decode prog_1_method_1_code 76 = .ok (.return_, 1) := by decide +kernel
theorem zd_PW_type_0 : decode prog_1_method_2_code 0 = .ok (.iload_n 3, 1) := by decide +kernel
theorem zd_PW_type_1 : decode prog_1_method_2_code 1 = .ok (.iconst 1, 1) := by decide +kernel
theorem zd_PW_type_2 : decode prog_1_method_2_code 2 = .ok (.if_icmp .lt (9), 3) := by decide +kernel
theorem zd_PW_type_5 : decode prog_1_method_2_code 5 = .ok (.iload_n 3, 1) := by decide +kernel
theorem zd_PW_type_6 : decode prog_1_method_2_code 6 = .ok (.bipush (8), 2) := by decide +kernel
theorem zd_PW_type_8 : decode prog_1_method_2_code 8 = .ok (.if_icmp .le (5), 3) := by decide +kernel
theorem zd_PW_type_11 : decode prog_1_method_2_code 11 = .ok (.iconst (-1), 1) := by decide +kernel
theorem zd_PW_type_12 : decode prog_1_method_2_code 12 = .ok (.ireturn, 1) := by decide +kernel
theorem zd_PW_type_13 : decode prog_1_method_2_code 13 = .ok (.aload_n 0, 1) := by decide +kernel
theorem zd_PW_type_14 : decode prog_1_method_2_code 14 = .ok (.getfield 10, 3) := by decide +kernel
theorem zd_PW_type_17 : decode prog_1_method_2_code 17 = .ok (.invokevirtual 56, 3) := by decide +kernel
theorem zd_PW_type_20 : decode prog_1_method_2_code 20 = .ok (.iload_n 3, 1) := by decide +kernel
theorem zd_PW_type_21 : decode prog_1_method_2_code 21 = .ok (.iadd, 1) := by decide +kernel
theorem zd_PW_type_22 : decode prog_1_method_2_code 22 = .ok (.ldc 60, 2) := by decide +kernel
theorem zd_PW_type_24 : decode prog_1_method_2_code 24 = .ok (.if_icmp .le (6), 3) := by decide +kernel
theorem zd_PW_type_27 : decode prog_1_method_2_code 27 = .ok (.bipush (-3), 2) := by decide +kernel
theorem zd_PW_type_29 : decode prog_1_method_2_code 29 = .ok (.ireturn, 1) := by decide +kernel
theorem zd_PW_type_30 : decode prog_1_method_2_code 30 = .ok (.bipush (8), 2) := by decide +kernel
theorem zd_PW_type_32 : decode prog_1_method_2_code 32 = .ok (.iload_n 3, 1) := by decide +kernel
theorem zd_PW_type_33 : decode prog_1_method_2_code 33 = .ok (.iconst 1, 1) := by decide +kernel
theorem zd_PW_type_34 : decode prog_1_method_2_code 34 = .ok (.isub, 1) := by decide +kernel
theorem zd_PW_type_35 : decode prog_1_method_2_code 35 = .ok (.imul, 1) := by decide +kernel
theorem zd_PW_type_36 : decode prog_1_method_2_code 36 = .ok (.istore 4, 2) := by decide +kernel
theorem zd_PW_type_38 : decode prog_1_method_2_code 38 = .ok (.iload 4, 2) := by decide +kernel
theorem zd_PW_type_40 : decode prog_1_method_2_code 40 = .ok (.ifCond .lt (21), 3) := by decide +kernel
theorem zd_PW_type_43 : decode prog_1_method_2_code 43 = .ok (.aload_n 0, 1) := by decide +kernel
theorem zd_PW_type_44 : decode prog_1_method_2_code 44 = .ok (.getfield 10, 3) := by decide +kernel
theorem zd_PW_type_47 : decode prog_1_method_2_code 47 = .ok (.lload_n 1, 1) := by decide +kernel
theorem zd_PW_type_48 : decode prog_1_method_2_code 48 = .ok (.iload 4, 2) := by decide +kernel
theorem zd_PW_type_50 : decode prog_1_method_2_code 50 = .ok (.lushr, 1) := by decide +kernel
theorem zd_PW_type_51 : decode prog_1_method_2_code 51 = .ok (.l2i, 1) := by decide +kernel
theorem zd_PW_type_52 : decode prog_1_method_2_code 52 = .ok (.invokevirtual 61, 3) := by decide +kernel
theorem zd_PW_type_55 : decode prog_1_method_2_code 55 = .ok (.iinc 4 (-8), 3) := by decide +kernel
theorem zd_PW_type_58 : decode prog_1_method_2_code 58 = .ok (.goto (-20), 3) := by decide +kernel
theorem zd_PW_type_61 : decode prog_1_method_2_code 61 = .ok (.aload_n 0, 1) := by decide +kernel
theorem zd_PW_type_62 : decode prog_1_method_2_code 62 = .ok (.getfield 10, 3) := by decide +kernel
theorem zd_PW_type_65 : decode prog_1_method_2_code 65 = .ok (.invokevirtual 56, 3) := by decide +kernel
theorem zd_PW_type_68 : decode prog_1_method_2_code 68 = .ok (.ireturn, 1) := by decide +kernel
theorem zd_PW_cut_0 : decode prog_1_method_3_code 0 = .ok (.aload_n 0, 1) := by decide +kernel
theorem zd_PW_cut_1 : decode prog_1_method_3_code 1 = .ok (.getfield 10, 3) := by decide +kernel
theorem zd_PW_cut_4 : decode prog_1_method_3_code 4 = .ok (.invokevirtual 56, 3) := by decide +kernel
theorem zd_PW_cut_7 : decode prog_1_method_3_code 7 = .ok (.istore_n 1, 1) := by decide +kernel
theorem zd_PW_cut_8 : decode prog_1_method_3_code 8 = .ok (.aload_n 0, 1) := by decide +kernel
theorem zd_PW_cut_9 : decode prog_1_method_3_code 9 = .ok (.iload_n 1, 1) := by decide +kernel
theorem zd_PW_cut_10 : decode prog_1_method_3_code 10 = .ok (.invokevirtual 64, 3) := by decide +kernel
theorem zd_PW_cut_13 : decode prog_1_method_3_code 13 = .ok (.iconst 0, 1) := by decide +kernel
theorem zd_PW_cut_14 : decode prog_1_method_3_code 14 = .ok (.istore_n 2, 1) := by decide +kernel
theorem zd_PW_cut_15 : decode prog_1_method_3_code 15 = .ok (.iload_n 2, 1) := by decide +kernel
theorem zd_PW_cut_16 : decode prog_1_method_3_code 16 = .ok (.iload_n 1, 1) := by decide +kernel
theorem zd_PW_cut_17 : decode prog_1_method_3_code 17 = .ok (.if_icmp .ge (35), 3) := by decide +kernel
theorem zd_PW_cut_20 : decode prog_1_method_3_code 20 = .ok (.aload_n 0, 1) := by decide +kernel
theorem zd_PW_cut_21 : decode prog_1_method_3_code 21 = .ok (.getfield 46, 3) := by decide +kernel
theorem zd_PW_cut_24 : decode prog_1_method_3_code 24 = .ok (.iload_n 1, 1) := by decide +kernel
theorem zd_PW_cut_25 : decode prog_1_method_3_code 25 = .ok (.if_icmp .ge (27), 3) := by decide +kernel
theorem zd_PW_cut_28 : decode prog_1_method_3_code 28 = .ok (.aload_n 0, 1) := by decide +kernel
theorem zd_PW_cut_29 : decode prog_1_method_3_code 29 = .ok (.getfield 50, 3) := by decide +kernel
theorem zd_PW_cut_32 : decode prog_1_method_3_code 32 = .ok (.ifCond .ne (20), 3) := by decide +kernel
theorem zd_PW_cut_35 : decode prog_1_method_3_code 35 = .ok (.aload_n 0, 1) := by decide +kernel
theorem zd_PW_cut_36 : decode prog_1_method_3_code 36 = .ok (.invokevirtual 67, 3) := by decide +kernel
theorem zd_PW_cut_39 : decode prog_1_method_3_code 39 = .ok (.ifCond .ne (7), 3) := by decide +kernel
theorem zd_PW_cut_42 : decode prog_1_method_3_code 42 = .ok (.aload_n 0, 1) := by decide +kernel
theorem zd_PW_cut_43 : decode prog_1_method_3_code 43 = .ok (.invokevirtual 71, 3) := by decide +kernel
theorem zd_PW_cut_46 : decode prog_1_method_3_code 46 = .ok (.iinc 2 (1), 3) := by decide +kernel
theorem zd_PW_cut_49 : decode prog_1_method_3_code 49 = .ok (.goto (-34), 3) := by decide +kernel
theorem zd_PW_cut_52 : decode prog_1_method_3_code 52 = .ok (.aload_n 0, 1) := by decide +kernel
theorem zd_PW_cut_53 : decode prog_1_method_3_code 53 = .ok (.getfield 50, 3) := by decide +kernel
theorem zd_PW_cut_56 : decode prog_1_method_3_code 56 = .ok (.ifCond .ne (19), 3) := by decide +kernel
theorem zd_PW_cut_59 : decode prog_1_method_3_code 59 = .ok (.aload_n 0, 1) := by decide +kernel
theorem zd_PW_cut_60 : decode prog_1_method_3_code 60 = .ok (.getfield 35, 3) := by decide +kernel
theorem zd_PW_cut_63 : decode prog_1_method_3_code 63 = .ok (.invokevirtual 74, 3) := by decide +kernel
theorem zd_PW_cut_66 : decode prog_1_method_3_code 66 = .ok (.ifCond .le (9), 3) := by decide +kernel
theorem zd_PW_cut_69 : decode prog_1_method_3_code 69 = .ok (.aload_n 0, 1) := by decide +kernel
theorem zd_PW_cut_70 : decode prog_1_method_3_code 70 = .ok (.iconst 4, 1) := by decide +kernel
theorem zd_PW_cut_71 : decode prog_1_method_3_code 71 = .ok (.iload_n 1, 1) := by decide +kernel
theorem zd_PW_cut_72 : decode prog_1_method_3_code 72 = .ok (.invokevirtual 75, 3) := by decide +kernel
theorem zd_PW_cut_75 : decode prog_1_method_3_code 75 = .ok (.aload_n 0, 1) := by decide +kernel
theorem zd_PW_cut_76 : decode prog_1_method_3_code 76 = .ok (.getfield 10, 3) := by decide +kernel
theorem zd_PW_cut_79 : decode prog_1_method_3_code 79 = .ok (.iconst 0, 1) := by decide +kernel
theorem zd_PW_cut_80 : decode prog_1_method_3_code 80 = .ok (.invokevirtual 79, 3) := by decide +kernel
theorem zd_PW_cut_83 : decode prog_1_method_3_code 83 = .ok (.aload_n 0, 1) := by decide +kernel
theorem zd_PW_cut_84 : decode prog_1_method_3_code 84 = .ok (.getfield 50, 3) := by decide +kernel
theorem zd_PW_cut_87 : decode prog_1_method_3_code 87 = .ok (.ifCond .ne (13), 3) := by decide +kernel
theorem zd_PW_cut_90 : decode prog_1_method_3_code 90 = .ok (.aload_n 0, 1) := by decide +kernel
theorem zd_PW_cut_91 : decode prog_1_method_3_code 91 = .ok (.getfield 19, 3) := by decide +kernel
theorem zd_PW_cut_94 : decode prog_1_method_3_code 94 = .ok (.invokevirtual 82, 3) := by decide +kernel
theorem zd_PW_cut_97 : decode prog_1_method_3_code 97 = .ok (.goto (8), 3) := by decide +kernel
theorem zd_PW_cut_100 : decode prog_1_method_3_code 100 = .ok (.aload_n 0, 1) := by decide +kernel
theorem zd_PW_cut_101 : decode prog_1_method_3_code 101 = .ok (.getfield 50, 3) := by decide +kernel
theorem zd_PW_cut_104 : decode prog_1_method_3_code 104 = .ok (.ineg, 1) := by decide +kernel
theorem zd_PW_cut_105 : decode prog_1_method_3_code 105 = .ok (.ireturn, 1) := by decide +kernel
theorem zd_PW_startAnew_0 : decode prog_1_method_12_code 0 = .ok (.aload_n 0, 1) := by decide +kernel
theorem zd_PW_startAnew_1 : decode prog_1_method_12_code 1 = .ok (.getfield 19, 3) := by decide +kernel
theorem zd_PW_startAnew_4 : decode prog_1_method_12_code 4 = .ok (.invokevirtual 101, 3) := by decide +kernel
theorem zd_PW_startAnew_7 : decode prog_1_method_12_code 7 = .ok (.aload_n 0, 1) := by decide +kernel
theorem zd_PW_startAnew_8 : decode prog_1_method_12_code 8 = .ok (.getfield 26, 3) := by decide +kernel
theorem zd_PW_startAnew_11 : decode prog_1_method_12_code 11 = .ok (.invokevirtual 104, 3) := by decide +kernel
theorem zd_PW_startAnew_14 : decode prog_1_method_12_code 14 = .ok (.aload_n 0, 1) := by decide +kernel
theorem zd_PW_startAnew_15 : decode prog_1_method_12_code 15 = .ok (.getfield 35, 3) := by decide +kernel
theorem zd_PW_startAnew_18 : decode prog_1_method_12_code 18 = .ok (.iconst 0, 1) := by decide +kernel
theorem zd_PW_startAnew_19 : decode prog_1_method_12_code 19 = .ok (.invokevirtual 105, 3) := by decide +kernel
theorem zd_PW_startAnew_22 : decode prog_1_method_12_code 22 = .ok (.aload_n 0, 1) := by decide +kernel
theorem zd_PW_startAnew_23 : decode prog_1_method_12_code 23 = .ok (.iconst 0, 1) := by decide +kernel
theorem zd_PW_startAnew_24 : decode prog_1_method_12_code 24 = .ok (.putfield 46, 3) := by decide +kernel
theorem zd_PW_startAnew_27 : decode prog_1_method_12_code 27 = .ok (.aload_n 0, 1) := by decide +kernel
theorem zd_PW_startAnew_28 : decode prog_1_method_12_code 28 = .ok (.iconst 0, 1) := by decide +kernel
theorem zd_PW_startAnew_29 : decode prog_1_method_12_code 29 = .ok (.putfield 50, 3) := by decide +kernel
theorem zd_PW_startAnew_32 : decode prog_1_method_12_code 32 = .ok (.aload_n 0, 1) := by decide +kernel
theorem zd_PW_startAnew_33 : decode prog_1_method_12_code 33 = .ok (.iload_n 1, 1) := by decide +kernel
theorem zd_PW_startAnew_34 : decode prog_1_method_12_code 34 = .ok (.putfield 53, 3) := by decide +kernel
theorem zd_PW_startAnew_37 : decode prog_1_method_12_code 37 = .ok (.return_, 1) := by decide +kernel
theorem zd_PW_leaveOut_0 : decode prog_1_method_14_code 0 = .ok (.aload_n 0, 1) := by decide +kernel
theorem zd_PW_leaveOut_1 : decode prog_1_method_14_code 1 = .ok (.getfield 10, 3) := by decide +kernel
theorem zd_PW_leaveOut_4 : decode prog_1_method_14_code 4 = .ok (.aload_n 0, 1) := by decide +kernel
theorem zd_PW_leaveOut_5 : decode prog_1_method_14_code 5 = .ok (.getfield 46, 3) := by decide +kernel
theorem zd_PW_leaveOut_8 : decode prog_1_method_14_code 8 = .ok (.invokevirtual 106, 3) := by decide +kernel
theorem zd_PW_leaveOut_11 : decode prog_1_method_14_code 11 = .ok (.istore_n 1, 1) := by decide +kernel
theorem zd_PW_leaveOut_12 : decode prog_1_method_14_code 12 = .ok (.iload_n 1, 1) := by decide +kernel
theorem zd_PW_leaveOut_13 : decode prog_1_method_14_code 13 = .ok (.invokestatic 109, 3) := by decide +kernel
theorem zd_PW_leaveOut_16 : decode prog_1_method_14_code 16 = .ok (.ifCond .eq (15), 3) := by decide +kernel
theorem zd_PW_leaveOut_19 : decode prog_1_method_14_code 19 = .ok (.aload_n 0, 1) := by decide +kernel
theorem zd_PW_leaveOut_20 : decode prog_1_method_14_code 20 = .ok (.dup, 1) := by decide +kernel
theorem zd_PW_leaveOut_21 : decode prog_1_method_14_code 21 = .ok (.getfield 46, 3) := by decide +kernel
theorem zd_PW_leaveOut_24 : decode prog_1_method_14_code 24 = .ok (.iconst 1, 1) := by decide +kernel
theorem zd_PW_leaveOut_25 : decode prog_1_method_14_code 25 = .ok (.iadd, 1) := by decide +kernel
theorem zd_PW_leaveOut_26 : decode prog_1_method_14_code 26 = .ok (.putfield 46, 3) := by decide +kernel
theorem zd_PW_leaveOut_29 : decode prog_1_method_14_code 29 = .ok (.iconst 1, 1) := by decide +kernel
theorem zd_PW_leaveOut_30 : decode prog_1_method_14_code 30 = .ok (.ireturn, 1) := by decide +kernel
theorem zd_PW_leaveOut_31 : decode prog_1_method_14_code 31 = .ok (.iload_n 1, 1) := by decide +kernel
theorem zd_PW_leaveOut_32 : decode prog_1_method_14_code 32 = .ok (.bipush (37), 2) := by decide +kernel
theorem zd_PW_leaveOut_34 : decode prog_1_method_14_code 34 = .ok (.if_icmp .ne (9), 3) := by decide +kernel
theorem zd_PW_leaveOut_37 : decode prog_1_method_14_code 37 = .ok (.aload_n 0, 1) := by decide +kernel
theorem zd_PW_leaveOut_38 : decode prog_1_method_14_code 38 = .ok (.invokevirtual 113, 3) := by decide +kernel
theorem zd_PW_leaveOut_41 : decode prog_1_method_14_code 41 = .ok (.iconst 1, 1) := by decide +kernel
theorem zd_PW_leaveOut_42 : decode prog_1_method_14_code 42 = .ok (.ireturn, 1) := by decide +kernel
theorem zd_PW_leaveOut_43 : decode prog_1_method_14_code 43 = .ok (.iconst 0, 1) := by decide +kernel
theorem zd_PW_leaveOut_44 : decode prog_1_method_14_code 44 = .ok (.ireturn, 1) := by decide +kernel
theorem zd_PW_isBlank_0 : decode prog_1_method_31_code 0 = .ok (.iload_n 0, 1) := by decide +kernel
theorem zd_PW_isBlank_1 : decode prog_1_method_31_code 1 = .ok (.ifCond .eq (33), 3) := by decide +kernel
theorem zd_PW_isBlank_4 : decode prog_1_method_31_code 4 = .ok (.iload_n 0, 1) := by decide +kernel
theorem zd_PW_isBlank_5 : decode prog_1_method_31_code 5 = .ok (.bipush (9), 2) := by decide +kernel
theorem zd_PW_isBlank_7 : decode prog_1_method_31_code 7 = .ok (.if_icmp .eq (27), 3) := by decide +kernel
theorem zd_PW_isBlank_10 : decode prog_1_method_31_code 10 = .ok (.iload_n 0, 1) := by decide +kernel
theorem zd_PW_isBlank_11 : decode prog_1_method_31_code 11 = .ok (.bipush (10), 2) := by decide +kernel
theorem zd_PW_isBlank_13 : decode prog_1_method_31_code 13 = .ok (.if_icmp .eq (21), 3) := by decide +kernel
theorem zd_PW_isBlank_16 : decode prog_1_method_31_code 16 = .ok (.iload_n 0, 1) := by decide +kernel
theorem zd_PW_isBlank_17 : decode prog_1_method_31_code 17 = .ok (.bipush (12), 2) := by decide +kernel
theorem zd_PW_isBlank_19 : decode prog_1_method_31_code 19 = .ok (.if_icmp .eq (15), 3) := by decide +kernel
theorem zd_PW_isBlank_22 : decode prog_1_method_31_code 22 = .ok (.iload_n 0, 1) := by decide +kernel
theorem zd_PW_isBlank_23 : decode prog_1_method_31_code 23 = .ok (.bipush (13), 2) := by decide +kernel
theorem zd_PW_isBlank_25 : decode prog_1_method_31_code 25 = .ok (.if_icmp .eq (9), 3) := by decide +kernel
theorem zd_PW_isBlank_28 : decode prog_1_method_31_code 28 = .ok (.iload_n 0, 1) := by decide +kernel
theorem zd_PW_isBlank_29 : decode prog_1_method_31_code 29 = .ok (.bipush (32), 2) := by decide +kernel
theorem zd_PW_isBlank_31 : decode prog_1_method_31_code 31 = .ok (.if_icmp .ne (7), 3) := by decide +kernel
theorem zd_PW_isBlank_34 : decode prog_1_method_31_code 34 = .ok (.iconst 1, 1) := by decide +kernel
theorem zd_PW_isBlank_35 : decode prog_1_method_31_code 35 = .ok (.goto (4), 3) := by decide +kernel
theorem zd_PW_isBlank_38 : decode prog_1_method_31_code 38 = .ok (.iconst 0, 1) := by decide +kernel
theorem zd_PW_isBlank_39 : decode prog_1_method_31_code 39 = .ok (.ireturn, 1) := by decide +kernel
theorem zd_PW_skipComment_0 : decode prog_1_method_16_code 0 = .ok (.aload_n 0, 1) := by decide +kernel
theorem zd_PW_skipComment_1 : decode prog_1_method_16_code 1 = .ok (.getfield 46, 3) := by decide +kernel
theorem zd_PW_skipComment_4 : decode prog_1_method_16_code 4 = .ok (.aload_n 0, 1) := by decide +kernel
theorem zd_PW_skipComment_5 : decode prog_1_method_16_code 5 = .ok (.getfield 10, 3) := by decide +kernel
theorem zd_PW_skipComment_8 : decode prog_1_method_16_code 8 = .ok (.invokevirtual 56, 3) := by decide +kernel
theorem zd_PW_skipComment_11 : decode prog_1_method_16_code 11 = .ok (.if_icmp .ge (33), 3) := by decide +kernel
theorem zd_PW_skipComment_14 : decode prog_1_method_16_code 14 = .ok (.aload_n 0, 1) := by decide +kernel
theorem zd_PW_skipComment_15 : decode prog_1_method_16_code 15 = .ok (.getfield 10, 3) := by decide +kernel
theorem zd_PW_skipComment_18 : decode prog_1_method_16_code 18 = .ok (.aload_n 0, 1) := by decide +kernel
theorem zd_PW_skipComment_19 : decode prog_1_method_16_code 19 = .ok (.getfield 46, 3) := by decide +kernel
theorem zd_PW_skipComment_22 : decode prog_1_method_16_code 22 = .ok (.invokevirtual 106, 3) := by decide +kernel
theorem zd_PW_skipComment_25 : decode prog_1_method_16_code 25 = .ok (.invokestatic 138, 3) := by decide +kernel
theorem zd_PW_skipComment_28 : decode prog_1_method_16_code 28 = .ok (.ifCond .ne (16), 3) := by decide +kernel
theorem zd_PW_skipComment_31 : decode prog_1_method_16_code 31 = .ok (.aload_n 0, 1) := by decide +kernel
theorem zd_PW_skipComment_32 : decode prog_1_method_16_code 32 = .ok (.dup, 1) := by decide +kernel
theorem zd_PW_skipComment_33 : decode prog_1_method_16_code 33 = .ok (.getfield 46, 3) := by decide +kernel
theorem zd_PW_skipComment_36 : decode prog_1_method_16_code 36 = .ok (.iconst 1, 1) := by decide +kernel
theorem zd_PW_skipComment_37 : decode prog_1_method_16_code 37 = .ok (.iadd, 1) := by decide +kernel
theorem zd_PW_skipComment_38 : decode prog_1_method_16_code 38 = .ok (.putfield 46, 3) := by decide +kernel
theorem zd_PW_skipComment_41 : decode prog_1_method_16_code 41 = .ok (.goto (-41), 3) := by decide +kernel
theorem zd_PW_skipComment_44 : decode prog_1_method_16_code 44 = .ok (.return_, 1) := by decide +kernel
theorem zd_PW_isLineEnd_0 : decode prog_1_method_32_code 0 = .ok (.iload_n 0, 1) := by decide +kernel
theorem zd_PW_isLineEnd_1 : decode prog_1_method_32_code 1 = .ok (.bipush (10), 2) := by decide +kernel
theorem zd_PW_isLineEnd_3 : decode prog_1_method_32_code 3 = .ok (.if_icmp .eq (9), 3) := by decide +kernel
theorem zd_PW_isLineEnd_6 : decode prog_1_method_32_code 6 = .ok (.iload_n 0, 1) := by decide +kernel
theorem zd_PW_isLineEnd_7 : decode prog_1_method_32_code 7 = .ok (.bipush (13), 2) := by decide +kernel
theorem zd_PW_isLineEnd_9 : decode prog_1_method_32_code 9 = .ok (.if_icmp .ne (7), 3) := by decide +kernel
theorem zd_PW_isLineEnd_12 : decode prog_1_method_32_code 12 = .ok (.iconst 1, 1) := by decide +kernel
theorem zd_PW_isLineEnd_13 : decode prog_1_method_32_code 13 = .ok (.goto (4), 3) := by decide +kernel
theorem zd_PW_isLineEnd_16 : decode prog_1_method_32_code 16 = .ok (.iconst 0, 1) := by decide +kernel
theorem zd_PW_isLineEnd_17 : decode prog_1_method_32_code 17 = .ok (.ireturn, 1) := by decide +kernel
theorem zd_PW_cutWord_0 : decode prog_1_method_15_code 0 = .ok (.aload_n 0, 1) := by decide +kernel
theorem zd_PW_cutWord_1 : decode prog_1_method_15_code 1 = .ok (.getfield 19, 3) := by decide +kernel
theorem zd_PW_cutWord_4 : decode prog_1_method_15_code 4 = .ok (.invokevirtual 82, 3) := by decide +kernel
theorem zd_PW_cutWord_7 : decode prog_1_method_15_code 7 = .ok (.sipush (16384), 3) := by decide +kernel
theorem zd_PW_cutWord_10 : decode prog_1_method_15_code 10 = .ok (.if_icmp .lt (14), 3) := by decide +kernel
theorem zd_PW_cutWord_13 : decode prog_1_method_15_code 13 = .ok (.aload_n 0, 1) := by decide +kernel
theorem zd_PW_cutWord_14 : decode prog_1_method_15_code 14 = .ok (.bipush (8), 2) := by decide +kernel
theorem zd_PW_cutWord_16 : decode prog_1_method_15_code 16 = .ok (.aload_n 0, 1) := by decide +kernel
theorem zd_PW_cutWord_17 : decode prog_1_method_15_code 17 = .ok (.getfield 46, 3) := by decide +kernel
theorem zd_PW_cutWord_20 : decode prog_1_method_15_code 20 = .ok (.invokevirtual 75, 3) := by decide +kernel
theorem zd_PW_cutWord_23 : decode prog_1_method_15_code 23 = .ok (.return_, 1) := by decide +kernel
theorem zd_PW_cutWord_24 : decode prog_1_method_15_code 24 = .ok (.aload_n 0, 1) := by decide +kernel
theorem zd_PW_cutWord_25 : decode prog_1_method_15_code 25 = .ok (.getfield 10, 3) := by decide +kernel
theorem zd_PW_cutWord_28 : decode prog_1_method_15_code 28 = .ok (.aload_n 0, 1) := by decide +kernel
theorem zd_PW_cutWord_29 : decode prog_1_method_15_code 29 = .ok (.getfield 46, 3) := by decide +kernel
theorem zd_PW_cutWord_32 : decode prog_1_method_15_code 32 = .ok (.invokevirtual 106, 3) := by decide +kernel
theorem zd_PW_cutWord_35 : decode prog_1_method_15_code 35 = .ok (.lookupswitch (150) #[(40, 81), (41, 138), (47, 131), (60, 88), (62, 88), (91, 95), (93, 95), (123, 117), (125, 124)], 81) := by decide +kernel
theorem zd_PW_cutWord_116 : decode prog_1_method_15_code 116 = .ok (.aload_n 0, 1) := by decide +kernel
theorem zd_PW_cutWord_117 : decode prog_1_method_15_code 117 = .ok (.invokevirtual 116, 3) := by decide +kernel
theorem zd_PW_cutWord_120 : decode prog_1_method_15_code 120 = .ok (.goto (69), 3) := by decide +kernel
theorem zd_PW_cutWord_123 : decode prog_1_method_15_code 123 = .ok (.aload_n 0, 1) := by decide +kernel
theorem zd_PW_cutWord_124 : decode prog_1_method_15_code 124 = .ok (.invokevirtual 119, 3) := by decide +kernel
theorem zd_PW_cutWord_127 : decode prog_1_method_15_code 127 = .ok (.goto (62), 3) := by decide +kernel
theorem zd_PW_cutWord_130 : decode prog_1_method_15_code 130 = .ok (.aload_n 0, 1) := by decide +kernel
theorem zd_PW_cutWord_131 : decode prog_1_method_15_code 131 = .ok (.iconst 3, 1) := by decide +kernel
theorem zd_PW_cutWord_132 : decode prog_1_method_15_code 132 = .ok (.aload_n 0, 1) := by decide +kernel
theorem zd_PW_cutWord_133 : decode prog_1_method_15_code 133 = .ok (.getfield 46, 3) := by decide +kernel
theorem zd_PW_cutWord_136 : decode prog_1_method_15_code 136 = .ok (.aload_n 0, 1) := by decide +kernel
theorem zd_PW_cutWord_137 : decode prog_1_method_15_code 137 = .ok (.getfield 46, 3) := by decide +kernel
theorem zd_PW_cutWord_140 : decode prog_1_method_15_code 140 = .ok (.aload_n 0, 1) := by decide +kernel
theorem zd_PW_cutWord_141 : decode prog_1_method_15_code 141 = .ok (.getfield 46, 3) := by decide +kernel
theorem zd_PW_cutWord_144 : decode prog_1_method_15_code 144 = .ok (.iconst 1, 1) := by decide +kernel
theorem zd_PW_cutWord_145 : decode prog_1_method_15_code 145 = .ok (.iadd, 1) := by decide +kernel
theorem zd_PW_cutWord_146 : decode prog_1_method_15_code 146 = .ok (.invokevirtual 122, 3) := by decide +kernel
theorem zd_PW_cutWord_149 : decode prog_1_method_15_code 149 = .ok (.goto (40), 3) := by decide +kernel
theorem zd_PW_cutWord_152 : decode prog_1_method_15_code 152 = .ok (.aload_n 0, 1) := by decide +kernel
theorem zd_PW_cutWord_153 : decode prog_1_method_15_code 153 = .ok (.invokevirtual 126, 3) := by decide +kernel
theorem zd_PW_cutWord_156 : decode prog_1_method_15_code 156 = .ok (.goto (33), 3) := by decide +kernel
theorem zd_PW_cutWord_159 : decode prog_1_method_15_code 159 = .ok (.aload_n 0, 1) := by decide +kernel
theorem zd_PW_cutWord_160 : decode prog_1_method_15_code 160 = .ok (.invokevirtual 129, 3) := by decide +kernel
theorem zd_PW_cutWord_163 : decode prog_1_method_15_code 163 = .ok (.goto (26), 3) := by decide +kernel
theorem zd_PW_cutWord_166 : decode prog_1_method_15_code 166 = .ok (.aload_n 0, 1) := by decide +kernel
theorem zd_PW_cutWord_167 : decode prog_1_method_15_code 167 = .ok (.invokevirtual 132, 3) := by decide +kernel
theorem zd_PW_cutWord_170 : decode prog_1_method_15_code 170 = .ok (.goto (19), 3) := by decide +kernel
theorem zd_PW_cutWord_173 : decode prog_1_method_15_code 173 = .ok (.aload_n 0, 1) := by decide +kernel
theorem zd_PW_cutWord_174 : decode prog_1_method_15_code 174 = .ok (.iconst 1, 1) := by decide +kernel
theorem zd_PW_cutWord_175 : decode prog_1_method_15_code 175 = .ok (.aload_n 0, 1) := by decide +kernel
theorem zd_PW_cutWord_176 : decode prog_1_method_15_code 176 = .ok (.getfield 46, 3) := by decide +kernel
theorem zd_PW_cutWord_179 : decode prog_1_method_15_code 179 = .ok (.invokevirtual 75, 3) := by decide +kernel
theorem zd_PW_cutWord_182 : decode prog_1_method_15_code 182 = .ok (.goto (7), 3) := by decide +kernel
theorem zd_PW_cutWord_185 : decode prog_1_method_15_code 185 = .ok (.aload_n 0, 1) := by decide +kernel
theorem zd_PW_cutWord_186 : decode prog_1_method_15_code 186 = .ok (.invokevirtual 135, 3) := by decide +kernel
theorem zd_PW_cutWord_189 : decode prog_1_method_15_code 189 = .ok (.return_, 1) := by decide +kernel
theorem zd_PW_goWrong_0 : decode prog_1_method_13_code 0 = .ok (.aload_n 0, 1) := by decide +kernel
theorem zd_PW_goWrong_1 : decode prog_1_method_13_code 1 = .ok (.iload_n 1, 1) := by decide +kernel
theorem zd_PW_goWrong_2 : decode prog_1_method_13_code 2 = .ok (.putfield 50, 3) := by decide +kernel
theorem zd_PW_goWrong_5 : decode prog_1_method_13_code 5 = .ok (.aload_n 0, 1) := by decide +kernel
theorem zd_PW_goWrong_6 : decode prog_1_method_13_code 6 = .ok (.iload_n 2, 1) := by decide +kernel
theorem zd_PW_goWrong_7 : decode prog_1_method_13_code 7 = .ok (.putfield 53, 3) := by decide +kernel
theorem zd_PW_goWrong_10 : decode prog_1_method_13_code 10 = .ok (.return_, 1) := by decide +kernel
theorem zd_PW_cutBracketText_0 : decode prog_1_method_25_code 0 = .ok (.aload_n 0, 1) := by decide +kernel
theorem zd_PW_cutBracketText_1 : decode prog_1_method_25_code 1 = .ok (.getfield 46, 3) := by decide +kernel
theorem zd_PW_cutBracketText_4 : decode prog_1_method_25_code 4 = .ok (.istore_n 1, 1) := by decide +kernel
theorem zd_PW_cutBracketText_5 : decode prog_1_method_25_code 5 = .ok (.aload_n 0, 1) := by decide +kernel
theorem zd_PW_cutBracketText_6 : decode prog_1_method_25_code 6 = .ok (.getfield 10, 3) := by decide +kernel
theorem zd_PW_cutBracketText_9 : decode prog_1_method_25_code 9 = .ok (.invokevirtual 56, 3) := by decide +kernel
theorem zd_PW_cutBracketText_12 : decode prog_1_method_25_code 12 = .ok (.istore_n 2, 1) := by decide +kernel
theorem zd_PW_cutBracketText_13 : decode prog_1_method_25_code 13 = .ok (.iconst 1, 1) := by decide +kernel
theorem zd_PW_cutBracketText_14 : decode prog_1_method_25_code 14 = .ok (.istore_n 3, 1) := by decide +kernel
theorem zd_PW_cutBracketText_15 : decode prog_1_method_25_code 15 = .ok (.aload_n 0, 1) := by decide +kernel
theorem zd_PW_cutBracketText_16 : decode prog_1_method_25_code 16 = .ok (.dup, 1) := by decide +kernel
theorem zd_PW_cutBracketText_17 : decode prog_1_method_25_code 17 = .ok (.getfield 46, 3) := by decide +kernel
theorem zd_PW_cutBracketText_20 : decode prog_1_method_25_code 20 = .ok (.iconst 1, 1) := by decide +kernel
theorem zd_PW_cutBracketText_21 : decode prog_1_method_25_code 21 = .ok (.iadd, 1) := by decide +kernel
theorem zd_PW_cutBracketText_22 : decode prog_1_method_25_code 22 = .ok (.putfield 46, 3) := by decide +kernel
theorem zd_PW_cutBracketText_25 : decode prog_1_method_25_code 25 = .ok (.iconst 0, 1) := by decide +kernel
theorem zd_PW_cutBracketText_26 : decode prog_1_method_25_code 26 = .ok (.istore 4, 2) := by decide +kernel
theorem zd_PW_cutBracketText_28 : decode prog_1_method_25_code 28 = .ok (.iload 4, 2) := by decide +kernel
theorem zd_PW_cutBracketText_30 : decode prog_1_method_25_code 30 = .ok (.iload_n 2, 1) := by decide +kernel
theorem zd_PW_cutBracketText_31 : decode prog_1_method_25_code 31 = .ok (.if_icmp .ge (120), 3) := by decide +kernel
theorem zd_PW_cutBracketText_34 : decode prog_1_method_25_code 34 = .ok (.aload_n 0, 1) := by decide +kernel
theorem zd_PW_cutBracketText_35 : decode prog_1_method_25_code 35 = .ok (.getfield 46, 3) := by decide +kernel
theorem zd_PW_cutBracketText_38 : decode prog_1_method_25_code 38 = .ok (.iload_n 2, 1) := by decide +kernel
theorem zd_PW_cutBracketText_39 : decode prog_1_method_25_code 39 = .ok (.if_icmp .ge (112), 3) := by decide +kernel
theorem zd_PW_cutBracketText_42 : decode prog_1_method_25_code 42 = .ok (.aload_n 0, 1) := by decide +kernel
theorem zd_PW_cutBracketText_43 : decode prog_1_method_25_code 43 = .ok (.getfield 10, 3) := by decide +kernel
theorem zd_PW_cutBracketText_46 : decode prog_1_method_25_code 46 = .ok (.aload_n 0, 1) := by decide +kernel
theorem zd_PW_cutBracketText_47 : decode prog_1_method_25_code 47 = .ok (.getfield 46, 3) := by decide +kernel
theorem zd_PW_cutBracketText_50 : decode prog_1_method_25_code 50 = .ok (.invokevirtual 106, 3) := by decide +kernel
theorem zd_PW_cutBracketText_53 : decode prog_1_method_25_code 53 = .ok (.istore 5, 2) := by decide +kernel
theorem zd_PW_cutBracketText_55 : decode prog_1_method_25_code 55 = .ok (.iload_n 3, 1) := by decide +kernel
theorem zd_PW_cutBracketText_56 : decode prog_1_method_25_code 56 = .ok (.iload 5, 2) := by decide +kernel
theorem zd_PW_cutBracketText_58 : decode prog_1_method_25_code 58 = .ok (.bipush (40), 2) := by decide +kernel
theorem zd_PW_cutBracketText_60 : decode prog_1_method_25_code 60 = .ok (.if_icmp .ne (7), 3) := by decide +kernel
theorem zd_PW_cutBracketText_63 : decode prog_1_method_25_code 63 = .ok (.iconst 1, 1) := by decide +kernel
theorem zd_PW_cutBracketText_64 : decode prog_1_method_25_code 64 = .ok (.goto (15), 3) := by decide +kernel
theorem zd_PW_cutBracketText_67 : decode prog_1_method_25_code 67 = .ok (.iload 5, 2) := by decide +kernel
theorem zd_PW_cutBracketText_69 : decode prog_1_method_25_code 69 = .ok (.bipush (41), 2) := by decide +kernel
theorem zd_PW_cutBracketText_71 : decode prog_1_method_25_code 71 = .ok (.if_icmp .ne (7), 3) := by decide +kernel
theorem zd_PW_cutBracketText_74 : decode prog_1_method_25_code 74 = .ok (.iconst (-1), 1) := by decide +kernel
theorem zd_PW_cutBracketText_75 : decode prog_1_method_25_code 75 = .ok (.goto (4), 3) := by decide +kernel
theorem zd_PW_cutBracketText_78 : decode prog_1_method_25_code 78 = .ok (.iconst 0, 1) := by decide +kernel
theorem zd_PW_cutBracketText_79 : decode prog_1_method_25_code 79 = .ok (.iadd, 1) := by decide +kernel
theorem zd_PW_cutBracketText_80 : decode prog_1_method_25_code 80 = .ok (.istore_n 3, 1) := by decide +kernel
theorem zd_PW_cutBracketText_81 : decode prog_1_method_25_code 81 = .ok (.iload_n 3, 1) := by decide +kernel
theorem zd_PW_cutBracketText_82 : decode prog_1_method_25_code 82 = .ok (.ifCond .ne (6), 3) := by decide +kernel
theorem zd_PW_cutBracketText_85 : decode prog_1_method_25_code 85 = .ok (.goto (66), 3) := by decide +kernel
theorem zd_PW_cutBracketText_88 : decode prog_1_method_25_code 88 = .ok (.iload 5, 2) := by decide +kernel
theorem zd_PW_cutBracketText_90 : decode prog_1_method_25_code 90 = .ok (.bipush (92), 2) := by decide +kernel
theorem zd_PW_cutBracketText_92 : decode prog_1_method_25_code 92 = .ok (.if_icmp .ne (10), 3) := by decide +kernel
theorem zd_PW_cutBracketText_95 : decode prog_1_method_25_code 95 = .ok (.aload_n 0, 1) := by decide +kernel
theorem zd_PW_cutBracketText_96 : decode prog_1_method_25_code 96 = .ok (.invokevirtual 181, 3) := by decide +kernel
theorem zd_PW_cutBracketText_99 : decode prog_1_method_25_code 99 = .ok (.goto (46), 3) := by decide +kernel
theorem zd_PW_cutBracketText_102 : decode prog_1_method_25_code 102 = .ok (.iload 5, 2) := by decide +kernel
theorem zd_PW_cutBracketText_104 : decode prog_1_method_25_code 104 = .ok (.invokestatic 138, 3) := by decide +kernel
theorem zd_PW_cutBracketText_107 : decode prog_1_method_25_code 107 = .ok (.ifCond .eq (19), 3) := by decide +kernel
theorem zd_PW_cutBracketText_110 : decode prog_1_method_25_code 110 = .ok (.aload_n 0, 1) := by decide +kernel
theorem zd_PW_cutBracketText_111 : decode prog_1_method_25_code 111 = .ok (.invokevirtual 184, 3) := by decide +kernel
theorem zd_PW_cutBracketText_114 : decode prog_1_method_25_code 114 = .ok (.aload_n 0, 1) := by decide +kernel
theorem zd_PW_cutBracketText_115 : decode prog_1_method_25_code 115 = .ok (.getfield 26, 3) := by decide +kernel
theorem zd_PW_cutBracketText_118 : decode prog_1_method_25_code 118 = .ok (.bipush (10), 2) := by decide +kernel
theorem zd_PW_cutBracketText_120 : decode prog_1_method_25_code 120 = .ok (.invokevirtual 160, 3) := by decide +kernel
theorem zd_PW_cutBracketText_123 : decode prog_1_method_25_code 123 = .ok (.goto (22), 3) := by decide +kernel
theorem zd_PW_cutBracketText_126 : decode prog_1_method_25_code 126 = .ok (.aload_n 0, 1) := by decide +kernel
theorem zd_PW_cutBracketText_127 : decode prog_1_method_25_code 127 = .ok (.dup, 1) := by decide +kernel
theorem zd_PW_cutBracketText_128 : decode prog_1_method_25_code 128 = .ok (.getfield 46, 3) := by decide +kernel
theorem zd_PW_cutBracketText_131 : decode prog_1_method_25_code 131 = .ok (.iconst 1, 1) := by decide +kernel
theorem zd_PW_cutBracketText_132 : decode prog_1_method_25_code 132 = .ok (.iadd, 1) := by decide +kernel
theorem zd_PW_cutBracketText_133 : decode prog_1_method_25_code 133 = .ok (.putfield 46, 3) := by decide +kernel
theorem zd_PW_cutBracketText_136 : decode prog_1_method_25_code 136 = .ok (.aload_n 0, 1) := by decide +kernel
theorem zd_PW_cutBracketText_137 : decode prog_1_method_25_code 137 = .ok (.getfield 26, 3) := by decide +kernel
theorem zd_PW_cutBracketText_140 : decode prog_1_method_25_code 140 = .ok (.iload 5, 2) := by decide +kernel
theorem zd_PW_cutBracketText_142 : decode prog_1_method_25_code 142 = .ok (.invokevirtual 160, 3) := by decide +kernel
theorem zd_PW_cutBracketText_145 : decode prog_1_method_25_code 145 = .ok (.iinc 4 (1), 3) := by decide +kernel
theorem zd_PW_cutBracketText_148 : decode prog_1_method_25_code 148 = .ok (.goto (-120), 3) := by decide +kernel
theorem zd_PW_cutBracketText_151 : decode prog_1_method_25_code 151 = .ok (.aload_n 0, 1) := by decide +kernel
theorem zd_PW_cutBracketText_152 : decode prog_1_method_25_code 152 = .ok (.iload_n 1, 1) := by decide +kernel
theorem zd_PW_cutBracketText_153 : decode prog_1_method_25_code 153 = .ok (.iload_n 3, 1) := by decide +kernel
theorem zd_PW_cutBracketText_154 : decode prog_1_method_25_code 154 = .ok (.ifCond .ne (7), 3) := by decide +kernel
theorem zd_PW_cutBracketText_157 : decode prog_1_method_25_code 157 = .ok (.iconst 1, 1) := by decide +kernel
theorem zd_PW_cutBracketText_158 : decode prog_1_method_25_code 158 = .ok (.goto (4), 3) := by decide +kernel
theorem zd_PW_cutBracketText_161 : decode prog_1_method_25_code 161 = .ok (.iconst 0, 1) := by decide +kernel
theorem zd_PW_cutBracketText_162 : decode prog_1_method_25_code 162 = .ok (.invokevirtual 177, 3) := by decide +kernel
theorem zd_PW_cutBracketText_165 : decode prog_1_method_25_code 165 = .ok (.return_, 1) := by decide +kernel
theorem zd_PW_takeEscaped_0 : decode prog_1_method_26_code 0 = .ok (.aload_n 0, 1) := by decide +kernel
theorem zd_PW_takeEscaped_1 : decode prog_1_method_26_code 1 = .ok (.dup, 1) := by decide +kernel
theorem zd_PW_takeEscaped_2 : decode prog_1_method_26_code 2 = .ok (.getfield 46, 3) := by decide +kernel
theorem zd_PW_takeEscaped_5 : decode prog_1_method_26_code 5 = .ok (.iconst 1, 1) := by decide +kernel
theorem zd_PW_takeEscaped_6 : decode prog_1_method_26_code 6 = .ok (.iadd, 1) := by decide +kernel
theorem zd_PW_takeEscaped_7 : decode prog_1_method_26_code 7 = .ok (.putfield 46, 3) := by decide +kernel
theorem zd_PW_takeEscaped_10 : decode prog_1_method_26_code 10 = .ok (.aload_n 0, 1) := by decide +kernel
theorem zd_PW_takeEscaped_11 : decode prog_1_method_26_code 11 = .ok (.getfield 10, 3) := by decide +kernel
theorem zd_PW_takeEscaped_14 : decode prog_1_method_26_code 14 = .ok (.aload_n 0, 1) := by decide +kernel
theorem zd_PW_takeEscaped_15 : decode prog_1_method_26_code 15 = .ok (.getfield 46, 3) := by decide +kernel
theorem zd_PW_takeEscaped_18 : decode prog_1_method_26_code 18 = .ok (.invokevirtual 106, 3) := by decide +kernel
theorem zd_PW_takeEscaped_21 : decode prog_1_method_26_code 21 = .ok (.istore_n 1, 1) := by decide +kernel
theorem zd_PW_takeEscaped_22 : decode prog_1_method_26_code 22 = .ok (.iload_n 1, 1) := by decide +kernel
theorem zd_PW_takeEscaped_23 : decode prog_1_method_26_code 23 = .ok (.invokestatic 138, 3) := by decide +kernel
theorem zd_PW_takeEscaped_26 : decode prog_1_method_26_code 26 = .ok (.ifCond .eq (10), 3) := by decide +kernel
theorem zd_PW_takeEscaped_29 : decode prog_1_method_26_code 29 = .ok (.aload_n 0, 1) := by decide +kernel
theorem zd_PW_takeEscaped_30 : decode prog_1_method_26_code 30 = .ok (.invokevirtual 184, 3) := by decide +kernel
theorem zd_PW_takeEscaped_33 : decode prog_1_method_26_code 33 = .ok (.goto (50), 3) := by decide +kernel
theorem zd_PW_takeEscaped_36 : decode prog_1_method_26_code 36 = .ok (.iload_n 1, 1) := by decide +kernel
theorem zd_PW_takeEscaped_37 : decode prog_1_method_26_code 37 = .ok (.invokestatic 187, 3) := by decide +kernel
theorem zd_PW_takeEscaped_40 : decode prog_1_method_26_code 40 = .ok (.ifCond .eq (17), 3) := by decide +kernel
theorem zd_PW_takeEscaped_43 : decode prog_1_method_26_code 43 = .ok (.aload_n 0, 1) := by decide +kernel
theorem zd_PW_takeEscaped_44 : decode prog_1_method_26_code 44 = .ok (.getfield 26, 3) := by decide +kernel
theorem zd_PW_takeEscaped_47 : decode prog_1_method_26_code 47 = .ok (.aload_n 0, 1) := by decide +kernel
theorem zd_PW_takeEscaped_48 : decode prog_1_method_26_code 48 = .ok (.invokevirtual 190, 3) := by decide +kernel
theorem zd_PW_takeEscaped_51 : decode prog_1_method_26_code 51 = .ok (.invokevirtual 160, 3) := by decide +kernel
theorem zd_PW_takeEscaped_54 : decode prog_1_method_26_code 54 = .ok (.goto (29), 3) := by decide +kernel
theorem zd_PW_takeEscaped_57 : decode prog_1_method_26_code 57 = .ok (.iload_n 1, 1) := by decide +kernel
theorem zd_PW_takeEscaped_58 : decode prog_1_method_26_code 58 = .ok (.iconst (-1), 1) := by decide +kernel
theorem zd_PW_takeEscaped_59 : decode prog_1_method_26_code 59 = .ok (.if_icmp .eq (24), 3) := by decide +kernel
theorem zd_PW_takeEscaped_62 : decode prog_1_method_26_code 62 = .ok (.aload_n 0, 1) := by decide +kernel
theorem zd_PW_takeEscaped_63 : decode prog_1_method_26_code 63 = .ok (.dup, 1) := by decide +kernel
theorem zd_PW_takeEscaped_64 : decode prog_1_method_26_code 64 = .ok (.getfield 46, 3) := by decide +kernel
theorem zd_PW_takeEscaped_67 : decode prog_1_method_26_code 67 = .ok (.iconst 1, 1) := by decide +kernel
theorem zd_PW_takeEscaped_68 : decode prog_1_method_26_code 68 = .ok (.iadd, 1) := by decide +kernel
theorem zd_PW_takeEscaped_69 : decode prog_1_method_26_code 69 = .ok (.putfield 46, 3) := by decide +kernel
theorem zd_PW_takeEscaped_72 : decode prog_1_method_26_code 72 = .ok (.aload_n 0, 1) := by decide +kernel
theorem zd_PW_takeEscaped_73 : decode prog_1_method_26_code 73 = .ok (.getfield 26, 3) := by decide +kernel
theorem zd_PW_takeEscaped_76 : decode prog_1_method_26_code 76 = .ok (.iload_n 1, 1) := by decide +kernel
theorem zd_PW_takeEscaped_77 : decode prog_1_method_26_code 77 = .ok (.invokestatic 193, 3) := by decide +kernel
theorem zd_PW_takeEscaped_80 : decode prog_1_method_26_code 80 = .ok (.invokevirtual 160, 3) := by decide +kernel
theorem zd_PW_takeEscaped_83 : decode prog_1_method_26_code 83 = .ok (.return_, 1) := by decide +kernel
theorem zd_PW_skipLineEnd_0 : decode prog_1_method_28_code 0 = .ok (.aload_n 0, 1) := by decide +kernel
theorem zd_PW_skipLineEnd_1 : decode prog_1_method_28_code 1 = .ok (.getfield 10, 3) := by decide +kernel
theorem zd_PW_skipLineEnd_4 : decode prog_1_method_28_code 4 = .ok (.aload_n 0, 1) := by decide +kernel
theorem zd_PW_skipLineEnd_5 : decode prog_1_method_28_code 5 = .ok (.getfield 46, 3) := by decide +kernel
theorem zd_PW_skipLineEnd_8 : decode prog_1_method_28_code 8 = .ok (.invokevirtual 106, 3) := by decide +kernel
theorem zd_PW_skipLineEnd_11 : decode prog_1_method_28_code 11 = .ok (.bipush (13), 2) := by decide +kernel
theorem zd_PW_skipLineEnd_13 : decode prog_1_method_28_code 13 = .ok (.if_icmp .ne (25), 3) := by decide +kernel
theorem zd_PW_skipLineEnd_16 : decode prog_1_method_28_code 16 = .ok (.aload_n 0, 1) := by decide +kernel
theorem zd_PW_skipLineEnd_17 : decode prog_1_method_28_code 17 = .ok (.getfield 10, 3) := by decide +kernel
theorem zd_PW_skipLineEnd_20 : decode prog_1_method_28_code 20 = .ok (.aload_n 0, 1) := by decide +kernel
theorem zd_PW_skipLineEnd_21 : decode prog_1_method_28_code 21 = .ok (.getfield 46, 3) := by decide +kernel
theorem zd_PW_skipLineEnd_24 : decode prog_1_method_28_code 24 = .ok (.iconst 1, 1) := by decide +kernel
theorem zd_PW_skipLineEnd_25 : decode prog_1_method_28_code 25 = .ok (.iadd, 1) := by decide +kernel
theorem zd_PW_skipLineEnd_26 : decode prog_1_method_28_code 26 = .ok (.invokevirtual 106, 3) := by decide +kernel
theorem zd_PW_skipLineEnd_29 : decode prog_1_method_28_code 29 = .ok (.bipush (10), 2) := by decide +kernel
theorem zd_PW_skipLineEnd_31 : decode prog_1_method_28_code 31 = .ok (.if_icmp .ne (7), 3) := by decide +kernel
theorem zd_PW_skipLineEnd_34 : decode prog_1_method_28_code 34 = .ok (.iconst 1, 1) := by decide +kernel
theorem zd_PW_skipLineEnd_35 : decode prog_1_method_28_code 35 = .ok (.goto (4), 3) := by decide +kernel
theorem zd_PW_skipLineEnd_38 : decode prog_1_method_28_code 38 = .ok (.iconst 0, 1) := by decide +kernel
theorem zd_PW_skipLineEnd_39 : decode prog_1_method_28_code 39 = .ok (.istore_n 1, 1) := by decide +kernel
theorem zd_PW_skipLineEnd_40 : decode prog_1_method_28_code 40 = .ok (.aload_n 0, 1) := by decide +kernel
theorem zd_PW_skipLineEnd_41 : decode prog_1_method_28_code 41 = .ok (.dup, 1) := by decide +kernel
theorem zd_PW_skipLineEnd_42 : decode prog_1_method_28_code 42 = .ok (.getfield 46, 3) := by decide +kernel
theorem zd_PW_skipLineEnd_45 : decode prog_1_method_28_code 45 = .ok (.iload_n 1, 1) := by decide +kernel
theorem zd_PW_skipLineEnd_46 : decode prog_1_method_28_code 46 = .ok (.ifCond .eq (7), 3) := by decide +kernel
theorem zd_PW_skipLineEnd_49 : decode prog_1_method_28_code 49 = .ok (.iconst 2, 1) := by decide +kernel
theorem zd_PW_skipLineEnd_50 : decode prog_1_method_28_code 50 = .ok (.goto (4), 3) := by decide +kernel
theorem zd_PW_skipLineEnd_53 : decode prog_1_method_28_code 53 = .ok (.iconst 1, 1) := by decide +kernel
theorem zd_PW_skipLineEnd_54 : decode prog_1_method_28_code 54 = .ok (.iadd, 1) := by decide +kernel
theorem zd_PW_skipLineEnd_55 : decode prog_1_method_28_code 55 = .ok (.putfield 46, 3) := by decide +kernel
theorem zd_PW_skipLineEnd_58 : decode prog_1_method_28_code 58 = .ok (.return_, 1) := by decide +kernel
theorem zd_PW_isOctal_0 : decode prog_1_method_35_code 0 = .ok (.iload_n 0, 1) := by decide +kernel
theorem zd_PW_isOctal_1 : decode prog_1_method_35_code 1 = .ok (.bipush (48), 2) := by decide +kernel
theorem zd_PW_isOctal_3 : decode prog_1_method_35_code 3 = .ok (.if_icmp .lt (13), 3) := by decide +kernel
theorem zd_PW_isOctal_6 : decode prog_1_method_35_code 6 = .ok (.iload_n 0, 1) := by decide +kernel
theorem zd_PW_isOctal_7 : decode prog_1_method_35_code 7 = .ok (.bipush (55), 2) := by decide +kernel
theorem zd_PW_isOctal_9 : decode prog_1_method_35_code 9 = .ok (.if_icmp .gt (7), 3) := by decide +kernel
theorem zd_PW_isOctal_12 : decode prog_1_method_35_code 12 = .ok (.iconst 1, 1) := by decide +kernel
theorem zd_PW_isOctal_13 : decode prog_1_method_35_code 13 = .ok (.goto (4), 3) := by decide +kernel
theorem zd_PW_isOctal_16 : decode prog_1_method_35_code 16 = .ok (.iconst 0, 1) := by decide +kernel
theorem zd_PW_isOctal_17 : decode prog_1_method_35_code 17 = .ok (.ireturn, 1) := by decide +kernel
theorem zd_PW_readOctal_0 : decode prog_1_method_27_code 0 = .ok (.iconst 0, 1) := by decide +kernel
theorem zd_PW_readOctal_1 : decode prog_1_method_27_code 1 = .ok (.istore_n 1, 1) := by decide +kernel
theorem zd_PW_readOctal_2 : decode prog_1_method_27_code 2 = .ok (.iconst 0, 1) := by decide +kernel
theorem zd_PW_readOctal_3 : decode prog_1_method_27_code 3 = .ok (.istore_n 2, 1) := by decide +kernel
theorem zd_PW_readOctal_4 : decode prog_1_method_27_code 4 = .ok (.iload_n 2, 1) := by decide +kernel
theorem zd_PW_readOctal_5 : decode prog_1_method_27_code 5 = .ok (.iconst 3, 1) := by decide +kernel
theorem zd_PW_readOctal_6 : decode prog_1_method_27_code 6 = .ok (.if_icmp .ge (56), 3) := by decide +kernel
theorem zd_PW_readOctal_9 : decode prog_1_method_27_code 9 = .ok (.aload_n 0, 1) := by decide +kernel
theorem zd_PW_readOctal_10 : decode prog_1_method_27_code 10 = .ok (.getfield 10, 3) := by decide +kernel
theorem zd_PW_readOctal_13 : decode prog_1_method_27_code 13 = .ok (.aload_n 0, 1) := by decide +kernel
theorem zd_PW_readOctal_14 : decode prog_1_method_27_code 14 = .ok (.getfield 46, 3) := by decide +kernel
theorem zd_PW_readOctal_17 : decode prog_1_method_27_code 17 = .ok (.invokevirtual 106, 3) := by decide +kernel
theorem zd_PW_readOctal_20 : decode prog_1_method_27_code 20 = .ok (.invokestatic 187, 3) := by decide +kernel
theorem zd_PW_readOctal_23 : decode prog_1_method_27_code 23 = .ok (.ifCond .eq (39), 3) := by decide +kernel
theorem zd_PW_readOctal_26 : decode prog_1_method_27_code 26 = .ok (.bipush (8), 2) := by decide +kernel
theorem zd_PW_readOctal_28 : decode prog_1_method_27_code 28 = .ok (.iload_n 1, 1) := by decide +kernel
theorem zd_PW_readOctal_29 : decode prog_1_method_27_code 29 = .ok (.imul, 1) := by decide +kernel
theorem zd_PW_readOctal_30 : decode prog_1_method_27_code 30 = .ok (.aload_n 0, 1) := by decide +kernel
theorem zd_PW_readOctal_31 : decode prog_1_method_27_code 31 = .ok (.getfield 10, 3) := by decide +kernel
theorem zd_PW_readOctal_34 : decode prog_1_method_27_code 34 = .ok (.aload_n 0, 1) := by decide +kernel
theorem zd_PW_readOctal_35 : decode prog_1_method_27_code 35 = .ok (.getfield 46, 3) := by decide +kernel
theorem zd_PW_readOctal_38 : decode prog_1_method_27_code 38 = .ok (.invokevirtual 106, 3) := by decide +kernel
theorem zd_PW_readOctal_41 : decode prog_1_method_27_code 41 = .ok (.iadd, 1) := by decide +kernel
theorem zd_PW_readOctal_42 : decode prog_1_method_27_code 42 = .ok (.bipush (48), 2) := by decide +kernel
theorem zd_PW_readOctal_44 : decode prog_1_method_27_code 44 = .ok (.isub, 1) := by decide +kernel
theorem zd_PW_readOctal_45 : decode prog_1_method_27_code 45 = .ok (.istore_n 1, 1) := by decide +kernel
theorem zd_PW_readOctal_46 : decode prog_1_method_27_code 46 = .ok (.aload_n 0, 1) := by decide +kernel
theorem zd_PW_readOctal_47 : decode prog_1_method_27_code 47 = .ok (.dup, 1) := by decide +kernel
theorem zd_PW_readOctal_48 : decode prog_1_method_27_code 48 = .ok (.getfield 46, 3) := by decide +kernel
theorem zd_PW_readOctal_51 : decode prog_1_method_27_code 51 = .ok (.iconst 1, 1) := by decide +kernel
theorem zd_PW_readOctal_52 : decode prog_1_method_27_code 52 = .ok (.iadd, 1) := by decide +kernel
theorem zd_PW_readOctal_53 : decode prog_1_method_27_code 53 = .ok (.putfield 46, 3) := by decide +kernel
theorem zd_PW_readOctal_56 : decode prog_1_method_27_code 56 = .ok (.iinc 2 (1), 3) := by decide +kernel
theorem zd_PW_readOctal_59 : decode prog_1_method_27_code 59 = .ok (.goto (-55), 3) := by decide +kernel
theorem zd_PW_readOctal_62 : decode prog_1_method_27_code 62 = .ok (.iload_n 1, 1) := by decide +kernel
theorem zd_PW_readOctal_63 : decode prog_1_method_27_code 63 = .ok (.ireturn, 1) := by decide +kernel
theorem zd_PW_meant_0 : decode prog_1_method_30_code 0 = .ok (.iload_n 0, 1) := by decide +kernel
theorem zd_PW_meant_1 : decode prog_1_method_30_code 1 = .ok (.lookupswitch (66) #[(98, 60), (102, 63), (110, 51), (114, 54), (116, 57)], 51) := by decide +kernel
theorem zd_PW_meant_52 : decode prog_1_method_30_code 52 = .ok (.bipush (10), 2) := by decide +kernel
theorem zd_PW_meant_54 : decode prog_1_method_30_code 54 = .ok (.ireturn, 1) := by decide +kernel
theorem zd_PW_meant_55 : decode prog_1_method_30_code 55 = .ok (.bipush (13), 2) := by decide +kernel
theorem zd_PW_meant_57 : decode prog_1_method_30_code 57 = .ok (.ireturn, 1) := by decide +kernel
theorem zd_PW_meant_58 : decode prog_1_method_30_code 58 = .ok (.bipush (9), 2) := by decide +kernel
theorem zd_PW_meant_60 : decode prog_1_method_30_code 60 = .ok (.ireturn, 1) := by decide +kernel
theorem zd_PW_meant_61 : decode prog_1_method_30_code 61 = .ok (.bipush (8), 2) := by decide +kernel
theorem zd_PW_meant_63 : decode prog_1_method_30_code 63 = .ok (.ireturn, 1) := by decide +kernel
theorem zd_PW_meant_64 : decode prog_1_method_30_code 64 = .ok (.bipush (12), 2) := by decide +kernel
theorem zd_PW_meant_66 : decode prog_1_method_30_code 66 = .ok (.ireturn, 1) := by decide +kernel
theorem zd_PW_meant_67 : decode prog_1_method_30_code 67 = .ok (.iload_n 0, 1) := by decide +kernel
theorem zd_PW_meant_68 : decode prog_1_method_30_code 68 = .ok (.ireturn, 1) := by decide +kernel
theorem zd_PW_endText_0 : decode prog_1_method_29_code 0 = .ok (.iload_n 2, 1) := by decide +kernel
theorem zd_PW_endText_1 : decode prog_1_method_29_code 1 = .ok (.ifCond .eq (32), 3) := by decide +kernel
theorem zd_PW_endText_4 : decode prog_1_method_29_code 4 = .ok (.aload_n 0, 1) := by decide +kernel
theorem zd_PW_endText_5 : decode prog_1_method_29_code 5 = .ok (.getfield 19, 3) := by decide +kernel
theorem zd_PW_endText_8 : decode prog_1_method_29_code 8 = .ok (.iconst 5, 1) := by decide +kernel
theorem zd_PW_endText_9 : decode prog_1_method_29_code 9 = .ok (.aload_n 0, 1) := by decide +kernel
theorem zd_PW_endText_10 : decode prog_1_method_29_code 10 = .ok (.getfield 26, 3) := by decide +kernel
theorem zd_PW_endText_13 : decode prog_1_method_29_code 13 = .ok (.invokevirtual 163, 3) := by decide +kernel
theorem zd_PW_endText_16 : decode prog_1_method_29_code 16 = .ok (.iload_n 1, 1) := by decide +kernel
theorem zd_PW_endText_17 : decode prog_1_method_29_code 17 = .ok (.invokevirtual 154, 3) := by decide +kernel
theorem zd_PW_endText_20 : decode prog_1_method_29_code 20 = .ok (.aload_n 0, 1) := by decide +kernel
theorem zd_PW_endText_21 : decode prog_1_method_29_code 21 = .ok (.dup, 1) := by decide +kernel
theorem zd_PW_endText_22 : decode prog_1_method_29_code 22 = .ok (.getfield 46, 3) := by decide +kernel
theorem zd_PW_endText_25 : decode prog_1_method_29_code 25 = .ok (.iconst 1, 1) := by decide +kernel
theorem zd_PW_endText_26 : decode prog_1_method_29_code 26 = .ok (.iadd, 1) := by decide +kernel
theorem zd_PW_endText_27 : decode prog_1_method_29_code 27 = .ok (.putfield 46, 3) := by decide +kernel
theorem zd_PW_endText_30 : decode prog_1_method_29_code 30 = .ok (.goto (15), 3) := by decide +kernel
theorem zd_PW_endText_33 : decode prog_1_method_29_code 33 = .ok (.aload_n 0, 1) := by decide +kernel
theorem zd_PW_endText_34 : decode prog_1_method_29_code 34 = .ok (.iconst 2, 1) := by decide +kernel
theorem zd_PW_endText_35 : decode prog_1_method_29_code 35 = .ok (.aload_n 0, 1) := by decide +kernel
theorem zd_PW_endText_36 : decode prog_1_method_29_code 36 = .ok (.getfield 10, 3) := by decide +kernel
theorem zd_PW_endText_39 : decode prog_1_method_29_code 39 = .ok (.invokevirtual 56, 3) := by decide +kernel
theorem zd_PW_endText_42 : decode prog_1_method_29_code 42 = .ok (.invokevirtual 75, 3) := by decide +kernel
theorem zd_PW_endText_45 : decode prog_1_method_29_code 45 = .ok (.return_, 1) := by decide +kernel
theorem zd_PW_cutAngle_0 : decode prog_1_method_23_code 0 = .ok (.aload_n 0, 1) := by decide +kernel
theorem zd_PW_cutAngle_1 : decode prog_1_method_23_code 1 = .ok (.getfield 10, 3) := by decide +kernel
theorem zd_PW_cutAngle_4 : decode prog_1_method_23_code 4 = .ok (.aload_n 0, 1) := by decide +kernel
theorem zd_PW_cutAngle_5 : decode prog_1_method_23_code 5 = .ok (.getfield 46, 3) := by decide +kernel
theorem zd_PW_cutAngle_8 : decode prog_1_method_23_code 8 = .ok (.invokevirtual 106, 3) := by decide +kernel
theorem zd_PW_cutAngle_11 : decode prog_1_method_23_code 11 = .ok (.istore_n 1, 1) := by decide +kernel
theorem zd_PW_cutAngle_12 : decode prog_1_method_23_code 12 = .ok (.aload_n 0, 1) := by decide +kernel
theorem zd_PW_cutAngle_13 : decode prog_1_method_23_code 13 = .ok (.getfield 10, 3) := by decide +kernel
theorem zd_PW_cutAngle_16 : decode prog_1_method_23_code 16 = .ok (.aload_n 0, 1) := by decide +kernel
theorem zd_PW_cutAngle_17 : decode prog_1_method_23_code 17 = .ok (.getfield 46, 3) := by decide +kernel
theorem zd_PW_cutAngle_20 : decode prog_1_method_23_code 20 = .ok (.iconst 1, 1) := by decide +kernel
theorem zd_PW_cutAngle_21 : decode prog_1_method_23_code 21 = .ok (.iadd, 1) := by decide +kernel
theorem zd_PW_cutAngle_22 : decode prog_1_method_23_code 22 = .ok (.invokevirtual 106, 3) := by decide +kernel
theorem zd_PW_cutAngle_25 : decode prog_1_method_23_code 25 = .ok (.iload_n 1, 1) := by decide +kernel
theorem zd_PW_cutAngle_26 : decode prog_1_method_23_code 26 = .ok (.if_icmp .ne (25), 3) := by decide +kernel
theorem zd_PW_cutAngle_29 : decode prog_1_method_23_code 29 = .ok (.aload_n 0, 1) := by decide +kernel
theorem zd_PW_cutAngle_30 : decode prog_1_method_23_code 30 = .ok (.iconst 3, 1) := by decide +kernel
theorem zd_PW_cutAngle_31 : decode prog_1_method_23_code 31 = .ok (.aload_n 0, 1) := by decide +kernel
theorem zd_PW_cutAngle_32 : decode prog_1_method_23_code 32 = .ok (.getfield 46, 3) := by decide +kernel
theorem zd_PW_cutAngle_35 : decode prog_1_method_23_code 35 = .ok (.aload_n 0, 1) := by decide +kernel
theorem zd_PW_cutAngle_36 : decode prog_1_method_23_code 36 = .ok (.getfield 46, 3) := by decide +kernel
theorem zd_PW_cutAngle_39 : decode prog_1_method_23_code 39 = .ok (.aload_n 0, 1) := by decide +kernel
theorem zd_PW_cutAngle_40 : decode prog_1_method_23_code 40 = .ok (.getfield 46, 3) := by decide +kernel
theorem zd_PW_cutAngle_43 : decode prog_1_method_23_code 43 = .ok (.iconst 2, 1) := by decide +kernel
theorem zd_PW_cutAngle_44 : decode prog_1_method_23_code 44 = .ok (.iadd, 1) := by decide +kernel
theorem zd_PW_cutAngle_45 : decode prog_1_method_23_code 45 = .ok (.invokevirtual 122, 3) := by decide +kernel
theorem zd_PW_cutAngle_48 : decode prog_1_method_23_code 48 = .ok (.goto (25), 3) := by decide +kernel
theorem zd_PW_cutAngle_51 : decode prog_1_method_23_code 51 = .ok (.iload_n 1, 1) := by decide +kernel
theorem zd_PW_cutAngle_52 : decode prog_1_method_23_code 52 = .ok (.bipush (60), 2) := by decide +kernel
theorem zd_PW_cutAngle_54 : decode prog_1_method_23_code 54 = .ok (.if_icmp .ne (10), 3) := by decide +kernel
theorem zd_PW_cutAngle_57 : decode prog_1_method_23_code 57 = .ok (.aload_n 0, 1) := by decide +kernel
theorem zd_PW_cutAngle_58 : decode prog_1_method_23_code 58 = .ok (.invokevirtual 171, 3) := by decide +kernel
theorem zd_PW_cutAngle_61 : decode prog_1_method_23_code 61 = .ok (.goto (12), 3) := by decide +kernel
theorem zd_PW_cutAngle_64 : decode prog_1_method_23_code 64 = .ok (.aload_n 0, 1) := by decide +kernel
theorem zd_PW_cutAngle_65 : decode prog_1_method_23_code 65 = .ok (.iconst 1, 1) := by decide +kernel
theorem zd_PW_cutAngle_66 : decode prog_1_method_23_code 66 = .ok (.aload_n 0, 1) := by decide +kernel
theorem zd_PW_cutAngle_67 : decode prog_1_method_23_code 67 = .ok (.getfield 46, 3) := by decide +kernel
theorem zd_PW_cutAngle_70 : decode prog_1_method_23_code 70 = .ok (.invokevirtual 75, 3) := by decide +kernel
theorem zd_PW_cutAngle_73 : decode prog_1_method_23_code 73 = .ok (.return_, 1) := by decide +kernel
theorem zd_PW_addName_0 : decode prog_1_method_20_code 0 = .ok (.iload_n 3, 1) := by decide +kernel
theorem zd_PW_addName_1 : decode prog_1_method_20_code 1 = .ok (.istore 5, 2) := by decide +kernel
theorem zd_PW_addName_3 : decode prog_1_method_20_code 3 = .ok (.iload 5, 2) := by decide +kernel
theorem zd_PW_addName_5 : decode prog_1_method_20_code 5 = .ok (.iload 4, 2) := by decide +kernel
theorem zd_PW_addName_7 : decode prog_1_method_20_code 7 = .ok (.if_icmp .ge (25), 3) := by decide +kernel
theorem zd_PW_addName_10 : decode prog_1_method_20_code 10 = .ok (.aload_n 0, 1) := by decide +kernel
theorem zd_PW_addName_11 : decode prog_1_method_20_code 11 = .ok (.getfield 26, 3) := by decide +kernel
theorem zd_PW_addName_14 : decode prog_1_method_20_code 14 = .ok (.aload_n 0, 1) := by decide +kernel
theorem zd_PW_addName_15 : decode prog_1_method_20_code 15 = .ok (.getfield 10, 3) := by decide +kernel
theorem zd_PW_addName_18 : decode prog_1_method_20_code 18 = .ok (.iload 5, 2) := by decide +kernel
theorem zd_PW_addName_20 : decode prog_1_method_20_code 20 = .ok (.invokevirtual 106, 3) := by decide +kernel
theorem zd_PW_addName_23 : decode prog_1_method_20_code 23 = .ok (.invokevirtual 160, 3) := by decide +kernel
theorem zd_PW_addName_26 : decode prog_1_method_20_code 26 = .ok (.iinc 5 (1), 3) := by decide +kernel
theorem zd_PW_addName_29 : decode prog_1_method_20_code 29 = .ok (.goto (-26), 3) := by decide +kernel
theorem zd_PW_addName_32 : decode prog_1_method_20_code 32 = .ok (.aload_n 0, 1) := by decide +kernel
theorem zd_PW_addName_33 : decode prog_1_method_20_code 33 = .ok (.getfield 19, 3) := by decide +kernel
theorem zd_PW_addName_36 : decode prog_1_method_20_code 36 = .ok (.iload_n 1, 1) := by decide +kernel
theorem zd_PW_addName_37 : decode prog_1_method_20_code 37 = .ok (.aload_n 0, 1) := by decide +kernel
theorem zd_PW_addName_38 : decode prog_1_method_20_code 38 = .ok (.getfield 26, 3) := by decide +kernel
theorem zd_PW_addName_41 : decode prog_1_method_20_code 41 = .ok (.invokevirtual 163, 3) := by decide +kernel
theorem zd_PW_addName_44 : decode prog_1_method_20_code 44 = .ok (.iload_n 2, 1) := by decide +kernel
theorem zd_PW_addName_45 : decode prog_1_method_20_code 45 = .ok (.invokevirtual 154, 3) := by decide +kernel
theorem zd_PW_addName_48 : decode prog_1_method_20_code 48 = .ok (.aload_n 0, 1) := by decide +kernel
theorem zd_PW_addName_49 : decode prog_1_method_20_code 49 = .ok (.iload 4, 2) := by decide +kernel
theorem zd_PW_addName_51 : decode prog_1_method_20_code 51 = .ok (.putfield 46, 3) := by decide +kernel
theorem zd_PW_addName_54 : decode prog_1_method_20_code 54 = .ok (.return_, 1) := by decide +kernel
theorem zd_PW_cutDigitText_0 : decode prog_1_method_24_code 0 = .ok (.aload_n 0, 1) := by decide +kernel
theorem zd_PW_cutDigitText_1 : decode prog_1_method_24_code 1 = .ok (.getfield 46, 3) := by decide +kernel
theorem zd_PW_cutDigitText_4 : decode prog_1_method_24_code 4 = .ok (.istore_n 1, 1) := by decide +kernel
theorem zd_PW_cutDigitText_5 : decode prog_1_method_24_code 5 = .ok (.aload_n 0, 1) := by decide +kernel
theorem zd_PW_cutDigitText_6 : decode prog_1_method_24_code 6 = .ok (.getfield 10, 3) := by decide +kernel
theorem zd_PW_cutDigitText_9 : decode prog_1_method_24_code 9 = .ok (.invokevirtual 56, 3) := by decide +kernel
theorem zd_PW_cutDigitText_12 : decode prog_1_method_24_code 12 = .ok (.istore_n 2, 1) := by decide +kernel
theorem zd_PW_cutDigitText_13 : decode prog_1_method_24_code 13 = .ok (.iconst (-1), 1) := by decide +kernel
theorem zd_PW_cutDigitText_14 : decode prog_1_method_24_code 14 = .ok (.istore_n 3, 1) := by decide +kernel
theorem zd_PW_cutDigitText_15 : decode prog_1_method_24_code 15 = .ok (.aload_n 0, 1) := by decide +kernel
theorem zd_PW_cutDigitText_16 : decode prog_1_method_24_code 16 = .ok (.dup, 1) := by decide +kernel
theorem zd_PW_cutDigitText_17 : decode prog_1_method_24_code 17 = .ok (.getfield 46, 3) := by decide +kernel
theorem zd_PW_cutDigitText_20 : decode prog_1_method_24_code 20 = .ok (.iconst 1, 1) := by decide +kernel
theorem zd_PW_cutDigitText_21 : decode prog_1_method_24_code 21 = .ok (.iadd, 1) := by decide +kernel
theorem zd_PW_cutDigitText_22 : decode prog_1_method_24_code 22 = .ok (.putfield 46, 3) := by decide +kernel
theorem zd_PW_cutDigitText_25 : decode prog_1_method_24_code 25 = .ok (.aload_n 0, 1) := by decide +kernel
theorem zd_PW_cutDigitText_26 : decode prog_1_method_24_code 26 = .ok (.getfield 46, 3) := by decide +kernel
theorem zd_PW_cutDigitText_29 : decode prog_1_method_24_code 29 = .ok (.iload_n 2, 1) := by decide +kernel
theorem zd_PW_cutDigitText_30 : decode prog_1_method_24_code 30 = .ok (.if_icmp .ge (112), 3) := by decide +kernel
theorem zd_PW_cutDigitText_33 : decode prog_1_method_24_code 33 = .ok (.aload_n 0, 1) := by decide +kernel
theorem zd_PW_cutDigitText_34 : decode prog_1_method_24_code 34 = .ok (.getfield 10, 3) := by decide +kernel
theorem zd_PW_cutDigitText_37 : decode prog_1_method_24_code 37 = .ok (.aload_n 0, 1) := by decide +kernel
theorem zd_PW_cutDigitText_38 : decode prog_1_method_24_code 38 = .ok (.getfield 46, 3) := by decide +kernel
theorem zd_PW_cutDigitText_41 : decode prog_1_method_24_code 41 = .ok (.invokevirtual 106, 3) := by decide +kernel
theorem zd_PW_cutDigitText_44 : decode prog_1_method_24_code 44 = .ok (.bipush (62), 2) := by decide +kernel
theorem zd_PW_cutDigitText_46 : decode prog_1_method_24_code 46 = .ok (.if_icmp .eq (96), 3) := by decide +kernel
theorem zd_PW_cutDigitText_49 : decode prog_1_method_24_code 49 = .ok (.aload_n 0, 1) := by decide +kernel
theorem zd_PW_cutDigitText_50 : decode prog_1_method_24_code 50 = .ok (.getfield 10, 3) := by decide +kernel
theorem zd_PW_cutDigitText_53 : decode prog_1_method_24_code 53 = .ok (.aload_n 0, 1) := by decide +kernel
theorem zd_PW_cutDigitText_54 : decode prog_1_method_24_code 54 = .ok (.getfield 46, 3) := by decide +kernel
theorem zd_PW_cutDigitText_57 : decode prog_1_method_24_code 57 = .ok (.invokevirtual 106, 3) := by decide +kernel
theorem zd_PW_cutDigitText_60 : decode prog_1_method_24_code 60 = .ok (.istore 4, 2) := by decide +kernel
theorem zd_PW_cutDigitText_62 : decode prog_1_method_24_code 62 = .ok (.iload 4, 2) := by decide +kernel
theorem zd_PW_cutDigitText_64 : decode prog_1_method_24_code 64 = .ok (.invokestatic 174, 3) := by decide +kernel
theorem zd_PW_cutDigitText_67 : decode prog_1_method_24_code 67 = .ok (.istore 5, 2) := by decide +kernel
theorem zd_PW_cutDigitText_69 : decode prog_1_method_24_code 69 = .ok (.iload 4, 2) := by decide +kernel
theorem zd_PW_cutDigitText_71 : decode prog_1_method_24_code 71 = .ok (.invokestatic 109, 3) := by decide +kernel
theorem zd_PW_cutDigitText_74 : decode prog_1_method_24_code 74 = .ok (.ifCond .eq (6), 3) := by decide +kernel
theorem zd_PW_cutDigitText_77 : decode prog_1_method_24_code 77 = .ok (.goto (52), 3) := by decide +kernel
theorem zd_PW_cutDigitText_80 : decode prog_1_method_24_code 80 = .ok (.iload 5, 2) := by decide +kernel
theorem zd_PW_cutDigitText_82 : decode prog_1_method_24_code 82 = .ok (.ifCond .lt (10), 3) := by decide +kernel
theorem zd_PW_cutDigitText_85 : decode prog_1_method_24_code 85 = .ok (.iload 5, 2) := by decide +kernel
theorem zd_PW_cutDigitText_87 : decode prog_1_method_24_code 87 = .ok (.bipush (15), 2) := by decide +kernel
theorem zd_PW_cutDigitText_89 : decode prog_1_method_24_code 89 = .ok (.if_icmp .le (13), 3) := by decide +kernel
theorem zd_PW_cutDigitText_92 : decode prog_1_method_24_code 92 = .ok (.aload_n 0, 1) := by decide +kernel
theorem zd_PW_cutDigitText_93 : decode prog_1_method_24_code 93 = .ok (.iconst 3, 1) := by decide +kernel
theorem zd_PW_cutDigitText_94 : decode prog_1_method_24_code 94 = .ok (.aload_n 0, 1) := by decide +kernel
theorem zd_PW_cutDigitText_95 : decode prog_1_method_24_code 95 = .ok (.getfield 46, 3) := by decide +kernel
theorem zd_PW_cutDigitText_98 : decode prog_1_method_24_code 98 = .ok (.invokevirtual 75, 3) := by decide +kernel
theorem zd_PW_cutDigitText_101 : decode prog_1_method_24_code 101 = .ok (.return_, 1) := by decide +kernel
theorem zd_PW_cutDigitText_102 : decode prog_1_method_24_code 102 = .ok (.iload_n 3, 1) := by decide +kernel
theorem zd_PW_cutDigitText_103 : decode prog_1_method_24_code 103 = .ok (.iconst (-1), 1) := by decide +kernel
theorem zd_PW_cutDigitText_104 : decode prog_1_method_24_code 104 = .ok (.if_icmp .ne (9), 3) := by decide +kernel
theorem zd_PW_cutDigitText_107 : decode prog_1_method_24_code 107 = .ok (.iload 5, 2) := by decide +kernel
theorem zd_PW_cutDigitText_109 : decode prog_1_method_24_code 109 = .ok (.istore_n 3, 1) := by decide +kernel
theorem zd_PW_cutDigitText_110 : decode prog_1_method_24_code 110 = .ok (.goto (19), 3) := by decide +kernel
theorem zd_PW_cutDigitText_113 : decode prog_1_method_24_code 113 = .ok (.aload_n 0, 1) := by decide +kernel
theorem zd_PW_cutDigitText_114 : decode prog_1_method_24_code 114 = .ok (.getfield 26, 3) := by decide +kernel
theorem zd_PW_cutDigitText_117 : decode prog_1_method_24_code 117 = .ok (.bipush (16), 2) := by decide +kernel
theorem zd_PW_cutDigitText_119 : decode prog_1_method_24_code 119 = .ok (.iload_n 3, 1) := by decide +kernel
theorem zd_PW_cutDigitText_120 : decode prog_1_method_24_code 120 = .ok (.imul, 1) := by decide +kernel
theorem zd_PW_cutDigitText_121 : decode prog_1_method_24_code 121 = .ok (.iload 5, 2) := by decide +kernel
theorem zd_PW_cutDigitText_123 : decode prog_1_method_24_code 123 = .ok (.iadd, 1) := by decide +kernel
theorem zd_PW_cutDigitText_124 : decode prog_1_method_24_code 124 = .ok (.invokevirtual 160, 3) := by decide +kernel
theorem zd_PW_cutDigitText_127 : decode prog_1_method_24_code 127 = .ok (.iconst (-1), 1) := by decide +kernel
theorem zd_PW_cutDigitText_128 : decode prog_1_method_24_code 128 = .ok (.istore_n 3, 1) := by decide +kernel
theorem zd_PW_cutDigitText_129 : decode prog_1_method_24_code 129 = .ok (.aload_n 0, 1) := by decide +kernel
theorem zd_PW_cutDigitText_130 : decode prog_1_method_24_code 130 = .ok (.dup, 1) := by decide +kernel
theorem zd_PW_cutDigitText_131 : decode prog_1_method_24_code 131 = .ok (.getfield 46, 3) := by decide +kernel
theorem zd_PW_cutDigitText_134 : decode prog_1_method_24_code 134 = .ok (.iconst 1, 1) := by decide +kernel
theorem zd_PW_cutDigitText_135 : decode prog_1_method_24_code 135 = .ok (.iadd, 1) := by decide +kernel
theorem zd_PW_cutDigitText_136 : decode prog_1_method_24_code 136 = .ok (.putfield 46, 3) := by decide +kernel
theorem zd_PW_cutDigitText_139 : decode prog_1_method_24_code 139 = .ok (.goto (-114), 3) := by decide +kernel
theorem zd_PW_cutDigitText_142 : decode prog_1_method_24_code 142 = .ok (.iload_n 3, 1) := by decide +kernel
theorem zd_PW_cutDigitText_143 : decode prog_1_method_24_code 143 = .ok (.iconst (-1), 1) := by decide +kernel
theorem zd_PW_cutDigitText_144 : decode prog_1_method_24_code 144 = .ok (.if_icmp .eq (14), 3) := by decide +kernel
theorem zd_PW_cutDigitText_147 : decode prog_1_method_24_code 147 = .ok (.aload_n 0, 1) := by decide +kernel
theorem zd_PW_cutDigitText_148 : decode prog_1_method_24_code 148 = .ok (.getfield 26, 3) := by decide +kernel
theorem zd_PW_cutDigitText_151 : decode prog_1_method_24_code 151 = .ok (.bipush (16), 2) := by decide +kernel
theorem zd_PW_cutDigitText_153 : decode prog_1_method_24_code 153 = .ok (.iload_n 3, 1) := by decide +kernel
theorem zd_PW_cutDigitText_154 : decode prog_1_method_24_code 154 = .ok (.imul, 1) := by decide +kernel
theorem zd_PW_cutDigitText_155 : decode prog_1_method_24_code 155 = .ok (.invokevirtual 160, 3) := by decide +kernel
theorem zd_PW_cutDigitText_158 : decode prog_1_method_24_code 158 = .ok (.aload_n 0, 1) := by decide +kernel
theorem zd_PW_cutDigitText_159 : decode prog_1_method_24_code 159 = .ok (.iload_n 1, 1) := by decide +kernel
theorem zd_PW_cutDigitText_160 : decode prog_1_method_24_code 160 = .ok (.aload_n 0, 1) := by decide +kernel
theorem zd_PW_cutDigitText_161 : decode prog_1_method_24_code 161 = .ok (.getfield 46, 3) := by decide +kernel
theorem zd_PW_cutDigitText_164 : decode prog_1_method_24_code 164 = .ok (.iload_n 2, 1) := by decide +kernel
theorem zd_PW_cutDigitText_165 : decode prog_1_method_24_code 165 = .ok (.if_icmp .ge (7), 3) := by decide +kernel
theorem zd_PW_cutDigitText_168 : decode prog_1_method_24_code 168 = .ok (.iconst 1, 1) := by decide +kernel
theorem zd_PW_cutDigitText_169 : decode prog_1_method_24_code 169 = .ok (.goto (4), 3) := by decide +kernel
theorem zd_PW_cutDigitText_172 : decode prog_1_method_24_code 172 = .ok (.iconst 0, 1) := by decide +kernel
theorem zd_PW_cutDigitText_173 : decode prog_1_method_24_code 173 = .ok (.invokevirtual 177, 3) := by decide +kernel
theorem zd_PW_cutDigitText_176 : decode prog_1_method_24_code 176 = .ok (.return_, 1) := by decide +kernel
theorem zd_PW_digitValue_0 : decode prog_1_method_36_code 0 = .ok (.iload_n 0, 1) := by decide +kernel
theorem zd_PW_digitValue_1 : decode prog_1_method_36_code 1 = .ok (.bipush (48), 2) := by decide +kernel
theorem zd_PW_digitValue_3 : decode prog_1_method_36_code 3 = .ok (.if_icmp .lt (14), 3) := by decide +kernel
theorem zd_PW_digitValue_6 : decode prog_1_method_36_code 6 = .ok (.iload_n 0, 1) := by decide +kernel
theorem zd_PW_digitValue_7 : decode prog_1_method_36_code 7 = .ok (.bipush (57), 2) := by decide +kernel
theorem zd_PW_digitValue_9 : decode prog_1_method_36_code 9 = .ok (.if_icmp .gt (8), 3) := by decide +kernel
theorem zd_PW_digitValue_12 : decode prog_1_method_36_code 12 = .ok (.iload_n 0, 1) := by decide +kernel
theorem zd_PW_digitValue_13 : decode prog_1_method_36_code 13 = .ok (.bipush (48), 2) := by decide +kernel
theorem zd_PW_digitValue_15 : decode prog_1_method_36_code 15 = .ok (.isub, 1) := by decide +kernel
theorem zd_PW_digitValue_16 : decode prog_1_method_36_code 16 = .ok (.ireturn, 1) := by decide +kernel
theorem zd_PW_digitValue_17 : decode prog_1_method_36_code 17 = .ok (.iload_n 0, 1) := by decide +kernel
theorem zd_PW_digitValue_18 : decode prog_1_method_36_code 18 = .ok (.bipush (97), 2) := by decide +kernel
theorem zd_PW_digitValue_20 : decode prog_1_method_36_code 20 = .ok (.if_icmp .lt (17), 3) := by decide +kernel
theorem zd_PW_digitValue_23 : decode prog_1_method_36_code 23 = .ok (.iload_n 0, 1) := by decide +kernel
theorem zd_PW_digitValue_24 : decode prog_1_method_36_code 24 = .ok (.bipush (122), 2) := by decide +kernel
theorem zd_PW_digitValue_26 : decode prog_1_method_36_code 26 = .ok (.if_icmp .gt (11), 3) := by decide +kernel
theorem zd_PW_digitValue_29 : decode prog_1_method_36_code 29 = .ok (.iload_n 0, 1) := by decide +kernel
theorem zd_PW_digitValue_30 : decode prog_1_method_36_code 30 = .ok (.bipush (97), 2) := by decide +kernel
theorem zd_PW_digitValue_32 : decode prog_1_method_36_code 32 = .ok (.isub, 1) := by decide +kernel
theorem zd_PW_digitValue_33 : decode prog_1_method_36_code 33 = .ok (.bipush (10), 2) := by decide +kernel
theorem zd_PW_digitValue_35 : decode prog_1_method_36_code 35 = .ok (.iadd, 1) := by decide +kernel
theorem zd_PW_digitValue_36 : decode prog_1_method_36_code 36 = .ok (.ireturn, 1) := by decide +kernel
theorem zd_PW_digitValue_37 : decode prog_1_method_36_code 37 = .ok (.iload_n 0, 1) := by decide +kernel
theorem zd_PW_digitValue_38 : decode prog_1_method_36_code 38 = .ok (.bipush (65), 2) := by decide +kernel
theorem zd_PW_digitValue_40 : decode prog_1_method_36_code 40 = .ok (.if_icmp .lt (17), 3) := by decide +kernel
theorem zd_PW_digitValue_43 : decode prog_1_method_36_code 43 = .ok (.iload_n 0, 1) := by decide +kernel
theorem zd_PW_digitValue_44 : decode prog_1_method_36_code 44 = .ok (.bipush (90), 2) := by decide +kernel
theorem zd_PW_digitValue_46 : decode prog_1_method_36_code 46 = .ok (.if_icmp .gt (11), 3) := by decide +kernel
theorem zd_PW_digitValue_49 : decode prog_1_method_36_code 49 = .ok (.iload_n 0, 1) := by decide +kernel
theorem zd_PW_digitValue_50 : decode prog_1_method_36_code 50 = .ok (.bipush (65), 2) := by decide +kernel
theorem zd_PW_digitValue_52 : decode prog_1_method_36_code 52 = .ok (.isub, 1) := by decide +kernel
theorem zd_PW_digitValue_53 : decode prog_1_method_36_code 53 = .ok (.bipush (10), 2) := by decide +kernel
theorem zd_PW_digitValue_55 : decode prog_1_method_36_code 55 = .ok (.iadd, 1) := by decide +kernel
theorem zd_PW_digitValue_56 : decode prog_1_method_36_code 56 = .ok (.ireturn, 1) := by decide +kernel
theorem zd_PW_digitValue_57 : decode prog_1_method_36_code 57 = .ok (.iconst (-1), 1) := by decide +kernel
theorem zd_PW_digitValue_58 : decode prog_1_method_36_code 58 = .ok (.ireturn, 1) := by decide +kernel
theorem zd_PW_cutOpenBrace_0 : decode prog_1_method_21_code 0 = .ok (.aload_n 0, 1) := by decide +kernel
theorem zd_PW_cutOpenBrace_1 : decode prog_1_method_21_code 1 = .ok (.getfield 35, 3) := by decide +kernel
theorem zd_PW_cutOpenBrace_4 : decode prog_1_method_21_code 4 = .ok (.invokevirtual 74, 3) := by decide +kernel
theorem zd_PW_cutOpenBrace_7 : decode prog_1_method_21_code 7 = .ok (.bipush (64), 2) := by decide +kernel
theorem zd_PW_cutOpenBrace_9 : decode prog_1_method_21_code 9 = .ok (.if_icmp .lt (14), 3) := by decide +kernel
theorem zd_PW_cutOpenBrace_12 : decode prog_1_method_21_code 12 = .ok (.aload_n 0, 1) := by decide +kernel
theorem zd_PW_cutOpenBrace_13 : decode prog_1_method_21_code 13 = .ok (.bipush (7), 2) := by decide +kernel
theorem zd_PW_cutOpenBrace_15 : decode prog_1_method_21_code 15 = .ok (.aload_n 0, 1) := by decide +kernel
theorem zd_PW_cutOpenBrace_16 : decode prog_1_method_21_code 16 = .ok (.getfield 46, 3) := by decide +kernel
theorem zd_PW_cutOpenBrace_19 : decode prog_1_method_21_code 19 = .ok (.invokevirtual 75, 3) := by decide +kernel
theorem zd_PW_cutOpenBrace_22 : decode prog_1_method_21_code 22 = .ok (.return_, 1) := by decide +kernel
theorem zd_PW_cutOpenBrace_23 : decode prog_1_method_21_code 23 = .ok (.aload_n 0, 1) := by decide +kernel
theorem zd_PW_cutOpenBrace_24 : decode prog_1_method_21_code 24 = .ok (.getfield 35, 3) := by decide +kernel
theorem zd_PW_cutOpenBrace_27 : decode prog_1_method_21_code 27 = .ok (.aload_n 0, 1) := by decide +kernel
theorem zd_PW_cutOpenBrace_28 : decode prog_1_method_21_code 28 = .ok (.getfield 19, 3) := by decide +kernel
theorem zd_PW_cutOpenBrace_31 : decode prog_1_method_21_code 31 = .ok (.invokevirtual 82, 3) := by decide +kernel
theorem zd_PW_cutOpenBrace_34 : decode prog_1_method_21_code 34 = .ok (.invokevirtual 166, 3) := by decide +kernel
theorem zd_PW_cutOpenBrace_37 : decode prog_1_method_21_code 37 = .ok (.aload_n 0, 1) := by decide +kernel
theorem zd_PW_cutOpenBrace_38 : decode prog_1_method_21_code 38 = .ok (.getfield 19, 3) := by decide +kernel
theorem zd_PW_cutOpenBrace_41 : decode prog_1_method_21_code 41 = .ok (.bipush (6), 2) := by decide +kernel
theorem zd_PW_cutOpenBrace_43 : decode prog_1_method_21_code 43 = .ok (.iconst (-1), 1) := by decide +kernel
theorem zd_PW_cutOpenBrace_44 : decode prog_1_method_21_code 44 = .ok (.aload_n 0, 1) := by decide +kernel
theorem zd_PW_cutOpenBrace_45 : decode prog_1_method_21_code 45 = .ok (.getfield 46, 3) := by decide +kernel
theorem zd_PW_cutOpenBrace_48 : decode prog_1_method_21_code 48 = .ok (.invokevirtual 154, 3) := by decide +kernel
theorem zd_PW_cutOpenBrace_51 : decode prog_1_method_21_code 51 = .ok (.aload_n 0, 1) := by decide +kernel
theorem zd_PW_cutOpenBrace_52 : decode prog_1_method_21_code 52 = .ok (.dup, 1) := by decide +kernel
theorem zd_PW_cutOpenBrace_53 : decode prog_1_method_21_code 53 = .ok (.getfield 46, 3) := by decide +kernel
theorem zd_PW_cutOpenBrace_56 : decode prog_1_method_21_code 56 = .ok (.iconst 1, 1) := by decide +kernel
theorem zd_PW_cutOpenBrace_57 : decode prog_1_method_21_code 57 = .ok (.iadd, 1) := by decide +kernel
theorem zd_PW_cutOpenBrace_58 : decode prog_1_method_21_code 58 = .ok (.putfield 46, 3) := by decide +kernel
theorem zd_PW_cutOpenBrace_61 : decode prog_1_method_21_code 61 = .ok (.return_, 1) := by decide +kernel
theorem zd_PW_cutCloseBrace_0 : decode prog_1_method_22_code 0 = .ok (.aload_n 0, 1) := by decide +kernel
theorem zd_PW_cutCloseBrace_1 : decode prog_1_method_22_code 1 = .ok (.getfield 35, 3) := by decide +kernel
theorem zd_PW_cutCloseBrace_4 : decode prog_1_method_22_code 4 = .ok (.invokevirtual 74, 3) := by decide +kernel
theorem zd_PW_cutCloseBrace_7 : decode prog_1_method_22_code 7 = .ok (.ifCond .ne (13), 3) := by decide +kernel
theorem zd_PW_cutCloseBrace_10 : decode prog_1_method_22_code 10 = .ok (.aload_n 0, 1) := by decide +kernel
theorem zd_PW_cutCloseBrace_11 : decode prog_1_method_22_code 11 = .ok (.iconst 4, 1) := by decide +kernel
theorem zd_PW_cutCloseBrace_12 : decode prog_1_method_22_code 12 = .ok (.aload_n 0, 1) := by decide +kernel
theorem zd_PW_cutCloseBrace_13 : decode prog_1_method_22_code 13 = .ok (.getfield 46, 3) := by decide +kernel
theorem zd_PW_cutCloseBrace_16 : decode prog_1_method_22_code 16 = .ok (.invokevirtual 75, 3) := by decide +kernel
theorem zd_PW_cutCloseBrace_19 : decode prog_1_method_22_code 19 = .ok (.return_, 1) := by decide +kernel
theorem zd_PW_cutCloseBrace_20 : decode prog_1_method_22_code 20 = .ok (.aload_n 0, 1) := by decide +kernel
theorem zd_PW_cutCloseBrace_21 : decode prog_1_method_22_code 21 = .ok (.getfield 35, 3) := by decide +kernel
theorem zd_PW_cutCloseBrace_24 : decode prog_1_method_22_code 24 = .ok (.aload_n 0, 1) := by decide +kernel
theorem zd_PW_cutCloseBrace_25 : decode prog_1_method_22_code 25 = .ok (.getfield 35, 3) := by decide +kernel
theorem zd_PW_cutCloseBrace_28 : decode prog_1_method_22_code 28 = .ok (.invokevirtual 74, 3) := by decide +kernel
theorem zd_PW_cutCloseBrace_31 : decode prog_1_method_22_code 31 = .ok (.iconst 1, 1) := by decide +kernel
theorem zd_PW_cutCloseBrace_32 : decode prog_1_method_22_code 32 = .ok (.isub, 1) := by decide +kernel
theorem zd_PW_cutCloseBrace_33 : decode prog_1_method_22_code 33 = .ok (.invokevirtual 167, 3) := by decide +kernel
theorem zd_PW_cutCloseBrace_36 : decode prog_1_method_22_code 36 = .ok (.istore_n 1, 1) := by decide +kernel
theorem zd_PW_cutCloseBrace_37 : decode prog_1_method_22_code 37 = .ok (.aload_n 0, 1) := by decide +kernel
theorem zd_PW_cutCloseBrace_38 : decode prog_1_method_22_code 38 = .ok (.getfield 35, 3) := by decide +kernel
theorem zd_PW_cutCloseBrace_41 : decode prog_1_method_22_code 41 = .ok (.aload_n 0, 1) := by decide +kernel
theorem zd_PW_cutCloseBrace_42 : decode prog_1_method_22_code 42 = .ok (.getfield 35, 3) := by decide +kernel
theorem zd_PW_cutCloseBrace_45 : decode prog_1_method_22_code 45 = .ok (.invokevirtual 74, 3) := by decide +kernel
theorem zd_PW_cutCloseBrace_48 : decode prog_1_method_22_code 48 = .ok (.iconst 1, 1) := by decide +kernel
theorem zd_PW_cutCloseBrace_49 : decode prog_1_method_22_code 49 = .ok (.isub, 1) := by decide +kernel
theorem zd_PW_cutCloseBrace_50 : decode prog_1_method_22_code 50 = .ok (.invokevirtual 105, 3) := by decide +kernel
theorem zd_PW_cutCloseBrace_53 : decode prog_1_method_22_code 53 = .ok (.aload_n 0, 1) := by decide +kernel
theorem zd_PW_cutCloseBrace_54 : decode prog_1_method_22_code 54 = .ok (.getfield 19, 3) := by decide +kernel
theorem zd_PW_cutCloseBrace_57 : decode prog_1_method_22_code 57 = .ok (.iload_n 1, 1) := by decide +kernel
theorem zd_PW_cutCloseBrace_58 : decode prog_1_method_22_code 58 = .ok (.aload_n 0, 1) := by decide +kernel
theorem zd_PW_cutCloseBrace_59 : decode prog_1_method_22_code 59 = .ok (.getfield 19, 3) := by decide +kernel
theorem zd_PW_cutCloseBrace_62 : decode prog_1_method_22_code 62 = .ok (.invokevirtual 82, 3) := by decide +kernel
theorem zd_PW_cutCloseBrace_65 : decode prog_1_method_22_code 65 = .ok (.invokevirtual 168, 3) := by decide +kernel
theorem zd_PW_cutCloseBrace_68 : decode prog_1_method_22_code 68 = .ok (.aload_n 0, 1) := by decide +kernel
theorem zd_PW_cutCloseBrace_69 : decode prog_1_method_22_code 69 = .ok (.getfield 19, 3) := by decide +kernel
theorem zd_PW_cutCloseBrace_72 : decode prog_1_method_22_code 72 = .ok (.bipush (7), 2) := by decide +kernel
theorem zd_PW_cutCloseBrace_74 : decode prog_1_method_22_code 74 = .ok (.iload_n 1, 1) := by decide +kernel
theorem zd_PW_cutCloseBrace_75 : decode prog_1_method_22_code 75 = .ok (.aload_n 0, 1) := by decide +kernel
theorem zd_PW_cutCloseBrace_76 : decode prog_1_method_22_code 76 = .ok (.getfield 46, 3) := by decide +kernel
theorem zd_PW_cutCloseBrace_79 : decode prog_1_method_22_code 79 = .ok (.invokevirtual 154, 3) := by decide +kernel
theorem zd_PW_cutCloseBrace_82 : decode prog_1_method_22_code 82 = .ok (.aload_n 0, 1) := by decide +kernel
theorem zd_PW_cutCloseBrace_83 : decode prog_1_method_22_code 83 = .ok (.dup, 1) := by decide +kernel
theorem zd_PW_cutCloseBrace_84 : decode prog_1_method_22_code 84 = .ok (.getfield 46, 3) := by decide +kernel
theorem zd_PW_cutCloseBrace_87 : decode prog_1_method_22_code 87 = .ok (.iconst 1, 1) := by decide +kernel
theorem zd_PW_cutCloseBrace_88 : decode prog_1_method_22_code 88 = .ok (.iadd, 1) := by decide +kernel
theorem zd_PW_cutCloseBrace_89 : decode prog_1_method_22_code 89 = .ok (.putfield 46, 3) := by decide +kernel
theorem zd_PW_cutCloseBrace_92 : decode prog_1_method_22_code 92 = .ok (.return_, 1) := by decide +kernel
theorem zd_PW_cutNameItself_0 : decode prog_1_method_18_code 0 = .ok (.aload_n 0, 1) := by decide +kernel
theorem zd_PW_cutNameItself_1 : decode prog_1_method_18_code 1 = .ok (.getfield 46, 3) := by decide +kernel
theorem zd_PW_cutNameItself_4 : decode prog_1_method_18_code 4 = .ok (.istore_n 1, 1) := by decide +kernel
theorem zd_PW_cutNameItself_5 : decode prog_1_method_18_code 5 = .ok (.aload_n 0, 1) := by decide +kernel
theorem zd_PW_cutNameItself_6 : decode prog_1_method_18_code 6 = .ok (.iload_n 1, 1) := by decide +kernel
theorem zd_PW_cutNameItself_7 : decode prog_1_method_18_code 7 = .ok (.iconst 1, 1) := by decide +kernel
theorem zd_PW_cutNameItself_8 : decode prog_1_method_18_code 8 = .ok (.iadd, 1) := by decide +kernel
theorem zd_PW_cutNameItself_9 : decode prog_1_method_18_code 9 = .ok (.invokevirtual 141, 3) := by decide +kernel
theorem zd_PW_cutNameItself_12 : decode prog_1_method_18_code 12 = .ok (.istore_n 2, 1) := by decide +kernel
theorem zd_PW_cutNameItself_13 : decode prog_1_method_18_code 13 = .ok (.iload_n 2, 1) := by decide +kernel
theorem zd_PW_cutNameItself_14 : decode prog_1_method_18_code 14 = .ok (.iload_n 1, 1) := by decide +kernel
theorem zd_PW_cutNameItself_15 : decode prog_1_method_18_code 15 = .ok (.isub, 1) := by decide +kernel
theorem zd_PW_cutNameItself_16 : decode prog_1_method_18_code 16 = .ok (.iconst 1, 1) := by decide +kernel
theorem zd_PW_cutNameItself_17 : decode prog_1_method_18_code 17 = .ok (.isub, 1) := by decide +kernel
theorem zd_PW_cutNameItself_18 : decode prog_1_method_18_code 18 = .ok (.bipush (127), 2) := by decide +kernel
theorem zd_PW_cutNameItself_20 : decode prog_1_method_18_code 20 = .ok (.if_icmp .le (13), 3) := by decide +kernel
theorem zd_PW_cutNameItself_23 : decode prog_1_method_18_code 23 = .ok (.aload_n 0, 1) := by decide +kernel
theorem zd_PW_cutNameItself_24 : decode prog_1_method_18_code 24 = .ok (.bipush (6), 2) := by decide +kernel
theorem zd_PW_cutNameItself_26 : decode prog_1_method_18_code 26 = .ok (.iload_n 1, 1) := by decide +kernel
theorem zd_PW_cutNameItself_27 : decode prog_1_method_18_code 27 = .ok (.invokevirtual 75, 3) := by decide +kernel
theorem zd_PW_cutNameItself_30 : decode prog_1_method_18_code 30 = .ok (.goto (13), 3) := by decide +kernel
theorem zd_PW_cutNameItself_33 : decode prog_1_method_18_code 33 = .ok (.aload_n 0, 1) := by decide +kernel
theorem zd_PW_cutNameItself_34 : decode prog_1_method_18_code 34 = .ok (.iconst 4, 1) := by decide +kernel
theorem zd_PW_cutNameItself_35 : decode prog_1_method_18_code 35 = .ok (.iload_n 1, 1) := by decide +kernel
theorem zd_PW_cutNameItself_36 : decode prog_1_method_18_code 36 = .ok (.iload_n 1, 1) := by decide +kernel
theorem zd_PW_cutNameItself_37 : decode prog_1_method_18_code 37 = .ok (.iconst 1, 1) := by decide +kernel
theorem zd_PW_cutNameItself_38 : decode prog_1_method_18_code 38 = .ok (.iadd, 1) := by decide +kernel
theorem zd_PW_cutNameItself_39 : decode prog_1_method_18_code 39 = .ok (.iload_n 2, 1) := by decide +kernel
theorem zd_PW_cutNameItself_40 : decode prog_1_method_18_code 40 = .ok (.invokevirtual 122, 3) := by decide +kernel
theorem zd_PW_cutNameItself_43 : decode prog_1_method_18_code 43 = .ok (.return_, 1) := by decide +kernel
theorem zd_PW_rowEnd_0 : decode prog_1_method_19_code 0 = .ok (.iload_n 1, 1) := by decide +kernel
theorem zd_PW_rowEnd_1 : decode prog_1_method_19_code 1 = .ok (.istore_n 2, 1) := by decide +kernel
theorem zd_PW_rowEnd_2 : decode prog_1_method_19_code 2 = .ok (.iload_n 2, 1) := by decide +kernel
theorem zd_PW_rowEnd_3 : decode prog_1_method_19_code 3 = .ok (.aload_n 0, 1) := by decide +kernel
theorem zd_PW_rowEnd_4 : decode prog_1_method_19_code 4 = .ok (.getfield 10, 3) := by decide +kernel
theorem zd_PW_rowEnd_7 : decode prog_1_method_19_code 7 = .ok (.invokevirtual 56, 3) := by decide +kernel
theorem zd_PW_rowEnd_10 : decode prog_1_method_19_code 10 = .ok (.if_icmp .ge (31), 3) := by decide +kernel
theorem zd_PW_rowEnd_13 : decode prog_1_method_19_code 13 = .ok (.iload_n 2, 1) := by decide +kernel
theorem zd_PW_rowEnd_14 : decode prog_1_method_19_code 14 = .ok (.iload_n 1, 1) := by decide +kernel
theorem zd_PW_rowEnd_15 : decode prog_1_method_19_code 15 = .ok (.isub, 1) := by decide +kernel
theorem zd_PW_rowEnd_16 : decode prog_1_method_19_code 16 = .ok (.bipush (127), 2) := by decide +kernel
theorem zd_PW_rowEnd_18 : decode prog_1_method_19_code 18 = .ok (.if_icmp .gt (23), 3) := by decide +kernel
theorem zd_PW_rowEnd_21 : decode prog_1_method_19_code 21 = .ok (.aload_n 0, 1) := by decide +kernel
theorem zd_PW_rowEnd_22 : decode prog_1_method_19_code 22 = .ok (.getfield 10, 3) := by decide +kernel
theorem zd_PW_rowEnd_25 : decode prog_1_method_19_code 25 = .ok (.iload_n 2, 1) := by decide +kernel
theorem zd_PW_rowEnd_26 : decode prog_1_method_19_code 26 = .ok (.invokevirtual 106, 3) := by decide +kernel
theorem zd_PW_rowEnd_29 : decode prog_1_method_19_code 29 = .ok (.invokestatic 157, 3) := by decide +kernel
theorem zd_PW_rowEnd_32 : decode prog_1_method_19_code 32 = .ok (.ifCond .eq (9), 3) := by decide +kernel
theorem zd_PW_rowEnd_35 : decode prog_1_method_19_code 35 = .ok (.iinc 2 (1), 3) := by decide +kernel
theorem zd_PW_rowEnd_38 : decode prog_1_method_19_code 38 = .ok (.goto (-36), 3) := by decide +kernel
theorem zd_PW_rowEnd_41 : decode prog_1_method_19_code 41 = .ok (.iload_n 2, 1) := by decide +kernel
theorem zd_PW_rowEnd_42 : decode prog_1_method_19_code 42 = .ok (.ireturn, 1) := by decide +kernel
theorem zd_PW_isPlain_0 : decode prog_1_method_34_code 0 = .ok (.iload_n 0, 1) := by decide +kernel
theorem zd_PW_isPlain_1 : decode prog_1_method_34_code 1 = .ok (.invokestatic 109, 3) := by decide +kernel
theorem zd_PW_isPlain_4 : decode prog_1_method_34_code 4 = .ok (.ifCond .ne (14), 3) := by decide +kernel
theorem zd_PW_isPlain_7 : decode prog_1_method_34_code 7 = .ok (.iload_n 0, 1) := by decide +kernel
theorem zd_PW_isPlain_8 : decode prog_1_method_34_code 8 = .ok (.invokestatic 196, 3) := by decide +kernel
theorem zd_PW_isPlain_11 : decode prog_1_method_34_code 11 = .ok (.ifCond .ne (7), 3) := by decide +kernel
theorem zd_PW_isPlain_14 : decode prog_1_method_34_code 14 = .ok (.iconst 1, 1) := by decide +kernel
theorem zd_PW_isPlain_15 : decode prog_1_method_34_code 15 = .ok (.goto (4), 3) := by decide +kernel
theorem zd_PW_isPlain_18 : decode prog_1_method_34_code 18 = .ok (.iconst 0, 1) := by decide +kernel
theorem zd_PW_isPlain_19 : decode prog_1_method_34_code 19 = .ok (.ireturn, 1) := by decide +kernel
theorem zd_PW_isMark_0 : decode prog_1_method_33_code 0 = .ok (.iload_n 0, 1) := by decide +kernel
theorem zd_PW_isMark_1 : decode prog_1_method_33_code 1 = .ok (.lookupswitch (93) #[(37, 91), (40, 91), (41, 91), (47, 91), (60, 91), (62, 91), (91, 91), (93, 91), (123, 91), (125, 91)], 91) := by decide +kernel
theorem zd_PW_isMark_92 : decode prog_1_method_33_code 92 = .ok (.iconst 1, 1) := by decide +kernel
theorem zd_PW_isMark_93 : decode prog_1_method_33_code 93 = .ok (.ireturn, 1) := by decide +kernel
theorem zd_PW_isMark_94 : decode prog_1_method_33_code 94 = .ok (.iconst 0, 1) := by decide +kernel
theorem zd_PW_isMark_95 : decode prog_1_method_33_code 95 = .ok (.ireturn, 1) := by decide +kernel
theorem zd_PW_cutRow_0 : decode prog_1_method_17_code 0 = .ok (.aload_n 0, 1) := by decide +kernel
theorem zd_PW_cutRow_1 : decode prog_1_method_17_code 1 = .ok (.getfield 46, 3) := by decide +kernel
theorem zd_PW_cutRow_4 : decode prog_1_method_17_code 4 = .ok (.istore_n 1, 1) := by decide +kernel
theorem zd_PW_cutRow_5 : decode prog_1_method_17_code 5 = .ok (.aload_n 0, 1) := by decide +kernel
theorem zd_PW_cutRow_6 : decode prog_1_method_17_code 6 = .ok (.iload_n 1, 1) := by decide +kernel
theorem zd_PW_cutRow_7 : decode prog_1_method_17_code 7 = .ok (.invokevirtual 141, 3) := by decide +kernel
theorem zd_PW_cutRow_10 : decode prog_1_method_17_code 10 = .ok (.istore_n 2, 1) := by decide +kernel
theorem zd_PW_cutRow_11 : decode prog_1_method_17_code 11 = .ok (.iload_n 2, 1) := by decide +kernel
theorem zd_PW_cutRow_12 : decode prog_1_method_17_code 12 = .ok (.iload_n 1, 1) := by decide +kernel
theorem zd_PW_cutRow_13 : decode prog_1_method_17_code 13 = .ok (.isub, 1) := by decide +kernel
theorem zd_PW_cutRow_14 : decode prog_1_method_17_code 14 = .ok (.bipush (127), 2) := by decide +kernel
theorem zd_PW_cutRow_16 : decode prog_1_method_17_code 16 = .ok (.if_icmp .le (11), 3) := by decide +kernel
theorem zd_PW_cutRow_19 : decode prog_1_method_17_code 19 = .ok (.aload_n 0, 1) := by decide +kernel
theorem zd_PW_cutRow_20 : decode prog_1_method_17_code 20 = .ok (.bipush (6), 2) := by decide +kernel
theorem zd_PW_cutRow_22 : decode prog_1_method_17_code 22 = .ok (.iload_n 1, 1) := by decide +kernel
theorem zd_PW_cutRow_23 : decode prog_1_method_17_code 23 = .ok (.invokevirtual 75, 3) := by decide +kernel
theorem zd_PW_cutRow_26 : decode prog_1_method_17_code 26 = .ok (.return_, 1) := by decide +kernel
theorem zd_PW_cutRow_27 : decode prog_1_method_17_code 27 = .ok (.aload_n 0, 1) := by decide +kernel
theorem zd_PW_cutRow_28 : decode prog_1_method_17_code 28 = .ok (.getfield 42, 3) := by decide +kernel
theorem zd_PW_cutRow_31 : decode prog_1_method_17_code 31 = .ok (.aload_n 0, 1) := by decide +kernel
theorem zd_PW_cutRow_32 : decode prog_1_method_17_code 32 = .ok (.getfield 10, 3) := by decide +kernel
theorem zd_PW_cutRow_35 : decode prog_1_method_17_code 35 = .ok (.iload_n 1, 1) := by decide +kernel
theorem zd_PW_cutRow_36 : decode prog_1_method_17_code 36 = .ok (.iload_n 2, 1) := by decide +kernel
theorem zd_PW_cutRow_37 : decode prog_1_method_17_code 37 = .ok (.invokevirtual 144, 3) := by decide +kernel
theorem zd_PW_cutRow_40 : decode prog_1_method_17_code 40 = .ok (.istore_n 3, 1) := by decide +kernel
theorem zd_PW_cutRow_41 : decode prog_1_method_17_code 41 = .ok (.iload_n 3, 1) := by decide +kernel
theorem zd_PW_cutRow_42 : decode prog_1_method_17_code 42 = .ok (.iconst 3, 1) := by decide +kernel
theorem zd_PW_cutRow_43 : decode prog_1_method_17_code 43 = .ok (.if_icmp .ne (14), 3) := by decide +kernel
theorem zd_PW_cutRow_46 : decode prog_1_method_17_code 46 = .ok (.aload_n 0, 1) := by decide +kernel
theorem zd_PW_cutRow_47 : decode prog_1_method_17_code 47 = .ok (.iconst 3, 1) := by decide +kernel
theorem zd_PW_cutRow_48 : decode prog_1_method_17_code 48 = .ok (.iload_n 1, 1) := by decide +kernel
theorem zd_PW_cutRow_49 : decode prog_1_method_17_code 49 = .ok (.iload_n 1, 1) := by decide +kernel
theorem zd_PW_cutRow_50 : decode prog_1_method_17_code 50 = .ok (.iload_n 2, 1) := by decide +kernel
theorem zd_PW_cutRow_51 : decode prog_1_method_17_code 51 = .ok (.invokevirtual 122, 3) := by decide +kernel
theorem zd_PW_cutRow_54 : decode prog_1_method_17_code 54 = .ok (.goto (43), 3) := by decide +kernel
theorem zd_PW_cutRow_57 : decode prog_1_method_17_code 57 = .ok (.aload_n 0, 1) := by decide +kernel
theorem zd_PW_cutRow_58 : decode prog_1_method_17_code 58 = .ok (.getfield 42, 3) := by decide +kernel
theorem zd_PW_cutRow_61 : decode prog_1_method_17_code 61 = .ok (.invokevirtual 148, 3) := by decide +kernel
theorem zd_PW_cutRow_64 : decode prog_1_method_17_code 64 = .ok (.ifCond .eq (27), 3) := by decide +kernel
theorem zd_PW_cutRow_67 : decode prog_1_method_17_code 67 = .ok (.aload_n 0, 1) := by decide +kernel
theorem zd_PW_cutRow_68 : decode prog_1_method_17_code 68 = .ok (.getfield 19, 3) := by decide +kernel
theorem zd_PW_cutRow_71 : decode prog_1_method_17_code 71 = .ok (.iload_n 3, 1) := by decide +kernel
theorem zd_PW_cutRow_72 : decode prog_1_method_17_code 72 = .ok (.aload_n 0, 1) := by decide +kernel
theorem zd_PW_cutRow_73 : decode prog_1_method_17_code 73 = .ok (.getfield 42, 3) := by decide +kernel
theorem zd_PW_cutRow_76 : decode prog_1_method_17_code 76 = .ok (.invokevirtual 151, 3) := by decide +kernel
theorem zd_PW_cutRow_79 : decode prog_1_method_17_code 79 = .ok (.iload_n 1, 1) := by decide +kernel
theorem zd_PW_cutRow_80 : decode prog_1_method_17_code 80 = .ok (.invokevirtual 154, 3) := by decide +kernel
theorem zd_PW_cutRow_83 : decode prog_1_method_17_code 83 = .ok (.aload_n 0, 1) := by decide +kernel
theorem zd_PW_cutRow_84 : decode prog_1_method_17_code 84 = .ok (.iload_n 2, 1) := by decide +kernel
theorem zd_PW_cutRow_85 : decode prog_1_method_17_code 85 = .ok (.putfield 46, 3) := by decide +kernel
theorem zd_PW_cutRow_88 : decode prog_1_method_17_code 88 = .ok (.goto (9), 3) := by decide +kernel
theorem zd_PW_cutRow_91 : decode prog_1_method_17_code 91 = .ok (.aload_n 0, 1) := by decide +kernel
theorem zd_PW_cutRow_92 : decode prog_1_method_17_code 92 = .ok (.iconst 5, 1) := by decide +kernel
theorem zd_PW_cutRow_93 : decode prog_1_method_17_code 93 = .ok (.iload_n 1, 1) := by decide +kernel
theorem zd_PW_cutRow_94 : decode prog_1_method_17_code 94 = .ok (.invokevirtual 75, 3) := by decide +kernel
theorem zd_PW_cutRow_97 : decode prog_1_method_17_code 97 = .ok (.return_, 1) := by decide +kernel
theorem zd_PW_place_0 : decode prog_1_method_4_code 0 = .ok (.aload_n 0, 1) := by decide +kernel
theorem zd_PW_place_1 : decode prog_1_method_4_code 1 = .ok (.getfield 53, 3) := by decide +kernel
theorem zd_PW_place_4 : decode prog_1_method_4_code 4 = .ok (.ireturn, 1) := by decide +kernel
theorem zd_PW_words_0 : decode prog_1_method_5_code 0 = .ok (.aload_n 0, 1) := by decide +kernel
theorem zd_PW_words_1 : decode prog_1_method_5_code 1 = .ok (.getfield 19, 3) := by decide +kernel
theorem zd_PW_words_4 : decode prog_1_method_5_code 4 = .ok (.invokevirtual 82, 3) := by decide +kernel
theorem zd_PW_words_7 : decode prog_1_method_5_code 7 = .ok (.ireturn, 1) := by decide +kernel
theorem zd_PW_kind_0 : decode prog_1_method_6_code 0 = .ok (.aload_n 0, 1) := by decide +kernel
theorem zd_PW_kind_1 : decode prog_1_method_6_code 1 = .ok (.getfield 19, 3) := by decide +kernel
theorem zd_PW_kind_4 : decode prog_1_method_6_code 4 = .ok (.iload_n 1, 1) := by decide +kernel
theorem zd_PW_kind_5 : decode prog_1_method_6_code 5 = .ok (.invokevirtual 83, 3) := by decide +kernel
theorem zd_PW_kind_8 : decode prog_1_method_6_code 8 = .ok (.ireturn, 1) := by decide +kernel
theorem zd_PW_number_0 : decode prog_1_method_7_code 0 = .ok (.aload_n 0, 1) := by decide +kernel
theorem zd_PW_number_1 : decode prog_1_method_7_code 1 = .ok (.getfield 19, 3) := by decide +kernel
theorem zd_PW_number_4 : decode prog_1_method_7_code 4 = .ok (.iload_n 1, 1) := by decide +kernel
theorem zd_PW_number_5 : decode prog_1_method_7_code 5 = .ok (.invokevirtual 87, 3) := by decide +kernel
theorem zd_PW_number_8 : decode prog_1_method_7_code 8 = .ok (.ireturn, 1) := by decide +kernel
theorem zd_PW_begin_0 : decode prog_1_method_8_code 0 = .ok (.aload_n 0, 1) := by decide +kernel
theorem zd_PW_begin_1 : decode prog_1_method_8_code 1 = .ok (.getfield 19, 3) := by decide +kernel
theorem zd_PW_begin_4 : decode prog_1_method_8_code 4 = .ok (.iload_n 1, 1) := by decide +kernel
theorem zd_PW_begin_5 : decode prog_1_method_8_code 5 = .ok (.invokevirtual 90, 3) := by decide +kernel
theorem zd_PW_begin_8 : decode prog_1_method_8_code 8 = .ok (.ireturn, 1) := by decide +kernel
theorem zd_PW_texts_0 : decode prog_1_method_9_code 0 = .ok (.aload_n 0, 1) := by decide +kernel
theorem zd_PW_texts_1 : decode prog_1_method_9_code 1 = .ok (.getfield 26, 3) := by decide +kernel
theorem zd_PW_texts_4 : decode prog_1_method_9_code 4 = .ok (.invokevirtual 93, 3) := by decide +kernel
theorem zd_PW_texts_7 : decode prog_1_method_9_code 7 = .ok (.ireturn, 1) := by decide +kernel
theorem zd_PW_size_0 : decode prog_1_method_10_code 0 = .ok (.aload_n 0, 1) := by decide +kernel
theorem zd_PW_size_1 : decode prog_1_method_10_code 1 = .ok (.getfield 26, 3) := by decide +kernel
theorem zd_PW_size_4 : decode prog_1_method_10_code 4 = .ok (.iload_n 1, 1) := by decide +kernel
theorem zd_PW_size_5 : decode prog_1_method_10_code 5 = .ok (.invokevirtual 94, 3) := by decide +kernel
theorem zd_PW_size_8 : decode prog_1_method_10_code 8 = .ok (.ireturn, 1) := by decide +kernel
theorem zd_PW_at_0 : decode prog_1_method_11_code 0 = .ok (.aload_n 0, 1) := by decide +kernel
theorem zd_PW_at_1 : decode prog_1_method_11_code 1 = .ok (.getfield 26, 3) := by decide +kernel
theorem zd_PW_at_4 : decode prog_1_method_11_code 4 = .ok (.iload_n 1, 1) := by decide +kernel
theorem zd_PW_at_5 : decode prog_1_method_11_code 5 = .ok (.iload_n 2, 1) := by decide +kernel
theorem zd_PW_at_6 : decode prog_1_method_11_code 6 = .ok (.invokevirtual 97, 3) := by decide +kernel
theorem zd_PW_at_9 : decode prog_1_method_11_code 9 = .ok (.ireturn, 1) := by decide +kernel
