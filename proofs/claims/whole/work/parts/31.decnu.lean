theorem zd_NU_new_0 : decode prog_4_method_1_code 0 = .ok (.aload_n 0, 1) := by decide +kernel
theorem zd_NU_new_1 : decode prog_4_method_1_code 1 = .ok (.invokespecial 3, 3) := by decide +kernel
theorem zd_NU_new_4 : decode prog_4_method_1_code 4 = .ok (.aload_n 0, 1) := by decide +kernel
theorem zd_NU_new_5 : decode prog_4_method_1_code 5 = .ok (.sipush (160), 3) := by decide +kernel
theorem zd_NU_new_8 : decode prog_4_method_1_code 8 = .ok (.newarray .int, 2) := by decide +kernel
theorem zd_NU_new_10 : decode prog_4_method_1_code 10 = .ok (.putfield 11, 3) := by decide +kernel
theorem zd_NU_new_13 : decode prog_4_method_1_code 13 = .ok (.return_, 1) := by decide +kernel
theorem zd_NU_read_0 : decode prog_4_method_4_code 0 = .ok (.aload_n 1, 1) := by decide +kernel
theorem zd_NU_read_1 : decode prog_4_method_4_code 1 = .ok (.iload_n 2, 1) := by decide +kernel
theorem zd_NU_read_2 : decode prog_4_method_4_code 2 = .ok (.invokevirtual 23, 3) := by decide +kernel
theorem zd_NU_read_5 : decode prog_4_method_4_code 5 = .ok (.istore 4, 2) := by decide +kernel
theorem zd_NU_read_7 : decode prog_4_method_4_code 7 = .ok (.aload_n 0, 1) := by decide +kernel
theorem zd_NU_read_8 : decode prog_4_method_4_code 8 = .ok (.iload 4, 2) := by decide +kernel
theorem zd_NU_read_10 : decode prog_4_method_4_code 10 = .ok (.bipush (45), 2) := by decide +kernel
theorem zd_NU_read_12 : decode prog_4_method_4_code 12 = .ok (.if_icmp .ne (7), 3) := by decide +kernel
theorem zd_NU_read_15 : decode prog_4_method_4_code 15 = .ok (.iconst 1, 1) := by decide +kernel
theorem zd_NU_read_16 : decode prog_4_method_4_code 16 = .ok (.goto (4), 3) := by decide +kernel
theorem zd_NU_read_19 : decode prog_4_method_4_code 19 = .ok (.iconst 0, 1) := by decide +kernel
theorem zd_NU_read_20 : decode prog_4_method_4_code 20 = .ok (.putfield 29, 3) := by decide +kernel
theorem zd_NU_read_23 : decode prog_4_method_4_code 23 = .ok (.aload_n 0, 1) := by decide +kernel
theorem zd_NU_read_24 : decode prog_4_method_4_code 24 = .ok (.iload 4, 2) := by decide +kernel
theorem zd_NU_read_26 : decode prog_4_method_4_code 26 = .ok (.invokestatic 32, 3) := by decide +kernel
theorem zd_NU_read_29 : decode prog_4_method_4_code 29 = .ok (.ifCond .eq (9), 3) := by decide +kernel
theorem zd_NU_read_32 : decode prog_4_method_4_code 32 = .ok (.iload_n 2, 1) := by decide +kernel
theorem zd_NU_read_33 : decode prog_4_method_4_code 33 = .ok (.iconst 1, 1) := by decide +kernel
theorem zd_NU_read_34 : decode prog_4_method_4_code 34 = .ok (.iadd, 1) := by decide +kernel
theorem zd_NU_read_35 : decode prog_4_method_4_code 35 = .ok (.goto (4), 3) := by decide +kernel
theorem zd_NU_read_38 : decode prog_4_method_4_code 38 = .ok (.iload_n 2, 1) := by decide +kernel
theorem zd_NU_read_39 : decode prog_4_method_4_code 39 = .ok (.putfield 36, 3) := by decide +kernel
theorem zd_NU_read_42 : decode prog_4_method_4_code 42 = .ok (.aload_n 0, 1) := by decide +kernel
theorem zd_NU_read_43 : decode prog_4_method_4_code 43 = .ok (.aload_n 1, 1) := by decide +kernel
theorem zd_NU_read_44 : decode prog_4_method_4_code 44 = .ok (.aload_n 0, 1) := by decide +kernel
theorem zd_NU_read_45 : decode prog_4_method_4_code 45 = .ok (.getfield 36, 3) := by decide +kernel
theorem zd_NU_read_48 : decode prog_4_method_4_code 48 = .ok (.iload_n 3, 1) := by decide +kernel
theorem zd_NU_read_49 : decode prog_4_method_4_code 49 = .ok (.invokestatic 39, 3) := by decide +kernel
theorem zd_NU_read_52 : decode prog_4_method_4_code 52 = .ok (.putfield 43, 3) := by decide +kernel
theorem zd_NU_read_55 : decode prog_4_method_4_code 55 = .ok (.aload_n 0, 1) := by decide +kernel
theorem zd_NU_read_56 : decode prog_4_method_4_code 56 = .ok (.aload_n 0, 1) := by decide +kernel
theorem zd_NU_read_57 : decode prog_4_method_4_code 57 = .ok (.getfield 43, 3) := by decide +kernel
theorem zd_NU_read_60 : decode prog_4_method_4_code 60 = .ok (.aload_n 0, 1) := by decide +kernel
theorem zd_NU_read_61 : decode prog_4_method_4_code 61 = .ok (.getfield 36, 3) := by decide +kernel
theorem zd_NU_read_64 : decode prog_4_method_4_code 64 = .ok (.isub, 1) := by decide +kernel
theorem zd_NU_read_65 : decode prog_4_method_4_code 65 = .ok (.putfield 46, 3) := by decide +kernel
theorem zd_NU_read_68 : decode prog_4_method_4_code 68 = .ok (.aload_n 0, 1) := by decide +kernel
theorem zd_NU_read_69 : decode prog_4_method_4_code 69 = .ok (.getfield 43, 3) := by decide +kernel
theorem zd_NU_read_72 : decode prog_4_method_4_code 72 = .ok (.iload_n 3, 1) := by decide +kernel
theorem zd_NU_read_73 : decode prog_4_method_4_code 73 = .ok (.if_icmp .ne (20), 3) := by decide +kernel
theorem zd_NU_read_76 : decode prog_4_method_4_code 76 = .ok (.aload_n 0, 1) := by decide +kernel
theorem zd_NU_read_77 : decode prog_4_method_4_code 77 = .ok (.getfield 46, 3) := by decide +kernel
theorem zd_NU_read_80 : decode prog_4_method_4_code 80 = .ok (.ifCond .le (11), 3) := by decide +kernel
theorem zd_NU_read_83 : decode prog_4_method_4_code 83 = .ok (.aload_n 0, 1) := by decide +kernel
theorem zd_NU_read_84 : decode prog_4_method_4_code 84 = .ok (.aload_n 1, 1) := by decide +kernel
theorem zd_NU_read_85 : decode prog_4_method_4_code 85 = .ok (.invokevirtual 49, 3) := by decide +kernel
theorem zd_NU_read_88 : decode prog_4_method_4_code 88 = .ok (.goto (4), 3) := by decide +kernel
theorem zd_NU_read_91 : decode prog_4_method_4_code 91 = .ok (.iconst 3, 1) := by decide +kernel
theorem zd_NU_read_92 : decode prog_4_method_4_code 92 = .ok (.ireturn, 1) := by decide +kernel
theorem zd_NU_read_93 : decode prog_4_method_4_code 93 = .ok (.aload_n 1, 1) := by decide +kernel
theorem zd_NU_read_94 : decode prog_4_method_4_code 94 = .ok (.aload_n 0, 1) := by decide +kernel
theorem zd_NU_read_95 : decode prog_4_method_4_code 95 = .ok (.getfield 43, 3) := by decide +kernel
theorem zd_NU_read_98 : decode prog_4_method_4_code 98 = .ok (.invokevirtual 23, 3) := by decide +kernel
theorem zd_NU_read_101 : decode prog_4_method_4_code 101 = .ok (.bipush (35), 2) := by decide +kernel
theorem zd_NU_read_103 : decode prog_4_method_4_code 103 = .ok (.if_icmp .ne (22), 3) := by decide +kernel
theorem zd_NU_read_106 : decode prog_4_method_4_code 106 = .ok (.iload 4, 2) := by decide +kernel
theorem zd_NU_read_108 : decode prog_4_method_4_code 108 = .ok (.invokestatic 32, 3) := by decide +kernel
theorem zd_NU_read_111 : decode prog_4_method_4_code 111 = .ok (.ifCond .eq (7), 3) := by decide +kernel
theorem zd_NU_read_114 : decode prog_4_method_4_code 114 = .ok (.iconst 3, 1) := by decide +kernel
theorem zd_NU_read_115 : decode prog_4_method_4_code 115 = .ok (.goto (9), 3) := by decide +kernel
theorem zd_NU_read_118 : decode prog_4_method_4_code 118 = .ok (.aload_n 0, 1) := by decide +kernel
theorem zd_NU_read_119 : decode prog_4_method_4_code 119 = .ok (.aload_n 1, 1) := by decide +kernel
theorem zd_NU_read_120 : decode prog_4_method_4_code 120 = .ok (.iload_n 3, 1) := by decide +kernel
theorem zd_NU_read_121 : decode prog_4_method_4_code 121 = .ok (.invokevirtual 53, 3) := by decide +kernel
theorem zd_NU_read_124 : decode prog_4_method_4_code 124 = .ok (.ireturn, 1) := by decide +kernel
theorem zd_NU_read_125 : decode prog_4_method_4_code 125 = .ok (.aload_n 0, 1) := by decide +kernel
theorem zd_NU_read_126 : decode prog_4_method_4_code 126 = .ok (.aload_n 1, 1) := by decide +kernel
theorem zd_NU_read_127 : decode prog_4_method_4_code 127 = .ok (.iload_n 3, 1) := by decide +kernel
theorem zd_NU_read_128 : decode prog_4_method_4_code 128 = .ok (.invokevirtual 57, 3) := by decide +kernel
theorem zd_NU_read_131 : decode prog_4_method_4_code 131 = .ok (.ifCond .eq (12), 3) := by decide +kernel
theorem zd_NU_read_134 : decode prog_4_method_4_code 134 = .ok (.aload_n 0, 1) := by decide +kernel
theorem zd_NU_read_135 : decode prog_4_method_4_code 135 = .ok (.aload_n 1, 1) := by decide +kernel
theorem zd_NU_read_136 : decode prog_4_method_4_code 136 = .ok (.iload_n 3, 1) := by decide +kernel
theorem zd_NU_read_137 : decode prog_4_method_4_code 137 = .ok (.invokevirtual 61, 3) := by decide +kernel
theorem zd_NU_read_140 : decode prog_4_method_4_code 140 = .ok (.ifCond .ne (5), 3) := by decide +kernel
theorem zd_NU_read_143 : decode prog_4_method_4_code 143 = .ok (.iconst 3, 1) := by decide +kernel
theorem zd_NU_read_144 : decode prog_4_method_4_code 144 = .ok (.ireturn, 1) := by decide +kernel
theorem zd_NU_read_145 : decode prog_4_method_4_code 145 = .ok (.aload_n 0, 1) := by decide +kernel
theorem zd_NU_read_146 : decode prog_4_method_4_code 146 = .ok (.aload_n 1, 1) := by decide +kernel
theorem zd_NU_read_147 : decode prog_4_method_4_code 147 = .ok (.invokevirtual 64, 3) := by decide +kernel
theorem zd_NU_read_150 : decode prog_4_method_4_code 150 = .ok (.ireturn, 1) := by decide +kernel
theorem zd_NU_isSign_0 : decode prog_4_method_6_code 0 = .ok (.iload_n 0, 1) := by decide +kernel
theorem zd_NU_isSign_1 : decode prog_4_method_6_code 1 = .ok (.bipush (43), 2) := by decide +kernel
theorem zd_NU_isSign_3 : decode prog_4_method_6_code 3 = .ok (.if_icmp .eq (9), 3) := by decide +kernel
theorem zd_NU_isSign_6 : decode prog_4_method_6_code 6 = .ok (.iload_n 0, 1) := by decide +kernel
theorem zd_NU_isSign_7 : decode prog_4_method_6_code 7 = .ok (.bipush (45), 2) := by decide +kernel
theorem zd_NU_isSign_9 : decode prog_4_method_6_code 9 = .ok (.if_icmp .ne (7), 3) := by decide +kernel
theorem zd_NU_isSign_12 : decode prog_4_method_6_code 12 = .ok (.iconst 1, 1) := by decide +kernel
theorem zd_NU_isSign_13 : decode prog_4_method_6_code 13 = .ok (.goto (4), 3) := by decide +kernel
theorem zd_NU_isSign_16 : decode prog_4_method_6_code 16 = .ok (.iconst 0, 1) := by decide +kernel
theorem zd_NU_isSign_17 : decode prog_4_method_6_code 17 = .ok (.ireturn, 1) := by decide +kernel
theorem zd_NU_skipDigits_0 : decode prog_4_method_5_code 0 = .ok (.iload_n 1, 1) := by decide +kernel
theorem zd_NU_skipDigits_1 : decode prog_4_method_5_code 1 = .ok (.istore_n 3, 1) := by decide +kernel
theorem zd_NU_skipDigits_2 : decode prog_4_method_5_code 2 = .ok (.iload_n 3, 1) := by decide +kernel
theorem zd_NU_skipDigits_3 : decode prog_4_method_5_code 3 = .ok (.iload_n 2, 1) := by decide +kernel
theorem zd_NU_skipDigits_4 : decode prog_4_method_5_code 4 = .ok (.if_icmp .ge (20), 3) := by decide +kernel
theorem zd_NU_skipDigits_7 : decode prog_4_method_5_code 7 = .ok (.aload_n 0, 1) := by decide +kernel
theorem zd_NU_skipDigits_8 : decode prog_4_method_5_code 8 = .ok (.iload_n 3, 1) := by decide +kernel
theorem zd_NU_skipDigits_9 : decode prog_4_method_5_code 9 = .ok (.invokevirtual 23, 3) := by decide +kernel
theorem zd_NU_skipDigits_12 : decode prog_4_method_5_code 12 = .ok (.invokestatic 67, 3) := by decide +kernel
theorem zd_NU_skipDigits_15 : decode prog_4_method_5_code 15 = .ok (.ifCond .eq (9), 3) := by decide +kernel
theorem zd_NU_skipDigits_18 : decode prog_4_method_5_code 18 = .ok (.iinc 3 (1), 3) := by decide +kernel
theorem zd_NU_skipDigits_21 : decode prog_4_method_5_code 21 = .ok (.goto (-19), 3) := by decide +kernel
theorem zd_NU_skipDigits_24 : decode prog_4_method_5_code 24 = .ok (.iload_n 3, 1) := by decide +kernel
theorem zd_NU_skipDigits_25 : decode prog_4_method_5_code 25 = .ok (.ireturn, 1) := by decide +kernel
theorem zd_NU_isDigit_0 : decode prog_4_method_7_code 0 = .ok (.iload_n 0, 1) := by decide +kernel
theorem zd_NU_isDigit_1 : decode prog_4_method_7_code 1 = .ok (.bipush (48), 2) := by decide +kernel
theorem zd_NU_isDigit_3 : decode prog_4_method_7_code 3 = .ok (.if_icmp .lt (13), 3) := by decide +kernel
theorem zd_NU_isDigit_6 : decode prog_4_method_7_code 6 = .ok (.iload_n 0, 1) := by decide +kernel
theorem zd_NU_isDigit_7 : decode prog_4_method_7_code 7 = .ok (.bipush (57), 2) := by decide +kernel
theorem zd_NU_isDigit_9 : decode prog_4_method_7_code 9 = .ok (.if_icmp .gt (7), 3) := by decide +kernel
theorem zd_NU_isDigit_12 : decode prog_4_method_7_code 12 = .ok (.iconst 1, 1) := by decide +kernel
theorem zd_NU_isDigit_13 : decode prog_4_method_7_code 13 = .ok (.goto (4), 3) := by decide +kernel
theorem zd_NU_isDigit_16 : decode prog_4_method_7_code 16 = .ok (.iconst 0, 1) := by decide +kernel
theorem zd_NU_isDigit_17 : decode prog_4_method_7_code 17 = .ok (.ireturn, 1) := by decide +kernel
theorem zd_NU_readWhole_0 : decode prog_4_method_8_code 0 = .ok (.aload_n 1, 1) := by decide +kernel
theorem zd_NU_readWhole_1 : decode prog_4_method_8_code 1 = .ok (.aload_n 0, 1) := by decide +kernel
theorem zd_NU_readWhole_2 : decode prog_4_method_8_code 2 = .ok (.getfield 36, 3) := by decide +kernel
theorem zd_NU_readWhole_5 : decode prog_4_method_8_code 5 = .ok (.aload_n 0, 1) := by decide +kernel
theorem zd_NU_readWhole_6 : decode prog_4_method_8_code 6 = .ok (.getfield 43, 3) := by decide +kernel
theorem zd_NU_readWhole_9 : decode prog_4_method_8_code 9 = .ok (.bipush (10), 2) := by decide +kernel
theorem zd_NU_readWhole_11 : decode prog_4_method_8_code 11 = .ok (.invokestatic 70, 3) := by decide +kernel
theorem zd_NU_readWhole_14 : decode prog_4_method_8_code 14 = .ok (.lstore_n 2, 1) := by decide +kernel
theorem zd_NU_readWhole_15 : decode prog_4_method_8_code 15 = .ok (.aload_n 0, 1) := by decide +kernel
theorem zd_NU_readWhole_16 : decode prog_4_method_8_code 16 = .ok (.lload_n 2, 1) := by decide +kernel
theorem zd_NU_readWhole_17 : decode prog_4_method_8_code 17 = .ok (.ldc2_w 74, 3) := by decide +kernel
theorem zd_NU_readWhole_20 : decode prog_4_method_8_code 20 = .ok (.lcmp, 1) := by decide +kernel
theorem zd_NU_readWhole_21 : decode prog_4_method_8_code 21 = .ok (.ifCond .lt (18), 3) := by decide +kernel
theorem zd_NU_readWhole_24 : decode prog_4_method_8_code 24 = .ok (.aload_n 0, 1) := by decide +kernel
theorem zd_NU_readWhole_25 : decode prog_4_method_8_code 25 = .ok (.getfield 29, 3) := by decide +kernel
theorem zd_NU_readWhole_28 : decode prog_4_method_8_code 28 = .ok (.ifCond .eq (15), 3) := by decide +kernel
theorem zd_NU_readWhole_31 : decode prog_4_method_8_code 31 = .ok (.lload_n 2, 1) := by decide +kernel
theorem zd_NU_readWhole_32 : decode prog_4_method_8_code 32 = .ok (.ldc2_w 74, 3) := by decide +kernel
theorem zd_NU_readWhole_35 : decode prog_4_method_8_code 35 = .ok (.lcmp, 1) := by decide +kernel
theorem zd_NU_readWhole_36 : decode prog_4_method_8_code 36 = .ok (.ifCond .ne (7), 3) := by decide +kernel
theorem zd_NU_readWhole_39 : decode prog_4_method_8_code 39 = .ok (.iconst 1, 1) := by decide +kernel
theorem zd_NU_readWhole_40 : decode prog_4_method_8_code 40 = .ok (.goto (4), 3) := by decide +kernel
theorem zd_NU_readWhole_43 : decode prog_4_method_8_code 43 = .ok (.iconst 0, 1) := by decide +kernel
theorem zd_NU_readWhole_44 : decode prog_4_method_8_code 44 = .ok (.putfield 19, 3) := by decide +kernel
theorem zd_NU_readWhole_47 : decode prog_4_method_8_code 47 = .ok (.aload_n 0, 1) := by decide +kernel
theorem zd_NU_readWhole_48 : decode prog_4_method_8_code 48 = .ok (.aload_n 0, 1) := by decide +kernel
theorem zd_NU_readWhole_49 : decode prog_4_method_8_code 49 = .ok (.getfield 29, 3) := by decide +kernel
theorem zd_NU_readWhole_52 : decode prog_4_method_8_code 52 = .ok (.ifCond .eq (8), 3) := by decide +kernel
theorem zd_NU_readWhole_55 : decode prog_4_method_8_code 55 = .ok (.lload_n 2, 1) := by decide +kernel
theorem zd_NU_readWhole_56 : decode prog_4_method_8_code 56 = .ok (.lneg, 1) := by decide +kernel
theorem zd_NU_readWhole_57 : decode prog_4_method_8_code 57 = .ok (.goto (4), 3) := by decide +kernel
theorem zd_NU_readWhole_60 : decode prog_4_method_8_code 60 = .ok (.lload_n 2, 1) := by decide +kernel
theorem zd_NU_readWhole_61 : decode prog_4_method_8_code 61 = .ok (.l2i, 1) := by decide +kernel
theorem zd_NU_readWhole_62 : decode prog_4_method_8_code 62 = .ok (.putfield 15, 3) := by decide +kernel
theorem zd_NU_readWhole_65 : decode prog_4_method_8_code 65 = .ok (.iconst 1, 1) := by decide +kernel
theorem zd_NU_readWhole_66 : decode prog_4_method_8_code 66 = .ok (.ireturn, 1) := by decide +kernel
theorem zd_NU_sumDigits_0 : decode prog_4_method_10_code 0 = .ok (.lconst 0, 1) := by decide +kernel
theorem zd_NU_sumDigits_1 : decode prog_4_method_10_code 1 = .ok (.lstore 4, 2) := by decide +kernel
theorem zd_NU_sumDigits_3 : decode prog_4_method_10_code 3 = .ok (.iload_n 1, 1) := by decide +kernel
theorem zd_NU_sumDigits_4 : decode prog_4_method_10_code 4 = .ok (.istore 6, 2) := by decide +kernel
theorem zd_NU_sumDigits_6 : decode prog_4_method_10_code 6 = .ok (.iload 6, 2) := by decide +kernel
theorem zd_NU_sumDigits_8 : decode prog_4_method_10_code 8 = .ok (.iload_n 2, 1) := by decide +kernel
theorem zd_NU_sumDigits_9 : decode prog_4_method_10_code 9 = .ok (.if_icmp .ge (33), 3) := by decide +kernel
theorem zd_NU_sumDigits_12 : decode prog_4_method_10_code 12 = .ok (.ldc2_w 79, 3) := by decide +kernel
theorem zd_NU_sumDigits_15 : decode prog_4_method_10_code 15 = .ok (.iload_n 3, 1) := by decide +kernel
theorem zd_NU_sumDigits_16 : decode prog_4_method_10_code 16 = .ok (.i2l, 1) := by decide +kernel
theorem zd_NU_sumDigits_17 : decode prog_4_method_10_code 17 = .ok (.lload 4, 2) := by decide +kernel
theorem zd_NU_sumDigits_19 : decode prog_4_method_10_code 19 = .ok (.lmul, 1) := by decide +kernel
theorem zd_NU_sumDigits_20 : decode prog_4_method_10_code 20 = .ok (.aload_n 0, 1) := by decide +kernel
theorem zd_NU_sumDigits_21 : decode prog_4_method_10_code 21 = .ok (.iload 6, 2) := by decide +kernel
theorem zd_NU_sumDigits_23 : decode prog_4_method_10_code 23 = .ok (.invokevirtual 23, 3) := by decide +kernel
theorem zd_NU_sumDigits_26 : decode prog_4_method_10_code 26 = .ok (.invokestatic 76, 3) := by decide +kernel
theorem zd_NU_sumDigits_29 : decode prog_4_method_10_code 29 = .ok (.i2l, 1) := by decide +kernel
theorem zd_NU_sumDigits_30 : decode prog_4_method_10_code 30 = .ok (.ladd, 1) := by decide +kernel
theorem zd_NU_sumDigits_31 : decode prog_4_method_10_code 31 = .ok (.invokestatic 81, 3) := by decide +kernel
theorem zd_NU_sumDigits_34 : decode prog_4_method_10_code 34 = .ok (.lstore 4, 2) := by decide +kernel
theorem zd_NU_sumDigits_36 : decode prog_4_method_10_code 36 = .ok (.iinc 6 (1), 3) := by decide +kernel
theorem zd_NU_sumDigits_39 : decode prog_4_method_10_code 39 = .ok (.goto (-33), 3) := by decide +kernel
theorem zd_NU_sumDigits_42 : decode prog_4_method_10_code 42 = .ok (.lload 4, 2) := by decide +kernel
theorem zd_NU_sumDigits_44 : decode prog_4_method_10_code 44 = .ok (.lreturn, 1) := by decide +kernel
theorem zd_NU_readWithBase_0 : decode prog_4_method_9_code 0 = .ok (.aload_n 1, 1) := by decide +kernel
theorem zd_NU_readWithBase_1 : decode prog_4_method_9_code 1 = .ok (.aload_n 0, 1) := by decide +kernel
theorem zd_NU_readWithBase_2 : decode prog_4_method_9_code 2 = .ok (.getfield 36, 3) := by decide +kernel
theorem zd_NU_readWithBase_5 : decode prog_4_method_9_code 5 = .ok (.aload_n 0, 1) := by decide +kernel
theorem zd_NU_readWithBase_6 : decode prog_4_method_9_code 6 = .ok (.getfield 43, 3) := by decide +kernel
theorem zd_NU_readWithBase_9 : decode prog_4_method_9_code 9 = .ok (.bipush (10), 2) := by decide +kernel
theorem zd_NU_readWithBase_11 : decode prog_4_method_9_code 11 = .ok (.invokestatic 70, 3) := by decide +kernel
theorem zd_NU_readWithBase_14 : decode prog_4_method_9_code 14 = .ok (.l2i, 1) := by decide +kernel
theorem zd_NU_readWithBase_15 : decode prog_4_method_9_code 15 = .ok (.istore_n 3, 1) := by decide +kernel
theorem zd_NU_readWithBase_16 : decode prog_4_method_9_code 16 = .ok (.aload_n 0, 1) := by decide +kernel
theorem zd_NU_readWithBase_17 : decode prog_4_method_9_code 17 = .ok (.getfield 43, 3) := by decide +kernel
theorem zd_NU_readWithBase_20 : decode prog_4_method_9_code 20 = .ok (.iconst 1, 1) := by decide +kernel
theorem zd_NU_readWithBase_21 : decode prog_4_method_9_code 21 = .ok (.iadd, 1) := by decide +kernel
theorem zd_NU_readWithBase_22 : decode prog_4_method_9_code 22 = .ok (.istore 4, 2) := by decide +kernel
theorem zd_NU_readWithBase_24 : decode prog_4_method_9_code 24 = .ok (.aload_n 0, 1) := by decide +kernel
theorem zd_NU_readWithBase_25 : decode prog_4_method_9_code 25 = .ok (.getfield 46, 3) := by decide +kernel
theorem zd_NU_readWithBase_28 : decode prog_4_method_9_code 28 = .ok (.iconst 2, 1) := by decide +kernel
theorem zd_NU_readWithBase_29 : decode prog_4_method_9_code 29 = .ok (.if_icmp .gt (20), 3) := by decide +kernel
theorem zd_NU_readWithBase_32 : decode prog_4_method_9_code 32 = .ok (.iload_n 3, 1) := by decide +kernel
theorem zd_NU_readWithBase_33 : decode prog_4_method_9_code 33 = .ok (.iconst 2, 1) := by decide +kernel
theorem zd_NU_readWithBase_34 : decode prog_4_method_9_code 34 = .ok (.if_icmp .lt (15), 3) := by decide +kernel
theorem zd_NU_readWithBase_37 : decode prog_4_method_9_code 37 = .ok (.iload_n 3, 1) := by decide +kernel
theorem zd_NU_readWithBase_38 : decode prog_4_method_9_code 38 = .ok (.bipush (36), 2) := by decide +kernel
theorem zd_NU_readWithBase_40 : decode prog_4_method_9_code 40 = .ok (.if_icmp .gt (9), 3) := by decide +kernel
theorem zd_NU_readWithBase_43 : decode prog_4_method_9_code 43 = .ok (.iload 4, 2) := by decide +kernel
theorem zd_NU_readWithBase_45 : decode prog_4_method_9_code 45 = .ok (.iload_n 2, 1) := by decide +kernel
theorem zd_NU_readWithBase_46 : decode prog_4_method_9_code 46 = .ok (.if_icmp .lt (5), 3) := by decide +kernel
theorem zd_NU_readWithBase_49 : decode prog_4_method_9_code 49 = .ok (.iconst 3, 1) := by decide +kernel
theorem zd_NU_readWithBase_50 : decode prog_4_method_9_code 50 = .ok (.ireturn, 1) := by decide +kernel
theorem zd_NU_readWithBase_51 : decode prog_4_method_9_code 51 = .ok (.iload 4, 2) := by decide +kernel
theorem zd_NU_readWithBase_53 : decode prog_4_method_9_code 53 = .ok (.istore 5, 2) := by decide +kernel
theorem zd_NU_readWithBase_55 : decode prog_4_method_9_code 55 = .ok (.iload 5, 2) := by decide +kernel
theorem zd_NU_readWithBase_57 : decode prog_4_method_9_code 57 = .ok (.iload_n 2, 1) := by decide +kernel
theorem zd_NU_readWithBase_58 : decode prog_4_method_9_code 58 = .ok (.if_icmp .ge (33), 3) := by decide +kernel
theorem zd_NU_readWithBase_61 : decode prog_4_method_9_code 61 = .ok (.aload_n 1, 1) := by decide +kernel
theorem zd_NU_readWithBase_62 : decode prog_4_method_9_code 62 = .ok (.iload 5, 2) := by decide +kernel
theorem zd_NU_readWithBase_64 : decode prog_4_method_9_code 64 = .ok (.invokevirtual 23, 3) := by decide +kernel
theorem zd_NU_readWithBase_67 : decode prog_4_method_9_code 67 = .ok (.invokestatic 76, 3) := by decide +kernel
theorem zd_NU_readWithBase_70 : decode prog_4_method_9_code 70 = .ok (.istore 6, 2) := by decide +kernel
theorem zd_NU_readWithBase_72 : decode prog_4_method_9_code 72 = .ok (.iload 6, 2) := by decide +kernel
theorem zd_NU_readWithBase_74 : decode prog_4_method_9_code 74 = .ok (.ifCond .lt (9), 3) := by decide +kernel
theorem zd_NU_readWithBase_77 : decode prog_4_method_9_code 77 = .ok (.iload 6, 2) := by decide +kernel
theorem zd_NU_readWithBase_79 : decode prog_4_method_9_code 79 = .ok (.iload_n 3, 1) := by decide +kernel
theorem zd_NU_readWithBase_80 : decode prog_4_method_9_code 80 = .ok (.if_icmp .lt (5), 3) := by decide +kernel
theorem zd_NU_readWithBase_83 : decode prog_4_method_9_code 83 = .ok (.iconst 3, 1) := by decide +kernel
theorem zd_NU_readWithBase_84 : decode prog_4_method_9_code 84 = .ok (.ireturn, 1) := by decide +kernel
theorem zd_NU_readWithBase_85 : decode prog_4_method_9_code 85 = .ok (.iinc 5 (1), 3) := by decide +kernel
theorem zd_NU_readWithBase_88 : decode prog_4_method_9_code 88 = .ok (.goto (-33), 3) := by decide +kernel
theorem zd_NU_readWithBase_91 : decode prog_4_method_9_code 91 = .ok (.aload_n 1, 1) := by decide +kernel
theorem zd_NU_readWithBase_92 : decode prog_4_method_9_code 92 = .ok (.iload 4, 2) := by decide +kernel
theorem zd_NU_readWithBase_94 : decode prog_4_method_9_code 94 = .ok (.iload_n 2, 1) := by decide +kernel
theorem zd_NU_readWithBase_95 : decode prog_4_method_9_code 95 = .ok (.iload_n 3, 1) := by decide +kernel
theorem zd_NU_readWithBase_96 : decode prog_4_method_9_code 96 = .ok (.invokestatic 70, 3) := by decide +kernel
theorem zd_NU_readWithBase_99 : decode prog_4_method_9_code 99 = .ok (.lstore 5, 2) := by decide +kernel
theorem zd_NU_readWithBase_101 : decode prog_4_method_9_code 101 = .ok (.aload_n 0, 1) := by decide +kernel
theorem zd_NU_readWithBase_102 : decode prog_4_method_9_code 102 = .ok (.lload 5, 2) := by decide +kernel
theorem zd_NU_readWithBase_104 : decode prog_4_method_9_code 104 = .ok (.ldc2_w 79, 3) := by decide +kernel
theorem zd_NU_readWithBase_107 : decode prog_4_method_9_code 107 = .ok (.lcmp, 1) := by decide +kernel
theorem zd_NU_readWithBase_108 : decode prog_4_method_9_code 108 = .ok (.ifCond .ge (7), 3) := by decide +kernel
theorem zd_NU_readWithBase_111 : decode prog_4_method_9_code 111 = .ok (.iconst 1, 1) := by decide +kernel
theorem zd_NU_readWithBase_112 : decode prog_4_method_9_code 112 = .ok (.goto (4), 3) := by decide +kernel
theorem zd_NU_readWithBase_115 : decode prog_4_method_9_code 115 = .ok (.iconst 0, 1) := by decide +kernel
theorem zd_NU_readWithBase_116 : decode prog_4_method_9_code 116 = .ok (.putfield 19, 3) := by decide +kernel
theorem zd_NU_readWithBase_119 : decode prog_4_method_9_code 119 = .ok (.aload_n 0, 1) := by decide +kernel
theorem zd_NU_readWithBase_120 : decode prog_4_method_9_code 120 = .ok (.lload 5, 2) := by decide +kernel
theorem zd_NU_readWithBase_122 : decode prog_4_method_9_code 122 = .ok (.l2i, 1) := by decide +kernel
theorem zd_NU_readWithBase_123 : decode prog_4_method_9_code 123 = .ok (.putfield 15, 3) := by decide +kernel
theorem zd_NU_readWithBase_126 : decode prog_4_method_9_code 126 = .ok (.iconst 1, 1) := by decide +kernel
theorem zd_NU_readWithBase_127 : decode prog_4_method_9_code 127 = .ok (.ireturn, 1) := by decide +kernel
theorem zd_NU_findFraction_0 : decode prog_4_method_11_code 0 = .ok (.aload_n 0, 1) := by decide +kernel
theorem zd_NU_findFraction_1 : decode prog_4_method_11_code 1 = .ok (.getfield 46, 3) := by decide +kernel
theorem zd_NU_findFraction_4 : decode prog_4_method_11_code 4 = .ok (.istore_n 3, 1) := by decide +kernel
theorem zd_NU_findFraction_5 : decode prog_4_method_11_code 5 = .ok (.aload_n 1, 1) := by decide +kernel
theorem zd_NU_findFraction_6 : decode prog_4_method_11_code 6 = .ok (.aload_n 0, 1) := by decide +kernel
theorem zd_NU_findFraction_7 : decode prog_4_method_11_code 7 = .ok (.getfield 43, 3) := by decide +kernel
theorem zd_NU_findFraction_10 : decode prog_4_method_11_code 10 = .ok (.invokevirtual 23, 3) := by decide +kernel
theorem zd_NU_findFraction_13 : decode prog_4_method_11_code 13 = .ok (.bipush (46), 2) := by decide +kernel
theorem zd_NU_findFraction_15 : decode prog_4_method_11_code 15 = .ok (.if_icmp .ne (32), 3) := by decide +kernel
theorem zd_NU_findFraction_18 : decode prog_4_method_11_code 18 = .ok (.aload_n 0, 1) := by decide +kernel
theorem zd_NU_findFraction_19 : decode prog_4_method_11_code 19 = .ok (.getfield 43, 3) := by decide +kernel
theorem zd_NU_findFraction_22 : decode prog_4_method_11_code 22 = .ok (.iconst 1, 1) := by decide +kernel
theorem zd_NU_findFraction_23 : decode prog_4_method_11_code 23 = .ok (.iadd, 1) := by decide +kernel
theorem zd_NU_findFraction_24 : decode prog_4_method_11_code 24 = .ok (.istore 4, 2) := by decide +kernel
theorem zd_NU_findFraction_26 : decode prog_4_method_11_code 26 = .ok (.aload_n 0, 1) := by decide +kernel
theorem zd_NU_findFraction_27 : decode prog_4_method_11_code 27 = .ok (.aload_n 1, 1) := by decide +kernel
theorem zd_NU_findFraction_28 : decode prog_4_method_11_code 28 = .ok (.iload 4, 2) := by decide +kernel
theorem zd_NU_findFraction_30 : decode prog_4_method_11_code 30 = .ok (.iload_n 2, 1) := by decide +kernel
theorem zd_NU_findFraction_31 : decode prog_4_method_11_code 31 = .ok (.invokestatic 39, 3) := by decide +kernel
theorem zd_NU_findFraction_34 : decode prog_4_method_11_code 34 = .ok (.putfield 43, 3) := by decide +kernel
theorem zd_NU_findFraction_37 : decode prog_4_method_11_code 37 = .ok (.iload_n 3, 1) := by decide +kernel
theorem zd_NU_findFraction_38 : decode prog_4_method_11_code 38 = .ok (.aload_n 0, 1) := by decide +kernel
theorem zd_NU_findFraction_39 : decode prog_4_method_11_code 39 = .ok (.getfield 43, 3) := by decide +kernel
theorem zd_NU_findFraction_42 : decode prog_4_method_11_code 42 = .ok (.iload 4, 2) := by decide +kernel
theorem zd_NU_findFraction_44 : decode prog_4_method_11_code 44 = .ok (.isub, 1) := by decide +kernel
theorem zd_NU_findFraction_45 : decode prog_4_method_11_code 45 = .ok (.iadd, 1) := by decide +kernel
theorem zd_NU_findFraction_46 : decode prog_4_method_11_code 46 = .ok (.istore_n 3, 1) := by decide +kernel
theorem zd_NU_findFraction_47 : decode prog_4_method_11_code 47 = .ok (.iload_n 3, 1) := by decide +kernel
theorem zd_NU_findFraction_48 : decode prog_4_method_11_code 48 = .ok (.ifCond .le (7), 3) := by decide +kernel
theorem zd_NU_findFraction_51 : decode prog_4_method_11_code 51 = .ok (.iconst 1, 1) := by decide +kernel
theorem zd_NU_findFraction_52 : decode prog_4_method_11_code 52 = .ok (.goto (4), 3) := by decide +kernel
theorem zd_NU_findFraction_55 : decode prog_4_method_11_code 55 = .ok (.iconst 0, 1) := by decide +kernel
theorem zd_NU_findFraction_56 : decode prog_4_method_11_code 56 = .ok (.ireturn, 1) := by decide +kernel
theorem zd_NU_findExponent_0 : decode prog_4_method_12_code 0 = .ok (.aload_n 0, 1) := by decide +kernel
theorem zd_NU_findExponent_1 : decode prog_4_method_12_code 1 = .ok (.iconst 0, 1) := by decide +kernel
theorem zd_NU_findExponent_2 : decode prog_4_method_12_code 2 = .ok (.putfield 87, 3) := by decide +kernel
theorem zd_NU_findExponent_5 : decode prog_4_method_12_code 5 = .ok (.aload_n 0, 1) := by decide +kernel
theorem zd_NU_findExponent_6 : decode prog_4_method_12_code 6 = .ok (.getfield 43, 3) := by decide +kernel
theorem zd_NU_findExponent_9 : decode prog_4_method_12_code 9 = .ok (.iload_n 2, 1) := by decide +kernel
theorem zd_NU_findExponent_10 : decode prog_4_method_12_code 10 = .ok (.if_icmp .ne (5), 3) := by decide +kernel
theorem zd_NU_findExponent_13 : decode prog_4_method_12_code 13 = .ok (.iconst 1, 1) := by decide +kernel
theorem zd_NU_findExponent_14 : decode prog_4_method_12_code 14 = .ok (.ireturn, 1) := by decide +kernel
theorem zd_NU_findExponent_15 : decode prog_4_method_12_code 15 = .ok (.aload_n 1, 1) := by decide +kernel
theorem zd_NU_findExponent_16 : decode prog_4_method_12_code 16 = .ok (.aload_n 0, 1) := by decide +kernel
theorem zd_NU_findExponent_17 : decode prog_4_method_12_code 17 = .ok (.getfield 43, 3) := by decide +kernel
theorem zd_NU_findExponent_20 : decode prog_4_method_12_code 20 = .ok (.invokevirtual 23, 3) := by decide +kernel
theorem zd_NU_findExponent_23 : decode prog_4_method_12_code 23 = .ok (.istore_n 3, 1) := by decide +kernel
theorem zd_NU_findExponent_24 : decode prog_4_method_12_code 24 = .ok (.aload_n 1, 1) := by decide +kernel
theorem zd_NU_findExponent_25 : decode prog_4_method_12_code 25 = .ok (.aload_n 0, 1) := by decide +kernel
theorem zd_NU_findExponent_26 : decode prog_4_method_12_code 26 = .ok (.getfield 43, 3) := by decide +kernel
theorem zd_NU_findExponent_29 : decode prog_4_method_12_code 29 = .ok (.iconst 1, 1) := by decide +kernel
theorem zd_NU_findExponent_30 : decode prog_4_method_12_code 30 = .ok (.iadd, 1) := by decide +kernel
theorem zd_NU_findExponent_31 : decode prog_4_method_12_code 31 = .ok (.invokevirtual 23, 3) := by decide +kernel
theorem zd_NU_findExponent_34 : decode prog_4_method_12_code 34 = .ok (.istore 4, 2) := by decide +kernel
theorem zd_NU_findExponent_36 : decode prog_4_method_12_code 36 = .ok (.aload_n 0, 1) := by decide +kernel
theorem zd_NU_findExponent_37 : decode prog_4_method_12_code 37 = .ok (.getfield 43, 3) := by decide +kernel
theorem zd_NU_findExponent_40 : decode prog_4_method_12_code 40 = .ok (.iload 4, 2) := by decide +kernel
theorem zd_NU_findExponent_42 : decode prog_4_method_12_code 42 = .ok (.invokestatic 32, 3) := by decide +kernel
theorem zd_NU_findExponent_45 : decode prog_4_method_12_code 45 = .ok (.ifCond .eq (7), 3) := by decide +kernel
theorem zd_NU_findExponent_48 : decode prog_4_method_12_code 48 = .ok (.iconst 2, 1) := by decide +kernel
theorem zd_NU_findExponent_49 : decode prog_4_method_12_code 49 = .ok (.goto (4), 3) := by decide +kernel
theorem zd_NU_findExponent_52 : decode prog_4_method_12_code 52 = .ok (.iconst 1, 1) := by decide +kernel
theorem zd_NU_findExponent_53 : decode prog_4_method_12_code 53 = .ok (.iadd, 1) := by decide +kernel
theorem zd_NU_findExponent_54 : decode prog_4_method_12_code 54 = .ok (.istore 5, 2) := by decide +kernel
theorem zd_NU_findExponent_56 : decode prog_4_method_12_code 56 = .ok (.iload_n 3, 1) := by decide +kernel
theorem zd_NU_findExponent_57 : decode prog_4_method_12_code 57 = .ok (.bipush (101), 2) := by decide +kernel
theorem zd_NU_findExponent_59 : decode prog_4_method_12_code 59 = .ok (.if_icmp .eq (9), 3) := by decide +kernel
theorem zd_NU_findExponent_62 : decode prog_4_method_12_code 62 = .ok (.iload_n 3, 1) := by decide +kernel
theorem zd_NU_findExponent_63 : decode prog_4_method_12_code 63 = .ok (.bipush (69), 2) := by decide +kernel
theorem zd_NU_findExponent_65 : decode prog_4_method_12_code 65 = .ok (.if_icmp .ne (20), 3) := by decide +kernel
theorem zd_NU_findExponent_68 : decode prog_4_method_12_code 68 = .ok (.iload 5, 2) := by decide +kernel
theorem zd_NU_findExponent_70 : decode prog_4_method_12_code 70 = .ok (.iload_n 2, 1) := by decide +kernel
theorem zd_NU_findExponent_71 : decode prog_4_method_12_code 71 = .ok (.if_icmp .ge (14), 3) := by decide +kernel
theorem zd_NU_findExponent_74 : decode prog_4_method_12_code 74 = .ok (.aload_n 1, 1) := by decide +kernel
theorem zd_NU_findExponent_75 : decode prog_4_method_12_code 75 = .ok (.iload 5, 2) := by decide +kernel
theorem zd_NU_findExponent_77 : decode prog_4_method_12_code 77 = .ok (.iload_n 2, 1) := by decide +kernel
theorem zd_NU_findExponent_78 : decode prog_4_method_12_code 78 = .ok (.invokestatic 39, 3) := by decide +kernel
theorem zd_NU_findExponent_81 : decode prog_4_method_12_code 81 = .ok (.iload_n 2, 1) := by decide +kernel
theorem zd_NU_findExponent_82 : decode prog_4_method_12_code 82 = .ok (.if_icmp .eq (5), 3) := by decide +kernel
theorem zd_NU_findExponent_85 : decode prog_4_method_12_code 85 = .ok (.iconst 0, 1) := by decide +kernel
theorem zd_NU_findExponent_86 : decode prog_4_method_12_code 86 = .ok (.ireturn, 1) := by decide +kernel
theorem zd_NU_findExponent_87 : decode prog_4_method_12_code 87 = .ok (.ldc2_w 90, 3) := by decide +kernel
theorem zd_NU_findExponent_90 : decode prog_4_method_12_code 90 = .ok (.aload_n 1, 1) := by decide +kernel
theorem zd_NU_findExponent_91 : decode prog_4_method_12_code 91 = .ok (.iload 5, 2) := by decide +kernel
theorem zd_NU_findExponent_93 : decode prog_4_method_12_code 93 = .ok (.iload_n 2, 1) := by decide +kernel
theorem zd_NU_findExponent_94 : decode prog_4_method_12_code 94 = .ok (.bipush (10), 2) := by decide +kernel
theorem zd_NU_findExponent_96 : decode prog_4_method_12_code 96 = .ok (.invokestatic 70, 3) := by decide +kernel
theorem zd_NU_findExponent_99 : decode prog_4_method_12_code 99 = .ok (.invokestatic 81, 3) := by decide +kernel
theorem zd_NU_findExponent_102 : decode prog_4_method_12_code 102 = .ok (.l2i, 1) := by decide +kernel
theorem zd_NU_findExponent_103 : decode prog_4_method_12_code 103 = .ok (.istore 6, 2) := by decide +kernel
theorem zd_NU_findExponent_105 : decode prog_4_method_12_code 105 = .ok (.aload_n 0, 1) := by decide +kernel
theorem zd_NU_findExponent_106 : decode prog_4_method_12_code 106 = .ok (.iload 4, 2) := by decide +kernel
theorem zd_NU_findExponent_108 : decode prog_4_method_12_code 108 = .ok (.bipush (45), 2) := by decide +kernel
theorem zd_NU_findExponent_110 : decode prog_4_method_12_code 110 = .ok (.if_icmp .ne (9), 3) := by decide +kernel
theorem zd_NU_findExponent_113 : decode prog_4_method_12_code 113 = .ok (.iload 6, 2) := by decide +kernel
theorem zd_NU_findExponent_115 : decode prog_4_method_12_code 115 = .ok (.ineg, 1) := by decide +kernel
theorem zd_NU_findExponent_116 : decode prog_4_method_12_code 116 = .ok (.goto (5), 3) := by decide +kernel
theorem zd_NU_findExponent_119 : decode prog_4_method_12_code 119 = .ok (.iload 6, 2) := by decide +kernel
theorem zd_NU_findExponent_121 : decode prog_4_method_12_code 121 = .ok (.putfield 87, 3) := by decide +kernel
theorem zd_NU_findExponent_124 : decode prog_4_method_12_code 124 = .ok (.iconst 1, 1) := by decide +kernel
theorem zd_NU_findExponent_125 : decode prog_4_method_12_code 125 = .ok (.ireturn, 1) := by decide +kernel
theorem zd_NU_readReal_0 : decode prog_4_method_13_code 0 = .ok (.aload_n 0, 1) := by decide +kernel
theorem zd_NU_readReal_1 : decode prog_4_method_13_code 1 = .ok (.iconst 1, 1) := by decide +kernel
theorem zd_NU_readReal_2 : decode prog_4_method_13_code 2 = .ok (.putfield 19, 3) := by decide +kernel
theorem zd_NU_readReal_5 : decode prog_4_method_13_code 5 = .ok (.aload_n 0, 1) := by decide +kernel
theorem zd_NU_readReal_6 : decode prog_4_method_13_code 6 = .ok (.aload_n 1, 1) := by decide +kernel
theorem zd_NU_readReal_7 : decode prog_4_method_13_code 7 = .ok (.invokevirtual 92, 3) := by decide +kernel
theorem zd_NU_readReal_10 : decode prog_4_method_13_code 10 = .ok (.lstore_n 2, 1) := by decide +kernel
theorem zd_NU_readReal_11 : decode prog_4_method_13_code 11 = .ok (.lload_n 2, 1) := by decide +kernel
theorem zd_NU_readReal_12 : decode prog_4_method_13_code 12 = .ok (.ldc2_w 96, 3) := by decide +kernel
theorem zd_NU_readReal_15 : decode prog_4_method_13_code 15 = .ok (.lmul, 1) := by decide +kernel
theorem zd_NU_readReal_16 : decode prog_4_method_13_code 16 = .ok (.aload_n 0, 1) := by decide +kernel
theorem zd_NU_readReal_17 : decode prog_4_method_13_code 17 = .ok (.invokevirtual 98, 3) := by decide +kernel
theorem zd_NU_readReal_20 : decode prog_4_method_13_code 20 = .ok (.i2l, 1) := by decide +kernel
theorem zd_NU_readReal_21 : decode prog_4_method_13_code 21 = .ok (.ladd, 1) := by decide +kernel
theorem zd_NU_readReal_22 : decode prog_4_method_13_code 22 = .ok (.lstore 4, 2) := by decide +kernel
theorem zd_NU_readReal_24 : decode prog_4_method_13_code 24 = .ok (.aload_n 0, 1) := by decide +kernel
theorem zd_NU_readReal_25 : decode prog_4_method_13_code 25 = .ok (.invokevirtual 102, 3) := by decide +kernel
theorem zd_NU_readReal_28 : decode prog_4_method_13_code 28 = .ok (.istore 6, 2) := by decide +kernel
theorem zd_NU_readReal_30 : decode prog_4_method_13_code 30 = .ok (.iload 6, 2) := by decide +kernel
theorem zd_NU_readReal_32 : decode prog_4_method_13_code 32 = .ok (.ifCond .gt (15), 3) := by decide +kernel
theorem zd_NU_readReal_35 : decode prog_4_method_13_code 35 = .ok (.iload 6, 2) := by decide +kernel
theorem zd_NU_readReal_37 : decode prog_4_method_13_code 37 = .ok (.ifCond .ne (16), 3) := by decide +kernel
theorem zd_NU_readReal_40 : decode prog_4_method_13_code 40 = .ok (.aload_n 0, 1) := by decide +kernel
theorem zd_NU_readReal_41 : decode prog_4_method_13_code 41 = .ok (.getfield 29, 3) := by decide +kernel
theorem zd_NU_readReal_44 : decode prog_4_method_13_code 44 = .ok (.ifCond .ne (9), 3) := by decide +kernel
theorem zd_NU_readReal_47 : decode prog_4_method_13_code 47 = .ok (.lload 4, 2) := by decide +kernel
theorem zd_NU_readReal_49 : decode prog_4_method_13_code 49 = .ok (.lconst 1, 1) := by decide +kernel
theorem zd_NU_readReal_50 : decode prog_4_method_13_code 50 = .ok (.ladd, 1) := by decide +kernel
theorem zd_NU_readReal_51 : decode prog_4_method_13_code 51 = .ok (.lstore 4, 2) := by decide +kernel
theorem zd_NU_readReal_53 : decode prog_4_method_13_code 53 = .ok (.aload_n 0, 1) := by decide +kernel
theorem zd_NU_readReal_54 : decode prog_4_method_13_code 54 = .ok (.aload_n 0, 1) := by decide +kernel
theorem zd_NU_readReal_55 : decode prog_4_method_13_code 55 = .ok (.getfield 19, 3) := by decide +kernel
theorem zd_NU_readReal_58 : decode prog_4_method_13_code 58 = .ok (.ifCond .eq (16), 3) := by decide +kernel
theorem zd_NU_readReal_61 : decode prog_4_method_13_code 61 = .ok (.lload 4, 2) := by decide +kernel
theorem zd_NU_readReal_63 : decode prog_4_method_13_code 63 = .ok (.ldc2_w 74, 3) := by decide +kernel
theorem zd_NU_readReal_66 : decode prog_4_method_13_code 66 = .ok (.lcmp, 1) := by decide +kernel
theorem zd_NU_readReal_67 : decode prog_4_method_13_code 67 = .ok (.ifCond .ge (7), 3) := by decide +kernel
theorem zd_NU_readReal_70 : decode prog_4_method_13_code 70 = .ok (.iconst 1, 1) := by decide +kernel
theorem zd_NU_readReal_71 : decode prog_4_method_13_code 71 = .ok (.goto (4), 3) := by decide +kernel
theorem zd_NU_readReal_74 : decode prog_4_method_13_code 74 = .ok (.iconst 0, 1) := by decide +kernel
theorem zd_NU_readReal_75 : decode prog_4_method_13_code 75 = .ok (.putfield 19, 3) := by decide +kernel
theorem zd_NU_readReal_78 : decode prog_4_method_13_code 78 = .ok (.aload_n 0, 1) := by decide +kernel
theorem zd_NU_readReal_79 : decode prog_4_method_13_code 79 = .ok (.aload_n 0, 1) := by decide +kernel
theorem zd_NU_readReal_80 : decode prog_4_method_13_code 80 = .ok (.getfield 29, 3) := by decide +kernel
theorem zd_NU_readReal_83 : decode prog_4_method_13_code 83 = .ok (.ifCond .eq (9), 3) := by decide +kernel
theorem zd_NU_readReal_86 : decode prog_4_method_13_code 86 = .ok (.lload 4, 2) := by decide +kernel
theorem zd_NU_readReal_88 : decode prog_4_method_13_code 88 = .ok (.lneg, 1) := by decide +kernel
theorem zd_NU_readReal_89 : decode prog_4_method_13_code 89 = .ok (.goto (5), 3) := by decide +kernel
theorem zd_NU_readReal_92 : decode prog_4_method_13_code 92 = .ok (.lload 4, 2) := by decide +kernel
theorem zd_NU_readReal_94 : decode prog_4_method_13_code 94 = .ok (.l2i, 1) := by decide +kernel
theorem zd_NU_readReal_95 : decode prog_4_method_13_code 95 = .ok (.putfield 15, 3) := by decide +kernel
theorem zd_NU_readReal_98 : decode prog_4_method_13_code 98 = .ok (.iconst 2, 1) := by decide +kernel
theorem zd_NU_readReal_99 : decode prog_4_method_13_code 99 = .ok (.ireturn, 1) := by decide +kernel
theorem zd_NU_placeDigits_0 : decode prog_4_method_14_code 0 = .ok (.aload_n 0, 1) := by decide +kernel
theorem zd_NU_placeDigits_1 : decode prog_4_method_14_code 1 = .ok (.getfield 11, 3) := by decide +kernel
theorem zd_NU_placeDigits_4 : decode prog_4_method_14_code 4 = .ok (.iconst 0, 1) := by decide +kernel
theorem zd_NU_placeDigits_5 : decode prog_4_method_14_code 5 = .ok (.invokestatic 105, 3) := by decide +kernel
theorem zd_NU_placeDigits_8 : decode prog_4_method_14_code 8 = .ok (.lconst 0, 1) := by decide +kernel
theorem zd_NU_placeDigits_9 : decode prog_4_method_14_code 9 = .ok (.lstore_n 2, 1) := by decide +kernel
theorem zd_NU_placeDigits_10 : decode prog_4_method_14_code 10 = .ok (.aload_n 0, 1) := by decide +kernel
theorem zd_NU_placeDigits_11 : decode prog_4_method_14_code 11 = .ok (.getfield 46, 3) := by decide +kernel
theorem zd_NU_placeDigits_14 : decode prog_4_method_14_code 14 = .ok (.iconst 1, 1) := by decide +kernel
theorem zd_NU_placeDigits_15 : decode prog_4_method_14_code 15 = .ok (.isub, 1) := by decide +kernel
theorem zd_NU_placeDigits_16 : decode prog_4_method_14_code 16 = .ok (.aload_n 0, 1) := by decide +kernel
theorem zd_NU_placeDigits_17 : decode prog_4_method_14_code 17 = .ok (.getfield 87, 3) := by decide +kernel
theorem zd_NU_placeDigits_20 : decode prog_4_method_14_code 20 = .ok (.iadd, 1) := by decide +kernel
theorem zd_NU_placeDigits_21 : decode prog_4_method_14_code 21 = .ok (.istore 4, 2) := by decide +kernel
theorem zd_NU_placeDigits_23 : decode prog_4_method_14_code 23 = .ok (.aload_n 0, 1) := by decide +kernel
theorem zd_NU_placeDigits_24 : decode prog_4_method_14_code 24 = .ok (.getfield 36, 3) := by decide +kernel
theorem zd_NU_placeDigits_27 : decode prog_4_method_14_code 27 = .ok (.istore 5, 2) := by decide +kernel
theorem zd_NU_placeDigits_29 : decode prog_4_method_14_code 29 = .ok (.iload 5, 2) := by decide +kernel
theorem zd_NU_placeDigits_31 : decode prog_4_method_14_code 31 = .ok (.aload_n 0, 1) := by decide +kernel
theorem zd_NU_placeDigits_32 : decode prog_4_method_14_code 32 = .ok (.getfield 43, 3) := by decide +kernel
theorem zd_NU_placeDigits_35 : decode prog_4_method_14_code 35 = .ok (.if_icmp .ge (115), 3) := by decide +kernel
theorem zd_NU_placeDigits_38 : decode prog_4_method_14_code 38 = .ok (.aload_n 1, 1) := by decide +kernel
theorem zd_NU_placeDigits_39 : decode prog_4_method_14_code 39 = .ok (.iload 5, 2) := by decide +kernel
theorem zd_NU_placeDigits_41 : decode prog_4_method_14_code 41 = .ok (.invokevirtual 23, 3) := by decide +kernel
theorem zd_NU_placeDigits_44 : decode prog_4_method_14_code 44 = .ok (.bipush (46), 2) := by decide +kernel
theorem zd_NU_placeDigits_46 : decode prog_4_method_14_code 46 = .ok (.if_icmp .ne (6), 3) := by decide +kernel
theorem zd_NU_placeDigits_49 : decode prog_4_method_14_code 49 = .ok (.goto (95), 3) := by decide +kernel
theorem zd_NU_placeDigits_52 : decode prog_4_method_14_code 52 = .ok (.aload_n 1, 1) := by decide +kernel
theorem zd_NU_placeDigits_53 : decode prog_4_method_14_code 53 = .ok (.iload 5, 2) := by decide +kernel
theorem zd_NU_placeDigits_55 : decode prog_4_method_14_code 55 = .ok (.invokevirtual 23, 3) := by decide +kernel
theorem zd_NU_placeDigits_58 : decode prog_4_method_14_code 58 = .ok (.bipush (48), 2) := by decide +kernel
theorem zd_NU_placeDigits_60 : decode prog_4_method_14_code 60 = .ok (.isub, 1) := by decide +kernel
theorem zd_NU_placeDigits_61 : decode prog_4_method_14_code 61 = .ok (.istore 6, 2) := by decide +kernel
theorem zd_NU_placeDigits_63 : decode prog_4_method_14_code 63 = .ok (.iconst (-1), 1) := by decide +kernel
theorem zd_NU_placeDigits_64 : decode prog_4_method_14_code 64 = .ok (.iload 4, 2) := by decide +kernel
theorem zd_NU_placeDigits_66 : decode prog_4_method_14_code 66 = .ok (.isub, 1) := by decide +kernel
theorem zd_NU_placeDigits_67 : decode prog_4_method_14_code 67 = .ok (.istore 7, 2) := by decide +kernel
theorem zd_NU_placeDigits_69 : decode prog_4_method_14_code 69 = .ok (.iload 7, 2) := by decide +kernel
theorem zd_NU_placeDigits_71 : decode prog_4_method_14_code 71 = .ok (.ifCond .lt (25), 3) := by decide +kernel
theorem zd_NU_placeDigits_74 : decode prog_4_method_14_code 74 = .ok (.iload 7, 2) := by decide +kernel
theorem zd_NU_placeDigits_76 : decode prog_4_method_14_code 76 = .ok (.aload_n 0, 1) := by decide +kernel
theorem zd_NU_placeDigits_77 : decode prog_4_method_14_code 77 = .ok (.getfield 11, 3) := by decide +kernel
theorem zd_NU_placeDigits_80 : decode prog_4_method_14_code 80 = .ok (.arraylength, 1) := by decide +kernel
theorem zd_NU_placeDigits_81 : decode prog_4_method_14_code 81 = .ok (.if_icmp .ge (15), 3) := by decide +kernel
theorem zd_NU_placeDigits_84 : decode prog_4_method_14_code 84 = .ok (.aload_n 0, 1) := by decide +kernel
theorem zd_NU_placeDigits_85 : decode prog_4_method_14_code 85 = .ok (.getfield 11, 3) := by decide +kernel
theorem zd_NU_placeDigits_88 : decode prog_4_method_14_code 88 = .ok (.iload 7, 2) := by decide +kernel
theorem zd_NU_placeDigits_90 : decode prog_4_method_14_code 90 = .ok (.iload 6, 2) := by decide +kernel
theorem zd_NU_placeDigits_92 : decode prog_4_method_14_code 92 = .ok (.iastore, 1) := by decide +kernel
theorem zd_NU_placeDigits_93 : decode prog_4_method_14_code 93 = .ok (.goto (48), 3) := by decide +kernel
theorem zd_NU_placeDigits_96 : decode prog_4_method_14_code 96 = .ok (.iload 4, 2) := by decide +kernel
theorem zd_NU_placeDigits_98 : decode prog_4_method_14_code 98 = .ok (.ifCond .lt (28), 3) := by decide +kernel
theorem zd_NU_placeDigits_101 : decode prog_4_method_14_code 101 = .ok (.iload 4, 2) := by decide +kernel
theorem zd_NU_placeDigits_103 : decode prog_4_method_14_code 103 = .ok (.getstatic 111, 3) := by decide +kernel
theorem zd_NU_placeDigits_106 : decode prog_4_method_14_code 106 = .ok (.arraylength, 1) := by decide +kernel
theorem zd_NU_placeDigits_107 : decode prog_4_method_14_code 107 = .ok (.if_icmp .ge (19), 3) := by decide +kernel
theorem zd_NU_placeDigits_110 : decode prog_4_method_14_code 110 = .ok (.lload_n 2, 1) := by decide +kernel
theorem zd_NU_placeDigits_111 : decode prog_4_method_14_code 111 = .ok (.iload 6, 2) := by decide +kernel
theorem zd_NU_placeDigits_113 : decode prog_4_method_14_code 113 = .ok (.getstatic 111, 3) := by decide +kernel
theorem zd_NU_placeDigits_116 : decode prog_4_method_14_code 116 = .ok (.iload 4, 2) := by decide +kernel
theorem zd_NU_placeDigits_118 : decode prog_4_method_14_code 118 = .ok (.iaload, 1) := by decide +kernel
theorem zd_NU_placeDigits_119 : decode prog_4_method_14_code 119 = .ok (.imul, 1) := by decide +kernel
theorem zd_NU_placeDigits_120 : decode prog_4_method_14_code 120 = .ok (.i2l, 1) := by decide +kernel
theorem zd_NU_placeDigits_121 : decode prog_4_method_14_code 121 = .ok (.ladd, 1) := by decide +kernel
theorem zd_NU_placeDigits_122 : decode prog_4_method_14_code 122 = .ok (.lstore_n 2, 1) := by decide +kernel
theorem zd_NU_placeDigits_123 : decode prog_4_method_14_code 123 = .ok (.goto (18), 3) := by decide +kernel
theorem zd_NU_placeDigits_126 : decode prog_4_method_14_code 126 = .ok (.iload 4, 2) := by decide +kernel
theorem zd_NU_placeDigits_128 : decode prog_4_method_14_code 128 = .ok (.ifCond .lt (13), 3) := by decide +kernel
theorem zd_NU_placeDigits_131 : decode prog_4_method_14_code 131 = .ok (.iload 6, 2) := by decide +kernel
theorem zd_NU_placeDigits_133 : decode prog_4_method_14_code 133 = .ok (.ifCond .eq (8), 3) := by decide +kernel
theorem zd_NU_placeDigits_136 : decode prog_4_method_14_code 136 = .ok (.aload_n 0, 1) := by decide +kernel
theorem zd_NU_placeDigits_137 : decode prog_4_method_14_code 137 = .ok (.iconst 0, 1) := by decide +kernel
theorem zd_NU_placeDigits_138 : decode prog_4_method_14_code 138 = .ok (.putfield 19, 3) := by decide +kernel
theorem zd_NU_placeDigits_141 : decode prog_4_method_14_code 141 = .ok (.iinc 4 (-1), 3) := by decide +kernel
theorem zd_NU_placeDigits_144 : decode prog_4_method_14_code 144 = .ok (.iinc 5 (1), 3) := by decide +kernel
theorem zd_NU_placeDigits_147 : decode prog_4_method_14_code 147 = .ok (.goto (-118), 3) := by decide +kernel
theorem zd_NU_placeDigits_150 : decode prog_4_method_14_code 150 = .ok (.lload_n 2, 1) := by decide +kernel
theorem zd_NU_placeDigits_151 : decode prog_4_method_14_code 151 = .ok (.lreturn, 1) := by decide +kernel
theorem zd_NU_multiplyFraction_0 : decode prog_4_method_15_code 0 = .ok (.iconst 0, 1) := by decide +kernel
theorem zd_NU_multiplyFraction_1 : decode prog_4_method_15_code 1 = .ok (.istore_n 1, 1) := by decide +kernel
theorem zd_NU_multiplyFraction_2 : decode prog_4_method_15_code 2 = .ok (.aload_n 0, 1) := by decide +kernel
theorem zd_NU_multiplyFraction_3 : decode prog_4_method_15_code 3 = .ok (.getfield 11, 3) := by decide +kernel
theorem zd_NU_multiplyFraction_6 : decode prog_4_method_15_code 6 = .ok (.arraylength, 1) := by decide +kernel
theorem zd_NU_multiplyFraction_7 : decode prog_4_method_15_code 7 = .ok (.iconst 1, 1) := by decide +kernel
theorem zd_NU_multiplyFraction_8 : decode prog_4_method_15_code 8 = .ok (.isub, 1) := by decide +kernel
theorem zd_NU_multiplyFraction_9 : decode prog_4_method_15_code 9 = .ok (.istore_n 2, 1) := by decide +kernel
theorem zd_NU_multiplyFraction_10 : decode prog_4_method_15_code 10 = .ok (.iload_n 2, 1) := by decide +kernel
theorem zd_NU_multiplyFraction_11 : decode prog_4_method_15_code 11 = .ok (.ifCond .lt (36), 3) := by decide +kernel
theorem zd_NU_multiplyFraction_14 : decode prog_4_method_15_code 14 = .ok (.aload_n 0, 1) := by decide +kernel
theorem zd_NU_multiplyFraction_15 : decode prog_4_method_15_code 15 = .ok (.getfield 11, 3) := by decide +kernel
theorem zd_NU_multiplyFraction_18 : decode prog_4_method_15_code 18 = .ok (.iload_n 2, 1) := by decide +kernel
theorem zd_NU_multiplyFraction_19 : decode prog_4_method_15_code 19 = .ok (.iaload, 1) := by decide +kernel
theorem zd_NU_multiplyFraction_20 : decode prog_4_method_15_code 20 = .ok (.ldc 114, 2) := by decide +kernel
theorem zd_NU_multiplyFraction_22 : decode prog_4_method_15_code 22 = .ok (.imul, 1) := by decide +kernel
theorem zd_NU_multiplyFraction_23 : decode prog_4_method_15_code 23 = .ok (.iload_n 1, 1) := by decide +kernel
theorem zd_NU_multiplyFraction_24 : decode prog_4_method_15_code 24 = .ok (.iadd, 1) := by decide +kernel
theorem zd_NU_multiplyFraction_25 : decode prog_4_method_15_code 25 = .ok (.istore_n 3, 1) := by decide +kernel
theorem zd_NU_multiplyFraction_26 : decode prog_4_method_15_code 26 = .ok (.aload_n 0, 1) := by decide +kernel
theorem zd_NU_multiplyFraction_27 : decode prog_4_method_15_code 27 = .ok (.getfield 11, 3) := by decide +kernel
theorem zd_NU_multiplyFraction_30 : decode prog_4_method_15_code 30 = .ok (.iload_n 2, 1) := by decide +kernel
theorem zd_NU_multiplyFraction_31 : decode prog_4_method_15_code 31 = .ok (.iload_n 3, 1) := by decide +kernel
theorem zd_NU_multiplyFraction_32 : decode prog_4_method_15_code 32 = .ok (.bipush (10), 2) := by decide +kernel
theorem zd_NU_multiplyFraction_34 : decode prog_4_method_15_code 34 = .ok (.irem, 1) := by decide +kernel
theorem zd_NU_multiplyFraction_35 : decode prog_4_method_15_code 35 = .ok (.iastore, 1) := by decide +kernel
theorem zd_NU_multiplyFraction_36 : decode prog_4_method_15_code 36 = .ok (.iload_n 3, 1) := by decide +kernel
theorem zd_NU_multiplyFraction_37 : decode prog_4_method_15_code 37 = .ok (.bipush (10), 2) := by decide +kernel
theorem zd_NU_multiplyFraction_39 : decode prog_4_method_15_code 39 = .ok (.idiv, 1) := by decide +kernel
theorem zd_NU_multiplyFraction_40 : decode prog_4_method_15_code 40 = .ok (.istore_n 1, 1) := by decide +kernel
theorem zd_NU_multiplyFraction_41 : decode prog_4_method_15_code 41 = .ok (.iinc 2 (-1), 3) := by decide +kernel
theorem zd_NU_multiplyFraction_44 : decode prog_4_method_15_code 44 = .ok (.goto (-34), 3) := by decide +kernel
theorem zd_NU_multiplyFraction_47 : decode prog_4_method_15_code 47 = .ok (.iload_n 1, 1) := by decide +kernel
theorem zd_NU_multiplyFraction_48 : decode prog_4_method_15_code 48 = .ok (.ireturn, 1) := by decide +kernel
theorem zd_NU_compareFractionToHalf_0 : decode prog_4_method_16_code 0 = .ok (.aload_n 0, 1) := by decide +kernel
theorem zd_NU_compareFractionToHalf_1 : decode prog_4_method_16_code 1 = .ok (.getfield 11, 3) := by decide +kernel
theorem zd_NU_compareFractionToHalf_4 : decode prog_4_method_16_code 4 = .ok (.iconst 0, 1) := by decide +kernel
theorem zd_NU_compareFractionToHalf_5 : decode prog_4_method_16_code 5 = .ok (.iaload, 1) := by decide +kernel
theorem zd_NU_compareFractionToHalf_6 : decode prog_4_method_16_code 6 = .ok (.iconst 5, 1) := by decide +kernel
theorem zd_NU_compareFractionToHalf_7 : decode prog_4_method_16_code 7 = .ok (.if_icmp .eq (14), 3) := by decide +kernel
theorem zd_NU_compareFractionToHalf_10 : decode prog_4_method_16_code 10 = .ok (.aload_n 0, 1) := by decide +kernel
theorem zd_NU_compareFractionToHalf_11 : decode prog_4_method_16_code 11 = .ok (.getfield 11, 3) := by decide +kernel
theorem zd_NU_compareFractionToHalf_14 : decode prog_4_method_16_code 14 = .ok (.iconst 0, 1) := by decide +kernel
theorem zd_NU_compareFractionToHalf_15 : decode prog_4_method_16_code 15 = .ok (.iaload, 1) := by decide +kernel
theorem zd_NU_compareFractionToHalf_16 : decode prog_4_method_16_code 16 = .ok (.iconst 5, 1) := by decide +kernel
theorem zd_NU_compareFractionToHalf_17 : decode prog_4_method_16_code 17 = .ok (.invokestatic 115, 3) := by decide +kernel
theorem zd_NU_compareFractionToHalf_20 : decode prog_4_method_16_code 20 = .ok (.ireturn, 1) := by decide +kernel
theorem zd_NU_compareFractionToHalf_21 : decode prog_4_method_16_code 21 = .ok (.iconst 1, 1) := by decide +kernel
theorem zd_NU_compareFractionToHalf_22 : decode prog_4_method_16_code 22 = .ok (.istore_n 1, 1) := by decide +kernel
theorem zd_NU_compareFractionToHalf_23 : decode prog_4_method_16_code 23 = .ok (.iload_n 1, 1) := by decide +kernel
theorem zd_NU_compareFractionToHalf_24 : decode prog_4_method_16_code 24 = .ok (.aload_n 0, 1) := by decide +kernel
theorem zd_NU_compareFractionToHalf_25 : decode prog_4_method_16_code 25 = .ok (.getfield 11, 3) := by decide +kernel
theorem zd_NU_compareFractionToHalf_28 : decode prog_4_method_16_code 28 = .ok (.arraylength, 1) := by decide +kernel
theorem zd_NU_compareFractionToHalf_29 : decode prog_4_method_16_code 29 = .ok (.if_icmp .ge (20), 3) := by decide +kernel
theorem zd_NU_compareFractionToHalf_32 : decode prog_4_method_16_code 32 = .ok (.aload_n 0, 1) := by decide +kernel
theorem zd_NU_compareFractionToHalf_33 : decode prog_4_method_16_code 33 = .ok (.getfield 11, 3) := by decide +kernel
theorem zd_NU_compareFractionToHalf_36 : decode prog_4_method_16_code 36 = .ok (.iload_n 1, 1) := by decide +kernel
theorem zd_NU_compareFractionToHalf_37 : decode prog_4_method_16_code 37 = .ok (.iaload, 1) := by decide +kernel
theorem zd_NU_compareFractionToHalf_38 : decode prog_4_method_16_code 38 = .ok (.ifCond .eq (5), 3) := by decide +kernel
theorem zd_NU_compareFractionToHalf_41 : decode prog_4_method_16_code 41 = .ok (.iconst 1, 1) := by decide +kernel
theorem zd_NU_compareFractionToHalf_42 : decode prog_4_method_16_code 42 = .ok (.ireturn, 1) := by decide +kernel
theorem zd_NU_compareFractionToHalf_43 : decode prog_4_method_16_code 43 = .ok (.iinc 1 (1), 3) := by decide +kernel
theorem zd_NU_compareFractionToHalf_46 : decode prog_4_method_16_code 46 = .ok (.goto (-23), 3) := by decide +kernel
theorem zd_NU_compareFractionToHalf_49 : decode prog_4_method_16_code 49 = .ok (.iconst 0, 1) := by decide +kernel
theorem zd_NU_compareFractionToHalf_50 : decode prog_4_method_16_code 50 = .ok (.ireturn, 1) := by decide +kernel
theorem zd_NU_fits_0 : decode prog_4_method_3_code 0 = .ok (.aload_n 0, 1) := by decide +kernel
theorem zd_NU_fits_1 : decode prog_4_method_3_code 1 = .ok (.getfield 19, 3) := by decide +kernel
theorem zd_NU_fits_4 : decode prog_4_method_3_code 4 = .ok (.ireturn, 1) := by decide +kernel
theorem zd_NU_value_0 : decode prog_4_method_2_code 0 = .ok (.aload_n 0, 1) := by decide +kernel
theorem zd_NU_value_1 : decode prog_4_method_2_code 1 = .ok (.getfield 15, 3) := by decide +kernel
theorem zd_NU_value_4 : decode prog_4_method_2_code 4 = .ok (.ireturn, 1) := by decide +kernel
