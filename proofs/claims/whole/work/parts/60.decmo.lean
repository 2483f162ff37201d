theorem zd_MO_new_0 : decode prog_8_method_1_code 0 = .ok (.aload_n 0, 1) := by decide +kernel
theorem zd_MO_new_1 : decode prog_8_method_1_code 1 = .ok (.invokespecial 1, 3) := by decide +kernel
theorem zd_MO_new_4 : decode prog_8_method_1_code 4 = .ok (.aload_n 0, 1) := by decide +kernel
theorem zd_MO_new_5 : decode prog_8_method_1_code 5 = .ok (.ldc 7, 2) := by decide +kernel
theorem zd_MO_new_7 : decode prog_8_method_1_code 7 = .ok (.newarray .byte, 2) := by decide +kernel
theorem zd_MO_new_9 : decode prog_8_method_1_code 9 = .ok (.putfield 8, 3) := by decide +kernel
theorem zd_MO_new_12 : decode prog_8_method_1_code 12 = .ok (.aload_n 0, 1) := by decide +kernel
theorem zd_MO_new_13 : decode prog_8_method_1_code 13 = .ok (.sipush (16384), 3) := by decide +kernel
theorem zd_MO_new_16 : decode prog_8_method_1_code 16 = .ok (.newarray .byte, 2) := by decide +kernel
theorem zd_MO_new_18 : decode prog_8_method_1_code 18 = .ok (.putfield 14, 3) := by decide +kernel
theorem zd_MO_new_21 : decode prog_8_method_1_code 21 = .ok (.aload_n 0, 1) := by decide +kernel
theorem zd_MO_new_22 : decode prog_8_method_1_code 22 = .ok (.sipush (16384), 3) := by decide +kernel
theorem zd_MO_new_25 : decode prog_8_method_1_code 25 = .ok (.newarray .int, 2) := by decide +kernel
theorem zd_MO_new_27 : decode prog_8_method_1_code 27 = .ok (.putfield 17, 3) := by decide +kernel
theorem zd_MO_new_30 : decode prog_8_method_1_code 30 = .ok (.aload_n 0, 1) := by decide +kernel
theorem zd_MO_new_31 : decode prog_8_method_1_code 31 = .ok (.sipush (16384), 3) := by decide +kernel
theorem zd_MO_new_34 : decode prog_8_method_1_code 34 = .ok (.newarray .int, 2) := by decide +kernel
theorem zd_MO_new_36 : decode prog_8_method_1_code 36 = .ok (.putfield 21, 3) := by decide +kernel
theorem zd_MO_new_39 : decode prog_8_method_1_code 39 = .ok (.aload_n 0, 1) := by decide +kernel
theorem zd_MO_new_40 : decode prog_8_method_1_code 40 = .ok (.bipush (64), 2) := by decide +kernel
theorem zd_MO_new_42 : decode prog_8_method_1_code 42 = .ok (.newarray .int, 2) := by decide +kernel
theorem zd_MO_new_44 : decode prog_8_method_1_code 44 = .ok (.putfield 24, 3) := by decide +kernel
theorem zd_MO_new_47 : decode prog_8_method_1_code 47 = .ok (.aload_n 0, 1) := by decide +kernel
theorem zd_MO_new_48 : decode prog_8_method_1_code 48 = .ok (.ldc 27, 2) := by decide +kernel
theorem zd_MO_new_50 : decode prog_8_method_1_code 50 = .ok (.newarray .byte, 2) := by decide +kernel
theorem zd_MO_new_52 : decode prog_8_method_1_code 52 = .ok (.putfield 28, 3) := by decide +kernel
theorem zd_MO_new_55 : decode prog_8_method_1_code 55 = .ok (.aload_n 0, 1) := by decide +kernel
theorem zd_MO_new_56 : decode prog_8_method_1_code 56 = .ok (.sipush (16385), 3) := by decide +kernel
theorem zd_MO_new_59 : decode prog_8_method_1_code 59 = .ok (.newarray .int, 2) := by decide +kernel
theorem zd_MO_new_61 : decode prog_8_method_1_code 61 = .ok (.putfield 31, 3) := by decide +kernel
theorem zd_MO_new_64 : decode prog_8_method_1_code 64 = .ok (.aload_n 0, 1) := by decide +kernel
theorem zd_MO_new_65 : decode prog_8_method_1_code 65 = .ok (.sipush (400), 3) := by decide +kernel
theorem zd_MO_new_68 : decode prog_8_method_1_code 68 = .ok (.newarray .byte, 2) := by decide +kernel
theorem zd_MO_new_70 : decode prog_8_method_1_code 70 = .ok (.putfield 34, 3) := by decide +kernel
theorem zd_MO_new_73 : decode prog_8_method_1_code 73 = .ok (.aload_n 0, 1) := by decide +kernel
theorem zd_MO_new_74 : decode prog_8_method_1_code 74 = .ok (.sipush (420), 3) := by decide +kernel
theorem zd_MO_new_77 : decode prog_8_method_1_code 77 = .ok (.newarray .byte, 2) := by decide +kernel
theorem zd_MO_new_79 : decode prog_8_method_1_code 79 = .ok (.putfield 37, 3) := by decide +kernel
theorem zd_MO_new_82 : decode prog_8_method_1_code 82 = .ok (.return_, 1) := by decide +kernel
theorem zd_MO_type_0 : decode prog_8_method_2_code 0 = .ok (.iload_n 3, 1) := by decide +kernel
theorem zd_MO_type_1 : decode prog_8_method_2_code 1 = .ok (.iconst 1, 1) := by decide +kernel
theorem zd_MO_type_2 : decode prog_8_method_2_code 2 = .ok (.if_icmp .lt (9), 3) := by decide +kernel
theorem zd_MO_type_5 : decode prog_8_method_2_code 5 = .ok (.iload_n 3, 1) := by decide +kernel
theorem zd_MO_type_6 : decode prog_8_method_2_code 6 = .ok (.bipush (8), 2) := by decide +kernel
theorem zd_MO_type_8 : decode prog_8_method_2_code 8 = .ok (.if_icmp .le (5), 3) := by decide +kernel
theorem zd_MO_type_11 : decode prog_8_method_2_code 11 = .ok (.iconst (-1), 1) := by decide +kernel
theorem zd_MO_type_12 : decode prog_8_method_2_code 12 = .ok (.ireturn, 1) := by decide +kernel
theorem zd_MO_type_13 : decode prog_8_method_2_code 13 = .ok (.aload_n 0, 1) := by decide +kernel
theorem zd_MO_type_14 : decode prog_8_method_2_code 14 = .ok (.getfield 40, 3) := by decide +kernel
theorem zd_MO_type_17 : decode prog_8_method_2_code 17 = .ok (.iload_n 3, 1) := by decide +kernel
theorem zd_MO_type_18 : decode prog_8_method_2_code 18 = .ok (.iadd, 1) := by decide +kernel
theorem zd_MO_type_19 : decode prog_8_method_2_code 19 = .ok (.ldc 7, 2) := by decide +kernel
theorem zd_MO_type_21 : decode prog_8_method_2_code 21 = .ok (.if_icmp .le (6), 3) := by decide +kernel
theorem zd_MO_type_24 : decode prog_8_method_2_code 24 = .ok (.bipush (-3), 2) := by decide +kernel
theorem zd_MO_type_26 : decode prog_8_method_2_code 26 = .ok (.ireturn, 1) := by decide +kernel
theorem zd_MO_type_27 : decode prog_8_method_2_code 27 = .ok (.iload_n 3, 1) := by decide +kernel
theorem zd_MO_type_28 : decode prog_8_method_2_code 28 = .ok (.iconst 1, 1) := by decide +kernel
theorem zd_MO_type_29 : decode prog_8_method_2_code 29 = .ok (.isub, 1) := by decide +kernel
theorem zd_MO_type_30 : decode prog_8_method_2_code 30 = .ok (.istore 4, 2) := by decide +kernel
theorem zd_MO_type_32 : decode prog_8_method_2_code 32 = .ok (.iload 4, 2) := by decide +kernel
theorem zd_MO_type_34 : decode prog_8_method_2_code 34 = .ok (.ifCond .lt (37), 3) := by decide +kernel
theorem zd_MO_type_37 : decode prog_8_method_2_code 37 = .ok (.aload_n 0, 1) := by decide +kernel
theorem zd_MO_type_38 : decode prog_8_method_2_code 38 = .ok (.getfield 8, 3) := by decide +kernel
theorem zd_MO_type_41 : decode prog_8_method_2_code 41 = .ok (.aload_n 0, 1) := by decide +kernel
theorem zd_MO_type_42 : decode prog_8_method_2_code 42 = .ok (.getfield 40, 3) := by decide +kernel
theorem zd_MO_type_45 : decode prog_8_method_2_code 45 = .ok (.lload_n 1, 1) := by decide +kernel
theorem zd_MO_type_46 : decode prog_8_method_2_code 46 = .ok (.bipush (8), 2) := by decide +kernel
theorem zd_MO_type_48 : decode prog_8_method_2_code 48 = .ok (.iload 4, 2) := by decide +kernel
theorem zd_MO_type_50 : decode prog_8_method_2_code 50 = .ok (.imul, 1) := by decide +kernel
theorem zd_MO_type_51 : decode prog_8_method_2_code 51 = .ok (.lshr, 1) := by decide +kernel
theorem zd_MO_type_52 : decode prog_8_method_2_code 52 = .ok (.l2i, 1) := by decide +kernel
theorem zd_MO_type_53 : decode prog_8_method_2_code 53 = .ok (.i2b, 1) := by decide +kernel
theorem zd_MO_type_54 : decode prog_8_method_2_code 54 = .ok (.bastore, 1) := by decide +kernel
theorem zd_MO_type_55 : decode prog_8_method_2_code 55 = .ok (.aload_n 0, 1) := by decide +kernel
theorem zd_MO_type_56 : decode prog_8_method_2_code 56 = .ok (.dup, 1) := by decide +kernel
theorem zd_MO_type_57 : decode prog_8_method_2_code 57 = .ok (.getfield 40, 3) := by decide +kernel
theorem zd_MO_type_60 : decode prog_8_method_2_code 60 = .ok (.iconst 1, 1) := by decide +kernel
theorem zd_MO_type_61 : decode prog_8_method_2_code 61 = .ok (.iadd, 1) := by decide +kernel
theorem zd_MO_type_62 : decode prog_8_method_2_code 62 = .ok (.putfield 40, 3) := by decide +kernel
theorem zd_MO_type_65 : decode prog_8_method_2_code 65 = .ok (.iinc 4 (-1), 3) := by decide +kernel
theorem zd_MO_type_68 : decode prog_8_method_2_code 68 = .ok (.goto (-36), 3) := by decide +kernel
theorem zd_MO_type_71 : decode prog_8_method_2_code 71 = .ok (.aload_n 0, 1) := by decide +kernel
theorem zd_MO_type_72 : decode prog_8_method_2_code 72 = .ok (.getfield 40, 3) := by decide +kernel
theorem zd_MO_type_75 : decode prog_8_method_2_code 75 = .ok (.ireturn, 1) := by decide +kernel
theorem zd_MO_cut_0 : decode prog_8_method_32_code 0 = .ok (.aload_n 0, 1) := by decide +kernel
theorem zd_MO_cut_1 : decode prog_8_method_32_code 1 = .ok (.iconst 0, 1) := by decide +kernel
theorem zd_MO_cut_2 : decode prog_8_method_32_code 2 = .ok (.putfield 61, 3) := by decide +kernel
theorem zd_MO_cut_5 : decode prog_8_method_32_code 5 = .ok (.aload_n 0, 1) := by decide +kernel
theorem zd_MO_cut_6 : decode prog_8_method_32_code 6 = .ok (.iconst 0, 1) := by decide +kernel
theorem zd_MO_cut_7 : decode prog_8_method_32_code 7 = .ok (.putfield 67, 3) := by decide +kernel
theorem zd_MO_cut_10 : decode prog_8_method_32_code 10 = .ok (.aload_n 0, 1) := by decide +kernel
theorem zd_MO_cut_11 : decode prog_8_method_32_code 11 = .ok (.iconst 0, 1) := by decide +kernel
theorem zd_MO_cut_12 : decode prog_8_method_32_code 12 = .ok (.putfield 64, 3) := by decide +kernel
theorem zd_MO_cut_15 : decode prog_8_method_32_code 15 = .ok (.aload_n 0, 1) := by decide +kernel
theorem zd_MO_cut_16 : decode prog_8_method_32_code 16 = .ok (.iconst 0, 1) := by decide +kernel
theorem zd_MO_cut_17 : decode prog_8_method_32_code 17 = .ok (.putfield 156, 3) := by decide +kernel
theorem zd_MO_cut_20 : decode prog_8_method_32_code 20 = .ok (.aload_n 0, 1) := by decide +kernel
theorem zd_MO_cut_21 : decode prog_8_method_32_code 21 = .ok (.iconst 0, 1) := by decide +kernel
theorem zd_MO_cut_22 : decode prog_8_method_32_code 22 = .ok (.putfield 55, 3) := by decide +kernel
theorem zd_MO_cut_25 : decode prog_8_method_32_code 25 = .ok (.aload_n 0, 1) := by decide +kernel
theorem zd_MO_cut_26 : decode prog_8_method_32_code 26 = .ok (.iconst 0, 1) := by decide +kernel
theorem zd_MO_cut_27 : decode prog_8_method_32_code 27 = .ok (.invokevirtual 177, 3) := by decide +kernel
theorem zd_MO_cut_30 : decode prog_8_method_32_code 30 = .ok (.istore_n 1, 1) := by decide +kernel
theorem zd_MO_cut_31 : decode prog_8_method_32_code 31 = .ok (.aload_n 0, 1) := by decide +kernel
theorem zd_MO_cut_32 : decode prog_8_method_32_code 32 = .ok (.getfield 55, 3) := by decide +kernel
theorem zd_MO_cut_35 : decode prog_8_method_32_code 35 = .ok (.ifCond .ne (53), 3) := by decide +kernel
theorem zd_MO_cut_38 : decode prog_8_method_32_code 38 = .ok (.iload_n 1, 1) := by decide +kernel
theorem zd_MO_cut_39 : decode prog_8_method_32_code 39 = .ok (.aload_n 0, 1) := by decide +kernel
theorem zd_MO_cut_40 : decode prog_8_method_32_code 40 = .ok (.getfield 40, 3) := by decide +kernel
theorem zd_MO_cut_43 : decode prog_8_method_32_code 43 = .ok (.if_icmp .ge (45), 3) := by decide +kernel
theorem zd_MO_cut_46 : decode prog_8_method_32_code 46 = .ok (.aload_n 0, 1) := by decide +kernel
theorem zd_MO_cut_47 : decode prog_8_method_32_code 47 = .ok (.getfield 61, 3) := by decide +kernel
theorem zd_MO_cut_50 : decode prog_8_method_32_code 50 = .ok (.sipush (16384), 3) := by decide +kernel
theorem zd_MO_cut_53 : decode prog_8_method_32_code 53 = .ok (.if_icmp .ne (13), 3) := by decide +kernel
theorem zd_MO_cut_56 : decode prog_8_method_32_code 56 = .ok (.aload_n 0, 1) := by decide +kernel
theorem zd_MO_cut_57 : decode prog_8_method_32_code 57 = .ok (.bipush (8), 2) := by decide +kernel
theorem zd_MO_cut_59 : decode prog_8_method_32_code 59 = .ok (.iload_n 1, 1) := by decide +kernel
theorem zd_MO_cut_60 : decode prog_8_method_32_code 60 = .ok (.invokevirtual 80, 3) := by decide +kernel
theorem zd_MO_cut_63 : decode prog_8_method_32_code 63 = .ok (.goto (8), 3) := by decide +kernel
theorem zd_MO_cut_66 : decode prog_8_method_32_code 66 = .ok (.aload_n 0, 1) := by decide +kernel
theorem zd_MO_cut_67 : decode prog_8_method_32_code 67 = .ok (.iload_n 1, 1) := by decide +kernel
theorem zd_MO_cut_68 : decode prog_8_method_32_code 68 = .ok (.invokevirtual 180, 3) := by decide +kernel
theorem zd_MO_cut_71 : decode prog_8_method_32_code 71 = .ok (.istore_n 1, 1) := by decide +kernel
theorem zd_MO_cut_72 : decode prog_8_method_32_code 72 = .ok (.aload_n 0, 1) := by decide +kernel
theorem zd_MO_cut_73 : decode prog_8_method_32_code 73 = .ok (.getfield 55, 3) := by decide +kernel
theorem zd_MO_cut_76 : decode prog_8_method_32_code 76 = .ok (.ifCond .ne (-45), 3) := by decide +kernel
theorem zd_MO_cut_79 : decode prog_8_method_32_code 79 = .ok (.aload_n 0, 1) := by decide +kernel
theorem zd_MO_cut_80 : decode prog_8_method_32_code 80 = .ok (.iload_n 1, 1) := by decide +kernel
theorem zd_MO_cut_81 : decode prog_8_method_32_code 81 = .ok (.invokevirtual 177, 3) := by decide +kernel
theorem zd_MO_cut_84 : decode prog_8_method_32_code 84 = .ok (.istore_n 1, 1) := by decide +kernel
theorem zd_MO_cut_85 : decode prog_8_method_32_code 85 = .ok (.goto (-54), 3) := by decide +kernel
theorem zd_MO_cut_88 : decode prog_8_method_32_code 88 = .ok (.aload_n 0, 1) := by decide +kernel
theorem zd_MO_cut_89 : decode prog_8_method_32_code 89 = .ok (.getfield 55, 3) := by decide +kernel
theorem zd_MO_cut_92 : decode prog_8_method_32_code 92 = .ok (.ifCond .ne (20), 3) := by decide +kernel
theorem zd_MO_cut_95 : decode prog_8_method_32_code 95 = .ok (.aload_n 0, 1) := by decide +kernel
theorem zd_MO_cut_96 : decode prog_8_method_32_code 96 = .ok (.getfield 156, 3) := by decide +kernel
theorem zd_MO_cut_99 : decode prog_8_method_32_code 99 = .ok (.ifCond .le (13), 3) := by decide +kernel
theorem zd_MO_cut_102 : decode prog_8_method_32_code 102 = .ok (.aload_n 0, 1) := by decide +kernel
theorem zd_MO_cut_103 : decode prog_8_method_32_code 103 = .ok (.iconst 4, 1) := by decide +kernel
theorem zd_MO_cut_104 : decode prog_8_method_32_code 104 = .ok (.aload_n 0, 1) := by decide +kernel
theorem zd_MO_cut_105 : decode prog_8_method_32_code 105 = .ok (.getfield 40, 3) := by decide +kernel
theorem zd_MO_cut_108 : decode prog_8_method_32_code 108 = .ok (.invokevirtual 80, 3) := by decide +kernel
theorem zd_MO_cut_111 : decode prog_8_method_32_code 111 = .ok (.pop, 1) := by decide +kernel
theorem zd_MO_cut_112 : decode prog_8_method_32_code 112 = .ok (.aload_n 0, 1) := by decide +kernel
theorem zd_MO_cut_113 : decode prog_8_method_32_code 113 = .ok (.getfield 55, 3) := by decide +kernel
theorem zd_MO_cut_116 : decode prog_8_method_32_code 116 = .ok (.ifCond .ne (11), 3) := by decide +kernel
theorem zd_MO_cut_119 : decode prog_8_method_32_code 119 = .ok (.aload_n 0, 1) := by decide +kernel
theorem zd_MO_cut_120 : decode prog_8_method_32_code 120 = .ok (.aload_n 0, 1) := by decide +kernel
theorem zd_MO_cut_121 : decode prog_8_method_32_code 121 = .ok (.getfield 40, 3) := by decide +kernel
theorem zd_MO_cut_124 : decode prog_8_method_32_code 124 = .ok (.putfield 58, 3) := by decide +kernel
theorem zd_MO_cut_127 : decode prog_8_method_32_code 127 = .ok (.aload_n 0, 1) := by decide +kernel
theorem zd_MO_cut_128 : decode prog_8_method_32_code 128 = .ok (.iconst 0, 1) := by decide +kernel
theorem zd_MO_cut_129 : decode prog_8_method_32_code 129 = .ok (.putfield 40, 3) := by decide +kernel
theorem zd_MO_cut_132 : decode prog_8_method_32_code 132 = .ok (.aload_n 0, 1) := by decide +kernel
theorem zd_MO_cut_133 : decode prog_8_method_32_code 133 = .ok (.aload_n 0, 1) := by decide +kernel
theorem zd_MO_cut_134 : decode prog_8_method_32_code 134 = .ok (.getfield 31, 3) := by decide +kernel
theorem zd_MO_cut_137 : decode prog_8_method_32_code 137 = .ok (.aload_n 0, 1) := by decide +kernel
theorem zd_MO_cut_138 : decode prog_8_method_32_code 138 = .ok (.getfield 67, 3) := by decide +kernel
theorem zd_MO_cut_141 : decode prog_8_method_32_code 141 = .ok (.iaload, 1) := by decide +kernel
theorem zd_MO_cut_142 : decode prog_8_method_32_code 142 = .ok (.putfield 64, 3) := by decide +kernel
theorem zd_MO_cut_145 : decode prog_8_method_32_code 145 = .ok (.aload_n 0, 1) := by decide +kernel
theorem zd_MO_cut_146 : decode prog_8_method_32_code 146 = .ok (.getfield 55, 3) := by decide +kernel
theorem zd_MO_cut_149 : decode prog_8_method_32_code 149 = .ok (.ifCond .ne (10), 3) := by decide +kernel
theorem zd_MO_cut_152 : decode prog_8_method_32_code 152 = .ok (.aload_n 0, 1) := by decide +kernel
theorem zd_MO_cut_153 : decode prog_8_method_32_code 153 = .ok (.getfield 61, 3) := by decide +kernel
theorem zd_MO_cut_156 : decode prog_8_method_32_code 156 = .ok (.goto (8), 3) := by decide +kernel
theorem zd_MO_cut_159 : decode prog_8_method_32_code 159 = .ok (.aload_n 0, 1) := by decide +kernel
theorem zd_MO_cut_160 : decode prog_8_method_32_code 160 = .ok (.getfield 55, 3) := by decide +kernel
theorem zd_MO_cut_163 : decode prog_8_method_32_code 163 = .ok (.ineg, 1) := by decide +kernel
theorem zd_MO_cut_164 : decode prog_8_method_32_code 164 = .ok (.ireturn, 1) := by decide +kernel
theorem zd_MO_skip_0 : decode prog_8_method_31_code 0 = .ok (.iload_n 1, 1) := by decide +kernel
theorem zd_MO_skip_1 : decode prog_8_method_31_code 1 = .ok (.istore_n 2, 1) := by decide +kernel
theorem zd_MO_skip_2 : decode prog_8_method_31_code 2 = .ok (.iconst 0, 1) := by decide +kernel
theorem zd_MO_skip_3 : decode prog_8_method_31_code 3 = .ok (.istore_n 3, 1) := by decide +kernel
theorem zd_MO_skip_4 : decode prog_8_method_31_code 4 = .ok (.iload_n 2, 1) := by decide +kernel
theorem zd_MO_skip_5 : decode prog_8_method_31_code 5 = .ok (.aload_n 0, 1) := by decide +kernel
theorem zd_MO_skip_6 : decode prog_8_method_31_code 6 = .ok (.getfield 40, 3) := by decide +kernel
theorem zd_MO_skip_9 : decode prog_8_method_31_code 9 = .ok (.if_icmp .ge (68), 3) := by decide +kernel
theorem zd_MO_skip_12 : decode prog_8_method_31_code 12 = .ok (.iload_n 3, 1) := by decide +kernel
theorem zd_MO_skip_13 : decode prog_8_method_31_code 13 = .ok (.ifCond .ne (24), 3) := by decide +kernel
theorem zd_MO_skip_16 : decode prog_8_method_31_code 16 = .ok (.aload_n 0, 1) := by decide +kernel
theorem zd_MO_skip_17 : decode prog_8_method_31_code 17 = .ok (.iload_n 2, 1) := by decide +kernel
theorem zd_MO_skip_18 : decode prog_8_method_31_code 18 = .ok (.invokevirtual 51, 3) := by decide +kernel
theorem zd_MO_skip_21 : decode prog_8_method_31_code 21 = .ok (.invokestatic 44, 3) := by decide +kernel
theorem zd_MO_skip_24 : decode prog_8_method_31_code 24 = .ok (.ifCond .ne (13), 3) := by decide +kernel
theorem zd_MO_skip_27 : decode prog_8_method_31_code 27 = .ok (.aload_n 0, 1) := by decide +kernel
theorem zd_MO_skip_28 : decode prog_8_method_31_code 28 = .ok (.iload_n 2, 1) := by decide +kernel
theorem zd_MO_skip_29 : decode prog_8_method_31_code 29 = .ok (.invokevirtual 51, 3) := by decide +kernel
theorem zd_MO_skip_32 : decode prog_8_method_31_code 32 = .ok (.bipush (37), 2) := by decide +kernel
theorem zd_MO_skip_34 : decode prog_8_method_31_code 34 = .ok (.if_icmp .ne (43), 3) := by decide +kernel
theorem zd_MO_skip_37 : decode prog_8_method_31_code 37 = .ok (.aload_n 0, 1) := by decide +kernel
theorem zd_MO_skip_38 : decode prog_8_method_31_code 38 = .ok (.iload_n 2, 1) := by decide +kernel
theorem zd_MO_skip_39 : decode prog_8_method_31_code 39 = .ok (.invokevirtual 51, 3) := by decide +kernel
theorem zd_MO_skip_42 : decode prog_8_method_31_code 42 = .ok (.bipush (37), 2) := by decide +kernel
theorem zd_MO_skip_44 : decode prog_8_method_31_code 44 = .ok (.if_icmp .ne (5), 3) := by decide +kernel
theorem zd_MO_skip_47 : decode prog_8_method_31_code 47 = .ok (.iconst 1, 1) := by decide +kernel
theorem zd_MO_skip_48 : decode prog_8_method_31_code 48 = .ok (.istore_n 3, 1) := by decide +kernel
theorem zd_MO_skip_49 : decode prog_8_method_31_code 49 = .ok (.aload_n 0, 1) := by decide +kernel
theorem zd_MO_skip_50 : decode prog_8_method_31_code 50 = .ok (.iload_n 2, 1) := by decide +kernel
theorem zd_MO_skip_51 : decode prog_8_method_31_code 51 = .ok (.invokevirtual 51, 3) := by decide +kernel
theorem zd_MO_skip_54 : decode prog_8_method_31_code 54 = .ok (.bipush (10), 2) := by decide +kernel
theorem zd_MO_skip_56 : decode prog_8_method_31_code 56 = .ok (.if_icmp .eq (13), 3) := by decide +kernel
theorem zd_MO_skip_59 : decode prog_8_method_31_code 59 = .ok (.aload_n 0, 1) := by decide +kernel
theorem zd_MO_skip_60 : decode prog_8_method_31_code 60 = .ok (.iload_n 2, 1) := by decide +kernel
theorem zd_MO_skip_61 : decode prog_8_method_31_code 61 = .ok (.invokevirtual 51, 3) := by decide +kernel
theorem zd_MO_skip_64 : decode prog_8_method_31_code 64 = .ok (.bipush (13), 2) := by decide +kernel
theorem zd_MO_skip_66 : decode prog_8_method_31_code 66 = .ok (.if_icmp .ne (5), 3) := by decide +kernel
theorem zd_MO_skip_69 : decode prog_8_method_31_code 69 = .ok (.iconst 0, 1) := by decide +kernel
theorem zd_MO_skip_70 : decode prog_8_method_31_code 70 = .ok (.istore_n 3, 1) := by decide +kernel
theorem zd_MO_skip_71 : decode prog_8_method_31_code 71 = .ok (.iinc 2 (1), 3) := by decide +kernel
theorem zd_MO_skip_74 : decode prog_8_method_31_code 74 = .ok (.goto (-70), 3) := by decide +kernel
theorem zd_MO_skip_77 : decode prog_8_method_31_code 77 = .ok (.iload_n 2, 1) := by decide +kernel
theorem zd_MO_skip_78 : decode prog_8_method_31_code 78 = .ok (.ireturn, 1) := by decide +kernel
theorem zd_MO_byteAt_0 : decode prog_8_method_3_code 0 = .ok (.iload_n 1, 1) := by decide +kernel
theorem zd_MO_byteAt_1 : decode prog_8_method_3_code 1 = .ok (.aload_n 0, 1) := by decide +kernel
theorem zd_MO_byteAt_2 : decode prog_8_method_3_code 2 = .ok (.getfield 40, 3) := by decide +kernel
theorem zd_MO_byteAt_5 : decode prog_8_method_3_code 5 = .ok (.if_icmp .ge (16), 3) := by decide +kernel
theorem zd_MO_byteAt_8 : decode prog_8_method_3_code 8 = .ok (.aload_n 0, 1) := by decide +kernel
theorem zd_MO_byteAt_9 : decode prog_8_method_3_code 9 = .ok (.getfield 8, 3) := by decide +kernel
theorem zd_MO_byteAt_12 : decode prog_8_method_3_code 12 = .ok (.iload_n 1, 1) := by decide +kernel
theorem zd_MO_byteAt_13 : decode prog_8_method_3_code 13 = .ok (.baload, 1) := by decide +kernel
theorem zd_MO_byteAt_14 : decode prog_8_method_3_code 14 = .ok (.sipush (255), 3) := by decide +kernel
theorem zd_MO_byteAt_17 : decode prog_8_method_3_code 17 = .ok (.iand, 1) := by decide +kernel
theorem zd_MO_byteAt_18 : decode prog_8_method_3_code 18 = .ok (.goto (4), 3) := by decide +kernel
theorem zd_MO_byteAt_21 : decode prog_8_method_3_code 21 = .ok (.iconst (-1), 1) := by decide +kernel
theorem zd_MO_byteAt_22 : decode prog_8_method_3_code 22 = .ok (.ireturn, 1) := by decide +kernel
theorem zd_MO_isBlank_0 : decode prog_8_method_4_code 0 = .ok (.iload_n 0, 1) := by decide +kernel
theorem zd_MO_isBlank_1 : decode prog_8_method_4_code 1 = .ok (.ifCond .eq (33), 3) := by decide +kernel
theorem zd_MO_isBlank_4 : decode prog_8_method_4_code 4 = .ok (.iload_n 0, 1) := by decide +kernel
theorem zd_MO_isBlank_5 : decode prog_8_method_4_code 5 = .ok (.bipush (9), 2) := by decide +kernel
theorem zd_MO_isBlank_7 : decode prog_8_method_4_code 7 = .ok (.if_icmp .eq (27), 3) := by decide +kernel
theorem zd_MO_isBlank_10 : decode prog_8_method_4_code 10 = .ok (.iload_n 0, 1) := by decide +kernel
theorem zd_MO_isBlank_11 : decode prog_8_method_4_code 11 = .ok (.bipush (10), 2) := by decide +kernel
theorem zd_MO_isBlank_13 : decode prog_8_method_4_code 13 = .ok (.if_icmp .eq (21), 3) := by decide +kernel
theorem zd_MO_isBlank_16 : decode prog_8_method_4_code 16 = .ok (.iload_n 0, 1) := by decide +kernel
theorem zd_MO_isBlank_17 : decode prog_8_method_4_code 17 = .ok (.bipush (12), 2) := by decide +kernel
theorem zd_MO_isBlank_19 : decode prog_8_method_4_code 19 = .ok (.if_icmp .eq (15), 3) := by decide +kernel
theorem zd_MO_isBlank_22 : decode prog_8_method_4_code 22 = .ok (.iload_n 0, 1) := by decide +kernel
theorem zd_MO_isBlank_23 : decode prog_8_method_4_code 23 = .ok (.bipush (13), 2) := by decide +kernel
theorem zd_MO_isBlank_25 : decode prog_8_method_4_code 25 = .ok (.if_icmp .eq (9), 3) := by decide +kernel
theorem zd_MO_isBlank_28 : decode prog_8_method_4_code 28 = .ok (.iload_n 0, 1) := by decide +kernel
theorem zd_MO_isBlank_29 : decode prog_8_method_4_code 29 = .ok (.bipush (32), 2) := by decide +kernel
theorem zd_MO_isBlank_31 : decode prog_8_method_4_code 31 = .ok (.if_icmp .ne (7), 3) := by decide +kernel
theorem zd_MO_isBlank_34 : decode prog_8_method_4_code 34 = .ok (.iconst 1, 1) := by decide +kernel
theorem zd_MO_isBlank_35 : decode prog_8_method_4_code 35 = .ok (.goto (4), 3) := by decide +kernel
theorem zd_MO_isBlank_38 : decode prog_8_method_4_code 38 = .ok (.iconst 0, 1) := by decide +kernel
theorem zd_MO_isBlank_39 : decode prog_8_method_4_code 39 = .ok (.ireturn, 1) := by decide +kernel
theorem zd_MO_fail_0 : decode prog_8_method_10_code 0 = .ok (.aload_n 0, 1) := by decide +kernel
theorem zd_MO_fail_1 : decode prog_8_method_10_code 1 = .ok (.iload_n 1, 1) := by decide +kernel
theorem zd_MO_fail_2 : decode prog_8_method_10_code 2 = .ok (.putfield 55, 3) := by decide +kernel
theorem zd_MO_fail_5 : decode prog_8_method_10_code 5 = .ok (.aload_n 0, 1) := by decide +kernel
theorem zd_MO_fail_6 : decode prog_8_method_10_code 6 = .ok (.iload_n 2, 1) := by decide +kernel
theorem zd_MO_fail_7 : decode prog_8_method_10_code 7 = .ok (.putfield 58, 3) := by decide +kernel
theorem zd_MO_fail_10 : decode prog_8_method_10_code 10 = .ok (.iconst (-1), 1) := by decide +kernel
theorem zd_MO_fail_11 : decode prog_8_method_10_code 11 = .ok (.ireturn, 1) := by decide +kernel
theorem zd_MO_one_0 : decode prog_8_method_30_code 0 = .ok (.aload_n 0, 1) := by decide +kernel
theorem zd_MO_one_1 : decode prog_8_method_30_code 1 = .ok (.iload_n 1, 1) := by decide +kernel
theorem zd_MO_one_2 : decode prog_8_method_30_code 2 = .ok (.invokevirtual 51, 3) := by decide +kernel
theorem zd_MO_one_5 : decode prog_8_method_30_code 5 = .ok (.istore_n 2, 1) := by decide +kernel
theorem zd_MO_one_6 : decode prog_8_method_30_code 6 = .ok (.aload_n 0, 1) := by decide +kernel
theorem zd_MO_one_7 : decode prog_8_method_30_code 7 = .ok (.iload_n 1, 1) := by decide +kernel
theorem zd_MO_one_8 : decode prog_8_method_30_code 8 = .ok (.iconst 1, 1) := by decide +kernel
theorem zd_MO_one_9 : decode prog_8_method_30_code 9 = .ok (.iadd, 1) := by decide +kernel
theorem zd_MO_one_10 : decode prog_8_method_30_code 10 = .ok (.invokevirtual 51, 3) := by decide +kernel
theorem zd_MO_one_13 : decode prog_8_method_30_code 13 = .ok (.istore_n 3, 1) := by decide +kernel
theorem zd_MO_one_14 : decode prog_8_method_30_code 14 = .ok (.iload_n 2, 1) := by decide +kernel
theorem zd_MO_one_15 : decode prog_8_method_30_code 15 = .ok (.lookupswitch (226) #[(40, 81), (41, 87), (47, 180), (60, 119), (62, 149), (91, 101), (93, 101), (123, 94), (125, 94)], 81) := by decide +kernel
theorem zd_MO_one_96 : decode prog_8_method_30_code 96 = .ok (.aload_n 0, 1) := by decide +kernel
theorem zd_MO_one_97 : decode prog_8_method_30_code 97 = .ok (.iload_n 1, 1) := by decide +kernel
theorem zd_MO_one_98 : decode prog_8_method_30_code 98 = .ok (.invokevirtual 162, 3) := by decide +kernel
theorem zd_MO_one_101 : decode prog_8_method_30_code 101 = .ok (.ireturn, 1) := by decide +kernel
theorem zd_MO_one_102 : decode prog_8_method_30_code 102 = .ok (.aload_n 0, 1) := by decide +kernel
theorem zd_MO_one_103 : decode prog_8_method_30_code 103 = .ok (.iconst 1, 1) := by decide +kernel
theorem zd_MO_one_104 : decode prog_8_method_30_code 104 = .ok (.iload_n 1, 1) := by decide +kernel
theorem zd_MO_one_105 : decode prog_8_method_30_code 105 = .ok (.invokevirtual 80, 3) := by decide +kernel
theorem zd_MO_one_108 : decode prog_8_method_30_code 108 = .ok (.ireturn, 1) := by decide +kernel
theorem zd_MO_one_109 : decode prog_8_method_30_code 109 = .ok (.aload_n 0, 1) := by decide +kernel
theorem zd_MO_one_110 : decode prog_8_method_30_code 110 = .ok (.iload_n 1, 1) := by decide +kernel
theorem zd_MO_one_111 : decode prog_8_method_30_code 111 = .ok (.iload_n 2, 1) := by decide +kernel
theorem zd_MO_one_112 : decode prog_8_method_30_code 112 = .ok (.invokevirtual 165, 3) := by decide +kernel
theorem zd_MO_one_115 : decode prog_8_method_30_code 115 = .ok (.ireturn, 1) := by decide +kernel
theorem zd_MO_one_116 : decode prog_8_method_30_code 116 = .ok (.aload_n 0, 1) := by decide +kernel
theorem zd_MO_one_117 : decode prog_8_method_30_code 117 = .ok (.iconst 3, 1) := by decide +kernel
theorem zd_MO_one_118 : decode prog_8_method_30_code 118 = .ok (.aload_n 0, 1) := by decide +kernel
theorem zd_MO_one_119 : decode prog_8_method_30_code 119 = .ok (.iload_n 1, 1) := by decide +kernel
theorem zd_MO_one_120 : decode prog_8_method_30_code 120 = .ok (.iload_n 1, 1) := by decide +kernel
theorem zd_MO_one_121 : decode prog_8_method_30_code 121 = .ok (.iconst 1, 1) := by decide +kernel
theorem zd_MO_one_122 : decode prog_8_method_30_code 122 = .ok (.iadd, 1) := by decide +kernel
theorem zd_MO_one_123 : decode prog_8_method_30_code 123 = .ok (.invokevirtual 107, 3) := by decide +kernel
theorem zd_MO_one_126 : decode prog_8_method_30_code 126 = .ok (.iload_n 1, 1) := by decide +kernel
theorem zd_MO_one_127 : decode prog_8_method_30_code 127 = .ok (.invokevirtual 110, 3) := by decide +kernel
theorem zd_MO_one_130 : decode prog_8_method_30_code 130 = .ok (.iload_n 1, 1) := by decide +kernel
theorem zd_MO_one_131 : decode prog_8_method_30_code 131 = .ok (.iconst 1, 1) := by decide +kernel
theorem zd_MO_one_132 : decode prog_8_method_30_code 132 = .ok (.iadd, 1) := by decide +kernel
theorem zd_MO_one_133 : decode prog_8_method_30_code 133 = .ok (.ireturn, 1) := by decide +kernel
theorem zd_MO_one_134 : decode prog_8_method_30_code 134 = .ok (.iload_n 3, 1) := by decide +kernel
theorem zd_MO_one_135 : decode prog_8_method_30_code 135 = .ok (.bipush (60), 2) := by decide +kernel
theorem zd_MO_one_137 : decode prog_8_method_30_code 137 = .ok (.if_icmp .eq (9), 3) := by decide +kernel
theorem zd_MO_one_140 : decode prog_8_method_30_code 140 = .ok (.aload_n 0, 1) := by decide +kernel
theorem zd_MO_one_141 : decode prog_8_method_30_code 141 = .ok (.iload_n 1, 1) := by decide +kernel
theorem zd_MO_one_142 : decode prog_8_method_30_code 142 = .ok (.invokevirtual 168, 3) := by decide +kernel
theorem zd_MO_one_145 : decode prog_8_method_30_code 145 = .ok (.ireturn, 1) := by decide +kernel
theorem zd_MO_one_146 : decode prog_8_method_30_code 146 = .ok (.aload_n 0, 1) := by decide +kernel
theorem zd_MO_one_147 : decode prog_8_method_30_code 147 = .ok (.iconst 3, 1) := by decide +kernel
theorem zd_MO_one_148 : decode prog_8_method_30_code 148 = .ok (.aload_n 0, 1) := by decide +kernel
theorem zd_MO_one_149 : decode prog_8_method_30_code 149 = .ok (.iload_n 1, 1) := by decide +kernel
theorem zd_MO_one_150 : decode prog_8_method_30_code 150 = .ok (.iload_n 1, 1) := by decide +kernel
theorem zd_MO_one_151 : decode prog_8_method_30_code 151 = .ok (.iconst 2, 1) := by decide +kernel
theorem zd_MO_one_152 : decode prog_8_method_30_code 152 = .ok (.iadd, 1) := by decide +kernel
theorem zd_MO_one_153 : decode prog_8_method_30_code 153 = .ok (.invokevirtual 107, 3) := by decide +kernel
theorem zd_MO_one_156 : decode prog_8_method_30_code 156 = .ok (.iload_n 1, 1) := by decide +kernel
theorem zd_MO_one_157 : decode prog_8_method_30_code 157 = .ok (.invokevirtual 110, 3) := by decide +kernel
theorem zd_MO_one_160 : decode prog_8_method_30_code 160 = .ok (.iload_n 1, 1) := by decide +kernel
theorem zd_MO_one_161 : decode prog_8_method_30_code 161 = .ok (.iconst 2, 1) := by decide +kernel
theorem zd_MO_one_162 : decode prog_8_method_30_code 162 = .ok (.iadd, 1) := by decide +kernel
theorem zd_MO_one_163 : decode prog_8_method_30_code 163 = .ok (.ireturn, 1) := by decide +kernel
theorem zd_MO_one_164 : decode prog_8_method_30_code 164 = .ok (.iload_n 3, 1) := by decide +kernel
theorem zd_MO_one_165 : decode prog_8_method_30_code 165 = .ok (.bipush (62), 2) := by decide +kernel
theorem zd_MO_one_167 : decode prog_8_method_30_code 167 = .ok (.if_icmp .eq (10), 3) := by decide +kernel
theorem zd_MO_one_170 : decode prog_8_method_30_code 170 = .ok (.aload_n 0, 1) := by decide +kernel
theorem zd_MO_one_171 : decode prog_8_method_30_code 171 = .ok (.iconst 1, 1) := by decide +kernel
theorem zd_MO_one_172 : decode prog_8_method_30_code 172 = .ok (.iload_n 1, 1) := by decide +kernel
theorem zd_MO_one_173 : decode prog_8_method_30_code 173 = .ok (.invokevirtual 80, 3) := by decide +kernel
theorem zd_MO_one_176 : decode prog_8_method_30_code 176 = .ok (.ireturn, 1) := by decide +kernel
theorem zd_MO_one_177 : decode prog_8_method_30_code 177 = .ok (.aload_n 0, 1) := by decide +kernel
theorem zd_MO_one_178 : decode prog_8_method_30_code 178 = .ok (.iconst 3, 1) := by decide +kernel
theorem zd_MO_one_179 : decode prog_8_method_30_code 179 = .ok (.aload_n 0, 1) := by decide +kernel
theorem zd_MO_one_180 : decode prog_8_method_30_code 180 = .ok (.iload_n 1, 1) := by decide +kernel
theorem zd_MO_one_181 : decode prog_8_method_30_code 181 = .ok (.iload_n 1, 1) := by decide +kernel
theorem zd_MO_one_182 : decode prog_8_method_30_code 182 = .ok (.iconst 2, 1) := by decide +kernel
theorem zd_MO_one_183 : decode prog_8_method_30_code 183 = .ok (.iadd, 1) := by decide +kernel
theorem zd_MO_one_184 : decode prog_8_method_30_code 184 = .ok (.invokevirtual 107, 3) := by decide +kernel
theorem zd_MO_one_187 : decode prog_8_method_30_code 187 = .ok (.iload_n 1, 1) := by decide +kernel
theorem zd_MO_one_188 : decode prog_8_method_30_code 188 = .ok (.invokevirtual 110, 3) := by decide +kernel
theorem zd_MO_one_191 : decode prog_8_method_30_code 191 = .ok (.iload_n 1, 1) := by decide +kernel
theorem zd_MO_one_192 : decode prog_8_method_30_code 192 = .ok (.iconst 2, 1) := by decide +kernel
theorem zd_MO_one_193 : decode prog_8_method_30_code 193 = .ok (.iadd, 1) := by decide +kernel
theorem zd_MO_one_194 : decode prog_8_method_30_code 194 = .ok (.ireturn, 1) := by decide +kernel
theorem zd_MO_one_195 : decode prog_8_method_30_code 195 = .ok (.aload_n 0, 1) := by decide +kernel
theorem zd_MO_one_196 : decode prog_8_method_30_code 196 = .ok (.iload_n 1, 1) := by decide +kernel
theorem zd_MO_one_197 : decode prog_8_method_30_code 197 = .ok (.iconst 1, 1) := by decide +kernel
theorem zd_MO_one_198 : decode prog_8_method_30_code 198 = .ok (.iadd, 1) := by decide +kernel
theorem zd_MO_one_199 : decode prog_8_method_30_code 199 = .ok (.invokevirtual 171, 3) := by decide +kernel
theorem zd_MO_one_202 : decode prog_8_method_30_code 202 = .ok (.istore 4, 2) := by decide +kernel
theorem zd_MO_one_204 : decode prog_8_method_30_code 204 = .ok (.iload 4, 2) := by decide +kernel
theorem zd_MO_one_206 : decode prog_8_method_30_code 206 = .ok (.iload_n 1, 1) := by decide +kernel
theorem zd_MO_one_207 : decode prog_8_method_30_code 207 = .ok (.isub, 1) := by decide +kernel
theorem zd_MO_one_208 : decode prog_8_method_30_code 208 = .ok (.iconst 1, 1) := by decide +kernel
theorem zd_MO_one_209 : decode prog_8_method_30_code 209 = .ok (.isub, 1) := by decide +kernel
theorem zd_MO_one_210 : decode prog_8_method_30_code 210 = .ok (.bipush (127), 2) := by decide +kernel
theorem zd_MO_one_212 : decode prog_8_method_30_code 212 = .ok (.if_icmp .le (11), 3) := by decide +kernel
theorem zd_MO_one_215 : decode prog_8_method_30_code 215 = .ok (.aload_n 0, 1) := by decide +kernel
theorem zd_MO_one_216 : decode prog_8_method_30_code 216 = .ok (.bipush (6), 2) := by decide +kernel
theorem zd_MO_one_218 : decode prog_8_method_30_code 218 = .ok (.iload_n 1, 1) := by decide +kernel
theorem zd_MO_one_219 : decode prog_8_method_30_code 219 = .ok (.invokevirtual 80, 3) := by decide +kernel
theorem zd_MO_one_222 : decode prog_8_method_30_code 222 = .ok (.ireturn, 1) := by decide +kernel
theorem zd_MO_one_223 : decode prog_8_method_30_code 223 = .ok (.aload_n 0, 1) := by decide +kernel
theorem zd_MO_one_224 : decode prog_8_method_30_code 224 = .ok (.iconst 4, 1) := by decide +kernel
theorem zd_MO_one_225 : decode prog_8_method_30_code 225 = .ok (.aload_n 0, 1) := by decide +kernel
theorem zd_MO_one_226 : decode prog_8_method_30_code 226 = .ok (.iload_n 1, 1) := by decide +kernel
theorem zd_MO_one_227 : decode prog_8_method_30_code 227 = .ok (.iconst 1, 1) := by decide +kernel
theorem zd_MO_one_228 : decode prog_8_method_30_code 228 = .ok (.iadd, 1) := by decide +kernel
theorem zd_MO_one_229 : decode prog_8_method_30_code 229 = .ok (.iload 4, 2) := by decide +kernel
theorem zd_MO_one_231 : decode prog_8_method_30_code 231 = .ok (.invokevirtual 107, 3) := by decide +kernel
theorem zd_MO_one_234 : decode prog_8_method_30_code 234 = .ok (.iload_n 1, 1) := by decide +kernel
theorem zd_MO_one_235 : decode prog_8_method_30_code 235 = .ok (.invokevirtual 110, 3) := by decide +kernel
theorem zd_MO_one_238 : decode prog_8_method_30_code 238 = .ok (.iload 4, 2) := by decide +kernel
theorem zd_MO_one_240 : decode prog_8_method_30_code 240 = .ok (.ireturn, 1) := by decide +kernel
theorem zd_MO_one_241 : decode prog_8_method_30_code 241 = .ok (.aload_n 0, 1) := by decide +kernel
theorem zd_MO_one_242 : decode prog_8_method_30_code 242 = .ok (.iload_n 1, 1) := by decide +kernel
theorem zd_MO_one_243 : decode prog_8_method_30_code 243 = .ok (.aload_n 0, 1) := by decide +kernel
theorem zd_MO_one_244 : decode prog_8_method_30_code 244 = .ok (.iload_n 1, 1) := by decide +kernel
theorem zd_MO_one_245 : decode prog_8_method_30_code 245 = .ok (.invokevirtual 171, 3) := by decide +kernel
theorem zd_MO_one_248 : decode prog_8_method_30_code 248 = .ok (.invokevirtual 174, 3) := by decide +kernel
theorem zd_MO_one_251 : decode prog_8_method_30_code 251 = .ok (.ireturn, 1) := by decide +kernel
theorem zd_MO_brackets_0 : decode prog_8_method_24_code 0 = .ok (.iconst 1, 1) := by decide +kernel
theorem zd_MO_brackets_1 : decode prog_8_method_24_code 1 = .ok (.istore_n 2, 1) := by decide +kernel
theorem zd_MO_brackets_2 : decode prog_8_method_24_code 2 = .ok (.iload_n 1, 1) := by decide +kernel
theorem zd_MO_brackets_3 : decode prog_8_method_24_code 3 = .ok (.iconst 1, 1) := by decide +kernel
theorem zd_MO_brackets_4 : decode prog_8_method_24_code 4 = .ok (.iadd, 1) := by decide +kernel
theorem zd_MO_brackets_5 : decode prog_8_method_24_code 5 = .ok (.istore_n 3, 1) := by decide +kernel
theorem zd_MO_brackets_6 : decode prog_8_method_24_code 6 = .ok (.iload_n 2, 1) := by decide +kernel
theorem zd_MO_brackets_7 : decode prog_8_method_24_code 7 = .ok (.ifCond .le (124), 3) := by decide +kernel
theorem zd_MO_brackets_10 : decode prog_8_method_24_code 10 = .ok (.aload_n 0, 1) := by decide +kernel
theorem zd_MO_brackets_11 : decode prog_8_method_24_code 11 = .ok (.iload_n 3, 1) := by decide +kernel
theorem zd_MO_brackets_12 : decode prog_8_method_24_code 12 = .ok (.invokevirtual 51, 3) := by decide +kernel
theorem zd_MO_brackets_15 : decode prog_8_method_24_code 15 = .ok (.istore 4, 2) := by decide +kernel
theorem zd_MO_brackets_17 : decode prog_8_method_24_code 17 = .ok (.iload 4, 2) := by decide +kernel
theorem zd_MO_brackets_19 : decode prog_8_method_24_code 19 = .ok (.ifCond .ge (13), 3) := by decide +kernel
theorem zd_MO_brackets_22 : decode prog_8_method_24_code 22 = .ok (.aload_n 0, 1) := by decide +kernel
theorem zd_MO_brackets_23 : decode prog_8_method_24_code 23 = .ok (.iconst 2, 1) := by decide +kernel
theorem zd_MO_brackets_24 : decode prog_8_method_24_code 24 = .ok (.aload_n 0, 1) := by decide +kernel
theorem zd_MO_brackets_25 : decode prog_8_method_24_code 25 = .ok (.getfield 40, 3) := by decide +kernel
theorem zd_MO_brackets_28 : decode prog_8_method_24_code 28 = .ok (.invokevirtual 80, 3) := by decide +kernel
theorem zd_MO_brackets_31 : decode prog_8_method_24_code 31 = .ok (.ireturn, 1) := by decide +kernel
theorem zd_MO_brackets_32 : decode prog_8_method_24_code 32 = .ok (.iload 4, 2) := by decide +kernel
theorem zd_MO_brackets_34 : decode prog_8_method_24_code 34 = .ok (.bipush (92), 2) := by decide +kernel
theorem zd_MO_brackets_36 : decode prog_8_method_24_code 36 = .ok (.if_icmp .ne (17), 3) := by decide +kernel
theorem zd_MO_brackets_39 : decode prog_8_method_24_code 39 = .ok (.aload_n 0, 1) := by decide +kernel
theorem zd_MO_brackets_40 : decode prog_8_method_24_code 40 = .ok (.iload_n 3, 1) := by decide +kernel
theorem zd_MO_brackets_41 : decode prog_8_method_24_code 41 = .ok (.iconst 1, 1) := by decide +kernel
theorem zd_MO_brackets_42 : decode prog_8_method_24_code 42 = .ok (.iadd, 1) := by decide +kernel
theorem zd_MO_brackets_43 : decode prog_8_method_24_code 43 = .ok (.invokevirtual 150, 3) := by decide +kernel
theorem zd_MO_brackets_46 : decode prog_8_method_24_code 46 = .ok (.istore_n 3, 1) := by decide +kernel
theorem zd_MO_brackets_47 : decode prog_8_method_24_code 47 = .ok (.iload_n 3, 1) := by decide +kernel
theorem zd_MO_brackets_48 : decode prog_8_method_24_code 48 = .ok (.ifCond .ge (-42), 3) := by decide +kernel
theorem zd_MO_brackets_51 : decode prog_8_method_24_code 51 = .ok (.iconst (-1), 1) := by decide +kernel
theorem zd_MO_brackets_52 : decode prog_8_method_24_code 52 = .ok (.ireturn, 1) := by decide +kernel
theorem zd_MO_brackets_53 : decode prog_8_method_24_code 53 = .ok (.iload_n 2, 1) := by decide +kernel
theorem zd_MO_brackets_54 : decode prog_8_method_24_code 54 = .ok (.iload 4, 2) := by decide +kernel
theorem zd_MO_brackets_56 : decode prog_8_method_24_code 56 = .ok (.bipush (40), 2) := by decide +kernel
theorem zd_MO_brackets_58 : decode prog_8_method_24_code 58 = .ok (.if_icmp .ne (7), 3) := by decide +kernel
theorem zd_MO_brackets_61 : decode prog_8_method_24_code 61 = .ok (.iconst 1, 1) := by decide +kernel
theorem zd_MO_brackets_62 : decode prog_8_method_24_code 62 = .ok (.goto (15), 3) := by decide +kernel
theorem zd_MO_brackets_65 : decode prog_8_method_24_code 65 = .ok (.iload 4, 2) := by decide +kernel
theorem zd_MO_brackets_67 : decode prog_8_method_24_code 67 = .ok (.bipush (41), 2) := by decide +kernel
theorem zd_MO_brackets_69 : decode prog_8_method_24_code 69 = .ok (.if_icmp .ne (7), 3) := by decide +kernel
theorem zd_MO_brackets_72 : decode prog_8_method_24_code 72 = .ok (.iconst (-1), 1) := by decide +kernel
theorem zd_MO_brackets_73 : decode prog_8_method_24_code 73 = .ok (.goto (4), 3) := by decide +kernel
theorem zd_MO_brackets_76 : decode prog_8_method_24_code 76 = .ok (.iconst 0, 1) := by decide +kernel
theorem zd_MO_brackets_77 : decode prog_8_method_24_code 77 = .ok (.iadd, 1) := by decide +kernel
theorem zd_MO_brackets_78 : decode prog_8_method_24_code 78 = .ok (.istore_n 2, 1) := by decide +kernel
theorem zd_MO_brackets_79 : decode prog_8_method_24_code 79 = .ok (.iload_n 2, 1) := by decide +kernel
theorem zd_MO_brackets_80 : decode prog_8_method_24_code 80 = .ok (.ifCond .le (21), 3) := by decide +kernel
theorem zd_MO_brackets_83 : decode prog_8_method_24_code 83 = .ok (.aload_n 0, 1) := by decide +kernel
theorem zd_MO_brackets_84 : decode prog_8_method_24_code 84 = .ok (.iload 4, 2) := by decide +kernel
theorem zd_MO_brackets_86 : decode prog_8_method_24_code 86 = .ok (.bipush (13), 2) := by decide +kernel
theorem zd_MO_brackets_88 : decode prog_8_method_24_code 88 = .ok (.if_icmp .ne (8), 3) := by decide +kernel
theorem zd_MO_brackets_91 : decode prog_8_method_24_code 91 = .ok (.bipush (10), 2) := by decide +kernel
theorem zd_MO_brackets_93 : decode prog_8_method_24_code 93 = .ok (.goto (5), 3) := by decide +kernel
theorem zd_MO_brackets_96 : decode prog_8_method_24_code 96 = .ok (.iload 4, 2) := by decide +kernel
theorem zd_MO_brackets_98 : decode prog_8_method_24_code 98 = .ok (.invokevirtual 72, 3) := by decide +kernel
theorem zd_MO_brackets_101 : decode prog_8_method_24_code 101 = .ok (.iload_n 3, 1) := by decide +kernel
theorem zd_MO_brackets_102 : decode prog_8_method_24_code 102 = .ok (.iload 4, 2) := by decide +kernel
theorem zd_MO_brackets_104 : decode prog_8_method_24_code 104 = .ok (.bipush (13), 2) := by decide +kernel
theorem zd_MO_brackets_106 : decode prog_8_method_24_code 106 = .ok (.if_icmp .ne (19), 3) := by decide +kernel
theorem zd_MO_brackets_109 : decode prog_8_method_24_code 109 = .ok (.aload_n 0, 1) := by decide +kernel
theorem zd_MO_brackets_110 : decode prog_8_method_24_code 110 = .ok (.iload_n 3, 1) := by decide +kernel
theorem zd_MO_brackets_111 : decode prog_8_method_24_code 111 = .ok (.iconst 1, 1) := by decide +kernel
theorem zd_MO_brackets_112 : decode prog_8_method_24_code 112 = .ok (.iadd, 1) := by decide +kernel
theorem zd_MO_brackets_113 : decode prog_8_method_24_code 113 = .ok (.invokevirtual 51, 3) := by decide +kernel
theorem zd_MO_brackets_116 : decode prog_8_method_24_code 116 = .ok (.bipush (10), 2) := by decide +kernel
theorem zd_MO_brackets_118 : decode prog_8_method_24_code 118 = .ok (.if_icmp .ne (7), 3) := by decide +kernel
theorem zd_MO_brackets_121 : decode prog_8_method_24_code 121 = .ok (.iconst 2, 1) := by decide +kernel
theorem zd_MO_brackets_122 : decode prog_8_method_24_code 122 = .ok (.goto (4), 3) := by decide +kernel
theorem zd_MO_brackets_125 : decode prog_8_method_24_code 125 = .ok (.iconst 1, 1) := by decide +kernel
theorem zd_MO_brackets_126 : decode prog_8_method_24_code 126 = .ok (.iadd, 1) := by decide +kernel
theorem zd_MO_brackets_127 : decode prog_8_method_24_code 127 = .ok (.istore_n 3, 1) := by decide +kernel
theorem zd_MO_brackets_128 : decode prog_8_method_24_code 128 = .ok (.goto (-122), 3) := by decide +kernel
theorem zd_MO_brackets_131 : decode prog_8_method_24_code 131 = .ok (.aload_n 0, 1) := by decide +kernel
theorem zd_MO_brackets_132 : decode prog_8_method_24_code 132 = .ok (.iconst 5, 1) := by decide +kernel
theorem zd_MO_brackets_133 : decode prog_8_method_24_code 133 = .ok (.aload_n 0, 1) := by decide +kernel
theorem zd_MO_brackets_134 : decode prog_8_method_24_code 134 = .ok (.invokevirtual 76, 3) := by decide +kernel
theorem zd_MO_brackets_137 : decode prog_8_method_24_code 137 = .ok (.iload_n 1, 1) := by decide +kernel
theorem zd_MO_brackets_138 : decode prog_8_method_24_code 138 = .ok (.invokevirtual 110, 3) := by decide +kernel
theorem zd_MO_brackets_141 : decode prog_8_method_24_code 141 = .ok (.iload_n 3, 1) := by decide +kernel
theorem zd_MO_brackets_142 : decode prog_8_method_24_code 142 = .ok (.ireturn, 1) := by decide +kernel
theorem zd_MO_escape_0 : decode prog_8_method_26_code 0 = .ok (.aload_n 0, 1) := by decide +kernel
theorem zd_MO_escape_1 : decode prog_8_method_26_code 1 = .ok (.iload_n 1, 1) := by decide +kernel
theorem zd_MO_escape_2 : decode prog_8_method_26_code 2 = .ok (.invokevirtual 51, 3) := by decide +kernel
theorem zd_MO_escape_5 : decode prog_8_method_26_code 5 = .ok (.istore_n 2, 1) := by decide +kernel
theorem zd_MO_escape_6 : decode prog_8_method_26_code 6 = .ok (.iload_n 2, 1) := by decide +kernel
theorem zd_MO_escape_7 : decode prog_8_method_26_code 7 = .ok (.ifCond .ge (13), 3) := by decide +kernel
theorem zd_MO_escape_10 : decode prog_8_method_26_code 10 = .ok (.aload_n 0, 1) := by decide +kernel
theorem zd_MO_escape_11 : decode prog_8_method_26_code 11 = .ok (.iconst 2, 1) := by decide +kernel
theorem zd_MO_escape_12 : decode prog_8_method_26_code 12 = .ok (.aload_n 0, 1) := by decide +kernel
theorem zd_MO_escape_13 : decode prog_8_method_26_code 13 = .ok (.getfield 40, 3) := by decide +kernel
theorem zd_MO_escape_16 : decode prog_8_method_26_code 16 = .ok (.invokevirtual 80, 3) := by decide +kernel
theorem zd_MO_escape_19 : decode prog_8_method_26_code 19 = .ok (.ireturn, 1) := by decide +kernel
theorem zd_MO_escape_20 : decode prog_8_method_26_code 20 = .ok (.iload_n 2, 1) := by decide +kernel
theorem zd_MO_escape_21 : decode prog_8_method_26_code 21 = .ok (.bipush (10), 2) := by decide +kernel
theorem zd_MO_escape_23 : decode prog_8_method_26_code 23 = .ok (.if_icmp .ne (7), 3) := by decide +kernel
theorem zd_MO_escape_26 : decode prog_8_method_26_code 26 = .ok (.iload_n 1, 1) := by decide +kernel
theorem zd_MO_escape_27 : decode prog_8_method_26_code 27 = .ok (.iconst 1, 1) := by decide +kernel
theorem zd_MO_escape_28 : decode prog_8_method_26_code 28 = .ok (.iadd, 1) := by decide +kernel
theorem zd_MO_escape_29 : decode prog_8_method_26_code 29 = .ok (.ireturn, 1) := by decide +kernel
theorem zd_MO_escape_30 : decode prog_8_method_26_code 30 = .ok (.iload_n 2, 1) := by decide +kernel
theorem zd_MO_escape_31 : decode prog_8_method_26_code 31 = .ok (.bipush (13), 2) := by decide +kernel
theorem zd_MO_escape_33 : decode prog_8_method_26_code 33 = .ok (.if_icmp .ne (25), 3) := by decide +kernel
theorem zd_MO_escape_36 : decode prog_8_method_26_code 36 = .ok (.aload_n 0, 1) := by decide +kernel
theorem zd_MO_escape_37 : decode prog_8_method_26_code 37 = .ok (.iload_n 1, 1) := by decide +kernel
theorem zd_MO_escape_38 : decode prog_8_method_26_code 38 = .ok (.iconst 1, 1) := by decide +kernel
theorem zd_MO_escape_39 : decode prog_8_method_26_code 39 = .ok (.iadd, 1) := by decide +kernel
theorem zd_MO_escape_40 : decode prog_8_method_26_code 40 = .ok (.invokevirtual 51, 3) := by decide +kernel
theorem zd_MO_escape_43 : decode prog_8_method_26_code 43 = .ok (.bipush (10), 2) := by decide +kernel
theorem zd_MO_escape_45 : decode prog_8_method_26_code 45 = .ok (.if_icmp .ne (9), 3) := by decide +kernel
theorem zd_MO_escape_48 : decode prog_8_method_26_code 48 = .ok (.iload_n 1, 1) := by decide +kernel
theorem zd_MO_escape_49 : decode prog_8_method_26_code 49 = .ok (.iconst 2, 1) := by decide +kernel
theorem zd_MO_escape_50 : decode prog_8_method_26_code 50 = .ok (.iadd, 1) := by decide +kernel
theorem zd_MO_escape_51 : decode prog_8_method_26_code 51 = .ok (.goto (6), 3) := by decide +kernel
theorem zd_MO_escape_54 : decode prog_8_method_26_code 54 = .ok (.iload_n 1, 1) := by decide +kernel
theorem zd_MO_escape_55 : decode prog_8_method_26_code 55 = .ok (.iconst 1, 1) := by decide +kernel
theorem zd_MO_escape_56 : decode prog_8_method_26_code 56 = .ok (.iadd, 1) := by decide +kernel
theorem zd_MO_escape_57 : decode prog_8_method_26_code 57 = .ok (.ireturn, 1) := by decide +kernel
theorem zd_MO_escape_58 : decode prog_8_method_26_code 58 = .ok (.iload_n 2, 1) := by decide +kernel
theorem zd_MO_escape_59 : decode prog_8_method_26_code 59 = .ok (.invokestatic 153, 3) := by decide +kernel
theorem zd_MO_escape_62 : decode prog_8_method_26_code 62 = .ok (.ifCond .eq (57), 3) := by decide +kernel
theorem zd_MO_escape_65 : decode prog_8_method_26_code 65 = .ok (.iconst 0, 1) := by decide +kernel
theorem zd_MO_escape_66 : decode prog_8_method_26_code 66 = .ok (.istore_n 3, 1) := by decide +kernel
theorem zd_MO_escape_67 : decode prog_8_method_26_code 67 = .ok (.iload_n 1, 1) := by decide +kernel
theorem zd_MO_escape_68 : decode prog_8_method_26_code 68 = .ok (.istore 4, 2) := by decide +kernel
theorem zd_MO_escape_70 : decode prog_8_method_26_code 70 = .ok (.iload 4, 2) := by decide +kernel
theorem zd_MO_escape_72 : decode prog_8_method_26_code 72 = .ok (.iload_n 1, 1) := by decide +kernel
theorem zd_MO_escape_73 : decode prog_8_method_26_code 73 = .ok (.iconst 3, 1) := by decide +kernel
theorem zd_MO_escape_74 : decode prog_8_method_26_code 74 = .ok (.iadd, 1) := by decide +kernel
theorem zd_MO_escape_75 : decode prog_8_method_26_code 75 = .ok (.if_icmp .ge (36), 3) := by decide +kernel
theorem zd_MO_escape_78 : decode prog_8_method_26_code 78 = .ok (.aload_n 0, 1) := by decide +kernel
theorem zd_MO_escape_79 : decode prog_8_method_26_code 79 = .ok (.iload 4, 2) := by decide +kernel
theorem zd_MO_escape_81 : decode prog_8_method_26_code 81 = .ok (.invokevirtual 51, 3) := by decide +kernel
theorem zd_MO_escape_84 : decode prog_8_method_26_code 84 = .ok (.invokestatic 153, 3) := by decide +kernel
theorem zd_MO_escape_87 : decode prog_8_method_26_code 87 = .ok (.ifCond .eq (24), 3) := by decide +kernel
theorem zd_MO_escape_90 : decode prog_8_method_26_code 90 = .ok (.bipush (8), 2) := by decide +kernel
theorem zd_MO_escape_92 : decode prog_8_method_26_code 92 = .ok (.iload_n 3, 1) := by decide +kernel
theorem zd_MO_escape_93 : decode prog_8_method_26_code 93 = .ok (.imul, 1) := by decide +kernel
theorem zd_MO_escape_94 : decode prog_8_method_26_code 94 = .ok (.aload_n 0, 1) := by decide +kernel
theorem zd_MO_escape_95 : decode prog_8_method_26_code 95 = .ok (.iload 4, 2) := by decide +kernel
theorem zd_MO_escape_97 : decode prog_8_method_26_code 97 = .ok (.invokevirtual 51, 3) := by decide +kernel
theorem zd_MO_escape_100 : decode prog_8_method_26_code 100 = .ok (.iadd, 1) := by decide +kernel
theorem zd_MO_escape_101 : decode prog_8_method_26_code 101 = .ok (.bipush (48), 2) := by decide +kernel
theorem zd_MO_escape_103 : decode prog_8_method_26_code 103 = .ok (.isub, 1) := by decide +kernel
theorem zd_MO_escape_104 : decode prog_8_method_26_code 104 = .ok (.istore_n 3, 1) := by decide +kernel
theorem zd_MO_escape_105 : decode prog_8_method_26_code 105 = .ok (.iinc 4 (1), 3) := by decide +kernel
theorem zd_MO_escape_108 : decode prog_8_method_26_code 108 = .ok (.goto (-38), 3) := by decide +kernel
theorem zd_MO_escape_111 : decode prog_8_method_26_code 111 = .ok (.aload_n 0, 1) := by decide +kernel
theorem zd_MO_escape_112 : decode prog_8_method_26_code 112 = .ok (.iload_n 3, 1) := by decide +kernel
theorem zd_MO_escape_113 : decode prog_8_method_26_code 113 = .ok (.invokevirtual 72, 3) := by decide +kernel
theorem zd_MO_escape_116 : decode prog_8_method_26_code 116 = .ok (.iload 4, 2) := by decide +kernel
theorem zd_MO_escape_118 : decode prog_8_method_26_code 118 = .ok (.ireturn, 1) := by decide +kernel
theorem zd_MO_escape_119 : decode prog_8_method_26_code 119 = .ok (.aload_n 0, 1) := by decide +kernel
theorem zd_MO_escape_120 : decode prog_8_method_26_code 120 = .ok (.iload_n 2, 1) := by decide +kernel
theorem zd_MO_escape_121 : decode prog_8_method_26_code 121 = .ok (.bipush (110), 2) := by decide +kernel
theorem zd_MO_escape_123 : decode prog_8_method_26_code 123 = .ok (.if_icmp .ne (8), 3) := by decide +kernel
theorem zd_MO_escape_126 : decode prog_8_method_26_code 126 = .ok (.bipush (10), 2) := by decide +kernel
theorem zd_MO_escape_128 : decode prog_8_method_26_code 128 = .ok (.goto (48), 3) := by decide +kernel
theorem zd_MO_escape_131 : decode prog_8_method_26_code 131 = .ok (.iload_n 2, 1) := by decide +kernel
theorem zd_MO_escape_132 : decode prog_8_method_26_code 132 = .ok (.bipush (114), 2) := by decide +kernel
theorem zd_MO_escape_134 : decode prog_8_method_26_code 134 = .ok (.if_icmp .ne (8), 3) := by decide +kernel
theorem zd_MO_escape_137 : decode prog_8_method_26_code 137 = .ok (.bipush (13), 2) := by decide +kernel
theorem zd_MO_escape_139 : decode prog_8_method_26_code 139 = .ok (.goto (37), 3) := by decide +kernel
theorem zd_MO_escape_142 : decode prog_8_method_26_code 142 = .ok (.iload_n 2, 1) := by decide +kernel
theorem zd_MO_escape_143 : decode prog_8_method_26_code 143 = .ok (.bipush (116), 2) := by decide +kernel
theorem zd_MO_escape_145 : decode prog_8_method_26_code 145 = .ok (.if_icmp .ne (8), 3) := by decide +kernel
theorem zd_MO_escape_148 : decode prog_8_method_26_code 148 = .ok (.bipush (9), 2) := by decide +kernel
theorem zd_MO_escape_150 : decode prog_8_method_26_code 150 = .ok (.goto (26), 3) := by decide +kernel
theorem zd_MO_escape_153 : decode prog_8_method_26_code 153 = .ok (.iload_n 2, 1) := by decide +kernel
theorem zd_MO_escape_154 : decode prog_8_method_26_code 154 = .ok (.bipush (98), 2) := by decide +kernel
theorem zd_MO_escape_156 : decode prog_8_method_26_code 156 = .ok (.if_icmp .ne (8), 3) := by decide +kernel
theorem zd_MO_escape_159 : decode prog_8_method_26_code 159 = .ok (.bipush (8), 2) := by decide +kernel
theorem zd_MO_escape_161 : decode prog_8_method_26_code 161 = .ok (.goto (15), 3) := by decide +kernel
theorem zd_MO_escape_164 : decode prog_8_method_26_code 164 = .ok (.iload_n 2, 1) := by decide +kernel
theorem zd_MO_escape_165 : decode prog_8_method_26_code 165 = .ok (.bipush (102), 2) := by decide +kernel
theorem zd_MO_escape_167 : decode prog_8_method_26_code 167 = .ok (.if_icmp .ne (8), 3) := by decide +kernel
theorem zd_MO_escape_170 : decode prog_8_method_26_code 170 = .ok (.bipush (12), 2) := by decide +kernel
theorem zd_MO_escape_172 : decode prog_8_method_26_code 172 = .ok (.goto (4), 3) := by decide +kernel
theorem zd_MO_escape_175 : decode prog_8_method_26_code 175 = .ok (.iload_n 2, 1) := by decide +kernel
theorem zd_MO_escape_176 : decode prog_8_method_26_code 176 = .ok (.invokevirtual 72, 3) := by decide +kernel
theorem zd_MO_escape_179 : decode prog_8_method_26_code 179 = .ok (.iload_n 1, 1) := by decide +kernel
theorem zd_MO_escape_180 : decode prog_8_method_26_code 180 = .ok (.iconst 1, 1) := by decide +kernel
theorem zd_MO_escape_181 : decode prog_8_method_26_code 181 = .ok (.iadd, 1) := by decide +kernel
theorem zd_MO_escape_182 : decode prog_8_method_26_code 182 = .ok (.ireturn, 1) := by decide +kernel
theorem zd_MO_isOctal_0 : decode prog_8_method_25_code 0 = .ok (.iload_n 0, 1) := by decide +kernel
theorem zd_MO_isOctal_1 : decode prog_8_method_25_code 1 = .ok (.bipush (48), 2) := by decide +kernel
theorem zd_MO_isOctal_3 : decode prog_8_method_25_code 3 = .ok (.if_icmp .lt (13), 3) := by decide +kernel
theorem zd_MO_isOctal_6 : decode prog_8_method_25_code 6 = .ok (.iload_n 0, 1) := by decide +kernel
theorem zd_MO_isOctal_7 : decode prog_8_method_25_code 7 = .ok (.bipush (55), 2) := by decide +kernel
theorem zd_MO_isOctal_9 : decode prog_8_method_25_code 9 = .ok (.if_icmp .gt (7), 3) := by decide +kernel
theorem zd_MO_isOctal_12 : decode prog_8_method_25_code 12 = .ok (.iconst 1, 1) := by decide +kernel
theorem zd_MO_isOctal_13 : decode prog_8_method_25_code 13 = .ok (.goto (4), 3) := by decide +kernel
theorem zd_MO_isOctal_16 : decode prog_8_method_25_code 16 = .ok (.iconst 0, 1) := by decide +kernel
theorem zd_MO_isOctal_17 : decode prog_8_method_25_code 17 = .ok (.ireturn, 1) := by decide +kernel
theorem zd_MO_drop_0 : decode prog_8_method_12_code 0 = .ok (.aload_n 0, 1) := by decide +kernel
theorem zd_MO_drop_1 : decode prog_8_method_12_code 1 = .ok (.getfield 28, 3) := by decide +kernel
theorem zd_MO_drop_4 : decode prog_8_method_12_code 4 = .ok (.aload_n 0, 1) := by decide +kernel
theorem zd_MO_drop_5 : decode prog_8_method_12_code 5 = .ok (.getfield 64, 3) := by decide +kernel
theorem zd_MO_drop_8 : decode prog_8_method_12_code 8 = .ok (.iload_n 1, 1) := by decide +kernel
theorem zd_MO_drop_9 : decode prog_8_method_12_code 9 = .ok (.i2b, 1) := by decide +kernel
theorem zd_MO_drop_10 : decode prog_8_method_12_code 10 = .ok (.bastore, 1) := by decide +kernel
theorem zd_MO_drop_11 : decode prog_8_method_12_code 11 = .ok (.aload_n 0, 1) := by decide +kernel
theorem zd_MO_drop_12 : decode prog_8_method_12_code 12 = .ok (.dup, 1) := by decide +kernel
theorem zd_MO_drop_13 : decode prog_8_method_12_code 13 = .ok (.getfield 64, 3) := by decide +kernel
theorem zd_MO_drop_16 : decode prog_8_method_12_code 16 = .ok (.iconst 1, 1) := by decide +kernel
theorem zd_MO_drop_17 : decode prog_8_method_12_code 17 = .ok (.iadd, 1) := by decide +kernel
theorem zd_MO_drop_18 : decode prog_8_method_12_code 18 = .ok (.putfield 64, 3) := by decide +kernel
theorem zd_MO_drop_21 : decode prog_8_method_12_code 21 = .ok (.return_, 1) := by decide +kernel
theorem zd_MO_text_0 : decode prog_8_method_13_code 0 = .ok (.aload_n 0, 1) := by decide +kernel
theorem zd_MO_text_1 : decode prog_8_method_13_code 1 = .ok (.getfield 31, 3) := by decide +kernel
theorem zd_MO_text_4 : decode prog_8_method_13_code 4 = .ok (.aload_n 0, 1) := by decide +kernel
theorem zd_MO_text_5 : decode prog_8_method_13_code 5 = .ok (.getfield 67, 3) := by decide +kernel
theorem zd_MO_text_8 : decode prog_8_method_13_code 8 = .ok (.iaload, 1) := by decide +kernel
theorem zd_MO_text_9 : decode prog_8_method_13_code 9 = .ok (.istore_n 1, 1) := by decide +kernel
theorem zd_MO_text_10 : decode prog_8_method_13_code 10 = .ok (.aload_n 0, 1) := by decide +kernel
theorem zd_MO_text_11 : decode prog_8_method_13_code 11 = .ok (.getfield 64, 3) := by decide +kernel
theorem zd_MO_text_14 : decode prog_8_method_13_code 14 = .ok (.iload_n 1, 1) := by decide +kernel
theorem zd_MO_text_15 : decode prog_8_method_13_code 15 = .ok (.isub, 1) := by decide +kernel
theorem zd_MO_text_16 : decode prog_8_method_13_code 16 = .ok (.istore_n 2, 1) := by decide +kernel
theorem zd_MO_text_17 : decode prog_8_method_13_code 17 = .ok (.iconst 0, 1) := by decide +kernel
theorem zd_MO_text_18 : decode prog_8_method_13_code 18 = .ok (.istore_n 3, 1) := by decide +kernel
theorem zd_MO_text_19 : decode prog_8_method_13_code 19 = .ok (.iload_n 3, 1) := by decide +kernel
theorem zd_MO_text_20 : decode prog_8_method_13_code 20 = .ok (.aload_n 0, 1) := by decide +kernel
theorem zd_MO_text_21 : decode prog_8_method_13_code 21 = .ok (.getfield 67, 3) := by decide +kernel
theorem zd_MO_text_24 : decode prog_8_method_13_code 24 = .ok (.if_icmp .ge (78), 3) := by decide +kernel
theorem zd_MO_text_27 : decode prog_8_method_13_code 27 = .ok (.aload_n 0, 1) := by decide +kernel
theorem zd_MO_text_28 : decode prog_8_method_13_code 28 = .ok (.iload_n 3, 1) := by decide +kernel
theorem zd_MO_text_29 : decode prog_8_method_13_code 29 = .ok (.invokevirtual 70, 3) := by decide +kernel
theorem zd_MO_text_32 : decode prog_8_method_13_code 32 = .ok (.iload_n 2, 1) := by decide +kernel
theorem zd_MO_text_33 : decode prog_8_method_13_code 33 = .ok (.if_icmp .eq (6), 3) := by decide +kernel
theorem zd_MO_text_36 : decode prog_8_method_13_code 36 = .ok (.goto (60), 3) := by decide +kernel
theorem zd_MO_text_39 : decode prog_8_method_13_code 39 = .ok (.iconst 0, 1) := by decide +kernel
theorem zd_MO_text_40 : decode prog_8_method_13_code 40 = .ok (.istore 4, 2) := by decide +kernel
theorem zd_MO_text_42 : decode prog_8_method_13_code 42 = .ok (.iload 4, 2) := by decide +kernel
theorem zd_MO_text_44 : decode prog_8_method_13_code 44 = .ok (.iload_n 2, 1) := by decide +kernel
theorem zd_MO_text_45 : decode prog_8_method_13_code 45 = .ok (.if_icmp .ge (35), 3) := by decide +kernel
theorem zd_MO_text_48 : decode prog_8_method_13_code 48 = .ok (.aload_n 0, 1) := by decide +kernel
theorem zd_MO_text_49 : decode prog_8_method_13_code 49 = .ok (.getfield 28, 3) := by decide +kernel
theorem zd_MO_text_52 : decode prog_8_method_13_code 52 = .ok (.aload_n 0, 1) := by decide +kernel
theorem zd_MO_text_53 : decode prog_8_method_13_code 53 = .ok (.getfield 31, 3) := by decide +kernel
theorem zd_MO_text_56 : decode prog_8_method_13_code 56 = .ok (.iload_n 3, 1) := by decide +kernel
theorem zd_MO_text_57 : decode prog_8_method_13_code 57 = .ok (.iaload, 1) := by decide +kernel
theorem zd_MO_text_58 : decode prog_8_method_13_code 58 = .ok (.iload 4, 2) := by decide +kernel
theorem zd_MO_text_60 : decode prog_8_method_13_code 60 = .ok (.iadd, 1) := by decide +kernel
theorem zd_MO_text_61 : decode prog_8_method_13_code 61 = .ok (.baload, 1) := by decide +kernel
theorem zd_MO_text_62 : decode prog_8_method_13_code 62 = .ok (.aload_n 0, 1) := by decide +kernel
theorem zd_MO_text_63 : decode prog_8_method_13_code 63 = .ok (.getfield 28, 3) := by decide +kernel
theorem zd_MO_text_66 : decode prog_8_method_13_code 66 = .ok (.iload_n 1, 1) := by decide +kernel
theorem zd_MO_text_67 : decode prog_8_method_13_code 67 = .ok (.iload 4, 2) := by decide +kernel
theorem zd_MO_text_69 : decode prog_8_method_13_code 69 = .ok (.iadd, 1) := by decide +kernel
theorem zd_MO_text_70 : decode prog_8_method_13_code 70 = .ok (.baload, 1) := by decide +kernel
theorem zd_MO_text_71 : decode prog_8_method_13_code 71 = .ok (.if_icmp .ne (9), 3) := by decide +kernel
theorem zd_MO_text_74 : decode prog_8_method_13_code 74 = .ok (.iinc 4 (1), 3) := by decide +kernel
theorem zd_MO_text_77 : decode prog_8_method_13_code 77 = .ok (.goto (-35), 3) := by decide +kernel
theorem zd_MO_text_80 : decode prog_8_method_13_code 80 = .ok (.iload 4, 2) := by decide +kernel
theorem zd_MO_text_82 : decode prog_8_method_13_code 82 = .ok (.iload_n 2, 1) := by decide +kernel
theorem zd_MO_text_83 : decode prog_8_method_13_code 83 = .ok (.if_icmp .ge (6), 3) := by decide +kernel
theorem zd_MO_text_86 : decode prog_8_method_13_code 86 = .ok (.goto (10), 3) := by decide +kernel
theorem zd_MO_text_89 : decode prog_8_method_13_code 89 = .ok (.aload_n 0, 1) := by decide +kernel
theorem zd_MO_text_90 : decode prog_8_method_13_code 90 = .ok (.iload_n 1, 1) := by decide +kernel
theorem zd_MO_text_91 : decode prog_8_method_13_code 91 = .ok (.putfield 64, 3) := by decide +kernel
theorem zd_MO_text_94 : decode prog_8_method_13_code 94 = .ok (.iload_n 3, 1) := by decide +kernel
theorem zd_MO_text_95 : decode prog_8_method_13_code 95 = .ok (.ireturn, 1) := by decide +kernel
theorem zd_MO_text_96 : decode prog_8_method_13_code 96 = .ok (.iinc 3 (1), 3) := by decide +kernel
theorem zd_MO_text_99 : decode prog_8_method_13_code 99 = .ok (.goto (-80), 3) := by decide +kernel
theorem zd_MO_text_102 : decode prog_8_method_13_code 102 = .ok (.aload_n 0, 1) := by decide +kernel
theorem zd_MO_text_103 : decode prog_8_method_13_code 103 = .ok (.dup, 1) := by decide +kernel
theorem zd_MO_text_104 : decode prog_8_method_13_code 104 = .ok (.getfield 67, 3) := by decide +kernel
theorem zd_MO_text_107 : decode prog_8_method_13_code 107 = .ok (.iconst 1, 1) := by decide +kernel
theorem zd_MO_text_108 : decode prog_8_method_13_code 108 = .ok (.iadd, 1) := by decide +kernel
theorem zd_MO_text_109 : decode prog_8_method_13_code 109 = .ok (.putfield 67, 3) := by decide +kernel
theorem zd_MO_text_112 : decode prog_8_method_13_code 112 = .ok (.aload_n 0, 1) := by decide +kernel
theorem zd_MO_text_113 : decode prog_8_method_13_code 113 = .ok (.getfield 31, 3) := by decide +kernel
theorem zd_MO_text_116 : decode prog_8_method_13_code 116 = .ok (.aload_n 0, 1) := by decide +kernel
theorem zd_MO_text_117 : decode prog_8_method_13_code 117 = .ok (.getfield 67, 3) := by decide +kernel
theorem zd_MO_text_120 : decode prog_8_method_13_code 120 = .ok (.aload_n 0, 1) := by decide +kernel
theorem zd_MO_text_121 : decode prog_8_method_13_code 121 = .ok (.getfield 64, 3) := by decide +kernel
theorem zd_MO_text_124 : decode prog_8_method_13_code 124 = .ok (.iastore, 1) := by decide +kernel
theorem zd_MO_text_125 : decode prog_8_method_13_code 125 = .ok (.aload_n 0, 1) := by decide +kernel
theorem zd_MO_text_126 : decode prog_8_method_13_code 126 = .ok (.getfield 67, 3) := by decide +kernel
theorem zd_MO_text_129 : decode prog_8_method_13_code 129 = .ok (.iconst 1, 1) := by decide +kernel
theorem zd_MO_text_130 : decode prog_8_method_13_code 130 = .ok (.isub, 1) := by decide +kernel
theorem zd_MO_text_131 : decode prog_8_method_13_code 131 = .ok (.ireturn, 1) := by decide +kernel
theorem zd_MO_size_0 : decode prog_8_method_40_code 0 = .ok (.iload_n 1, 1) := by decide +kernel
theorem zd_MO_size_1 : decode prog_8_method_40_code 1 = .ok (.ifCond .lt (29), 3) := by decide +kernel
theorem zd_MO_size_4 : decode prog_8_method_40_code 4 = .ok (.iload_n 1, 1) := by decide +kernel
theorem zd_MO_size_5 : decode prog_8_method_40_code 5 = .ok (.aload_n 0, 1) := by decide +kernel
theorem zd_MO_size_6 : decode prog_8_method_40_code 6 = .ok (.getfield 67, 3) := by decide +kernel
theorem zd_MO_size_9 : decode prog_8_method_40_code 9 = .ok (.if_icmp .ge (21), 3) := by decide +kernel
theorem zd_MO_size_12 : decode prog_8_method_40_code 12 = .ok (.aload_n 0, 1) := by decide +kernel
theorem zd_MO_size_13 : decode prog_8_method_40_code 13 = .ok (.getfield 31, 3) := by decide +kernel
theorem zd_MO_size_16 : decode prog_8_method_40_code 16 = .ok (.iload_n 1, 1) := by decide +kernel
theorem zd_MO_size_17 : decode prog_8_method_40_code 17 = .ok (.iconst 1, 1) := by decide +kernel
theorem zd_MO_size_18 : decode prog_8_method_40_code 18 = .ok (.iadd, 1) := by decide +kernel
theorem zd_MO_size_19 : decode prog_8_method_40_code 19 = .ok (.iaload, 1) := by decide +kernel
theorem zd_MO_size_20 : decode prog_8_method_40_code 20 = .ok (.aload_n 0, 1) := by decide +kernel
theorem zd_MO_size_21 : decode prog_8_method_40_code 21 = .ok (.getfield 31, 3) := by decide +kernel
theorem zd_MO_size_24 : decode prog_8_method_40_code 24 = .ok (.iload_n 1, 1) := by decide +kernel
theorem zd_MO_size_25 : decode prog_8_method_40_code 25 = .ok (.iaload, 1) := by decide +kernel
theorem zd_MO_size_26 : decode prog_8_method_40_code 26 = .ok (.isub, 1) := by decide +kernel
theorem zd_MO_size_27 : decode prog_8_method_40_code 27 = .ok (.goto (4), 3) := by decide +kernel
theorem zd_MO_size_30 : decode prog_8_method_40_code 30 = .ok (.iconst (-1), 1) := by decide +kernel
theorem zd_MO_size_31 : decode prog_8_method_40_code 31 = .ok (.ireturn, 1) := by decide +kernel
theorem zd_MO_word_0 : decode prog_8_method_11_code 0 = .ok (.aload_n 0, 1) := by decide +kernel
theorem zd_MO_word_1 : decode prog_8_method_11_code 1 = .ok (.getfield 14, 3) := by decide +kernel
theorem zd_MO_word_4 : decode prog_8_method_11_code 4 = .ok (.aload_n 0, 1) := by decide +kernel
theorem zd_MO_word_5 : decode prog_8_method_11_code 5 = .ok (.getfield 61, 3) := by decide +kernel
theorem zd_MO_word_8 : decode prog_8_method_11_code 8 = .ok (.iload_n 1, 1) := by decide +kernel
theorem zd_MO_word_9 : decode prog_8_method_11_code 9 = .ok (.i2b, 1) := by decide +kernel
theorem zd_MO_word_10 : decode prog_8_method_11_code 10 = .ok (.bastore, 1) := by decide +kernel
theorem zd_MO_word_11 : decode prog_8_method_11_code 11 = .ok (.aload_n 0, 1) := by decide +kernel
theorem zd_MO_word_12 : decode prog_8_method_11_code 12 = .ok (.getfield 17, 3) := by decide +kernel
theorem zd_MO_word_15 : decode prog_8_method_11_code 15 = .ok (.aload_n 0, 1) := by decide +kernel
theorem zd_MO_word_16 : decode prog_8_method_11_code 16 = .ok (.getfield 61, 3) := by decide +kernel
theorem zd_MO_word_19 : decode prog_8_method_11_code 19 = .ok (.iload_n 2, 1) := by decide +kernel
theorem zd_MO_word_20 : decode prog_8_method_11_code 20 = .ok (.iastore, 1) := by decide +kernel
theorem zd_MO_word_21 : decode prog_8_method_11_code 21 = .ok (.aload_n 0, 1) := by decide +kernel
theorem zd_MO_word_22 : decode prog_8_method_11_code 22 = .ok (.getfield 21, 3) := by decide +kernel
theorem zd_MO_word_25 : decode prog_8_method_11_code 25 = .ok (.aload_n 0, 1) := by decide +kernel
theorem zd_MO_word_26 : decode prog_8_method_11_code 26 = .ok (.getfield 61, 3) := by decide +kernel
theorem zd_MO_word_29 : decode prog_8_method_11_code 29 = .ok (.iload_n 3, 1) := by decide +kernel
theorem zd_MO_word_30 : decode prog_8_method_11_code 30 = .ok (.iastore, 1) := by decide +kernel
theorem zd_MO_word_31 : decode prog_8_method_11_code 31 = .ok (.aload_n 0, 1) := by decide +kernel
theorem zd_MO_word_32 : decode prog_8_method_11_code 32 = .ok (.dup, 1) := by decide +kernel
theorem zd_MO_word_33 : decode prog_8_method_11_code 33 = .ok (.getfield 61, 3) := by decide +kernel
theorem zd_MO_word_36 : decode prog_8_method_11_code 36 = .ok (.iconst 1, 1) := by decide +kernel
theorem zd_MO_word_37 : decode prog_8_method_11_code 37 = .ok (.iadd, 1) := by decide +kernel
theorem zd_MO_word_38 : decode prog_8_method_11_code 38 = .ok (.putfield 61, 3) := by decide +kernel
theorem zd_MO_word_41 : decode prog_8_method_11_code 41 = .ok (.return_, 1) := by decide +kernel
theorem zd_MO_brace_0 : decode prog_8_method_28_code 0 = .ok (.iload_n 2, 1) := by decide +kernel
theorem zd_MO_brace_1 : decode prog_8_method_28_code 1 = .ok (.bipush (123), 2) := by decide +kernel
theorem zd_MO_brace_3 : decode prog_8_method_28_code 3 = .ok (.if_icmp .ne (55), 3) := by decide +kernel
theorem zd_MO_brace_6 : decode prog_8_method_28_code 6 = .ok (.aload_n 0, 1) := by decide +kernel
theorem zd_MO_brace_7 : decode prog_8_method_28_code 7 = .ok (.getfield 156, 3) := by decide +kernel
theorem zd_MO_brace_10 : decode prog_8_method_28_code 10 = .ok (.bipush (64), 2) := by decide +kernel
theorem zd_MO_brace_12 : decode prog_8_method_28_code 12 = .ok (.if_icmp .ne (11), 3) := by decide +kernel
theorem zd_MO_brace_15 : decode prog_8_method_28_code 15 = .ok (.aload_n 0, 1) := by decide +kernel
theorem zd_MO_brace_16 : decode prog_8_method_28_code 16 = .ok (.bipush (7), 2) := by decide +kernel
theorem zd_MO_brace_18 : decode prog_8_method_28_code 18 = .ok (.iload_n 1, 1) := by decide +kernel
theorem zd_MO_brace_19 : decode prog_8_method_28_code 19 = .ok (.invokevirtual 80, 3) := by decide +kernel
theorem zd_MO_brace_22 : decode prog_8_method_28_code 22 = .ok (.ireturn, 1) := by decide +kernel
theorem zd_MO_brace_23 : decode prog_8_method_28_code 23 = .ok (.aload_n 0, 1) := by decide +kernel
theorem zd_MO_brace_24 : decode prog_8_method_28_code 24 = .ok (.getfield 24, 3) := by decide +kernel
theorem zd_MO_brace_27 : decode prog_8_method_28_code 27 = .ok (.aload_n 0, 1) := by decide +kernel
theorem zd_MO_brace_28 : decode prog_8_method_28_code 28 = .ok (.getfield 156, 3) := by decide +kernel
theorem zd_MO_brace_31 : decode prog_8_method_28_code 31 = .ok (.aload_n 0, 1) := by decide +kernel
theorem zd_MO_brace_32 : decode prog_8_method_28_code 32 = .ok (.getfield 61, 3) := by decide +kernel
theorem zd_MO_brace_35 : decode prog_8_method_28_code 35 = .ok (.iastore, 1) := by decide +kernel
theorem zd_MO_brace_36 : decode prog_8_method_28_code 36 = .ok (.aload_n 0, 1) := by decide +kernel
theorem zd_MO_brace_37 : decode prog_8_method_28_code 37 = .ok (.dup, 1) := by decide +kernel
theorem zd_MO_brace_38 : decode prog_8_method_28_code 38 = .ok (.getfield 156, 3) := by decide +kernel
theorem zd_MO_brace_41 : decode prog_8_method_28_code 41 = .ok (.iconst 1, 1) := by decide +kernel
theorem zd_MO_brace_42 : decode prog_8_method_28_code 42 = .ok (.iadd, 1) := by decide +kernel
theorem zd_MO_brace_43 : decode prog_8_method_28_code 43 = .ok (.putfield 156, 3) := by decide +kernel
theorem zd_MO_brace_46 : decode prog_8_method_28_code 46 = .ok (.aload_n 0, 1) := by decide +kernel
theorem zd_MO_brace_47 : decode prog_8_method_28_code 47 = .ok (.bipush (6), 2) := by decide +kernel
theorem zd_MO_brace_49 : decode prog_8_method_28_code 49 = .ok (.iconst (-1), 1) := by decide +kernel
theorem zd_MO_brace_50 : decode prog_8_method_28_code 50 = .ok (.iload_n 1, 1) := by decide +kernel
theorem zd_MO_brace_51 : decode prog_8_method_28_code 51 = .ok (.invokevirtual 110, 3) := by decide +kernel
theorem zd_MO_brace_54 : decode prog_8_method_28_code 54 = .ok (.iload_n 1, 1) := by decide +kernel
theorem zd_MO_brace_55 : decode prog_8_method_28_code 55 = .ok (.iconst 1, 1) := by decide +kernel
theorem zd_MO_brace_56 : decode prog_8_method_28_code 56 = .ok (.iadd, 1) := by decide +kernel
theorem zd_MO_brace_57 : decode prog_8_method_28_code 57 = .ok (.ireturn, 1) := by decide +kernel
theorem zd_MO_brace_58 : decode prog_8_method_28_code 58 = .ok (.aload_n 0, 1) := by decide +kernel
theorem zd_MO_brace_59 : decode prog_8_method_28_code 59 = .ok (.getfield 156, 3) := by decide +kernel
theorem zd_MO_brace_62 : decode prog_8_method_28_code 62 = .ok (.ifCond .ne (10), 3) := by decide +kernel
theorem zd_MO_brace_65 : decode prog_8_method_28_code 65 = .ok (.aload_n 0, 1) := by decide +kernel
theorem zd_MO_brace_66 : decode prog_8_method_28_code 66 = .ok (.iconst 4, 1) := by decide +kernel
theorem zd_MO_brace_67 : decode prog_8_method_28_code 67 = .ok (.iload_n 1, 1) := by decide +kernel
theorem zd_MO_brace_68 : decode prog_8_method_28_code 68 = .ok (.invokevirtual 80, 3) := by decide +kernel
theorem zd_MO_brace_71 : decode prog_8_method_28_code 71 = .ok (.ireturn, 1) := by decide +kernel
theorem zd_MO_brace_72 : decode prog_8_method_28_code 72 = .ok (.aload_n 0, 1) := by decide +kernel
theorem zd_MO_brace_73 : decode prog_8_method_28_code 73 = .ok (.dup, 1) := by decide +kernel
theorem zd_MO_brace_74 : decode prog_8_method_28_code 74 = .ok (.getfield 156, 3) := by decide +kernel
theorem zd_MO_brace_77 : decode prog_8_method_28_code 77 = .ok (.iconst 1, 1) := by decide +kernel
theorem zd_MO_brace_78 : decode prog_8_method_28_code 78 = .ok (.isub, 1) := by decide +kernel
theorem zd_MO_brace_79 : decode prog_8_method_28_code 79 = .ok (.putfield 156, 3) := by decide +kernel
theorem zd_MO_brace_82 : decode prog_8_method_28_code 82 = .ok (.aload_n 0, 1) := by decide +kernel
theorem zd_MO_brace_83 : decode prog_8_method_28_code 83 = .ok (.getfield 17, 3) := by decide +kernel
theorem zd_MO_brace_86 : decode prog_8_method_28_code 86 = .ok (.aload_n 0, 1) := by decide +kernel
theorem zd_MO_brace_87 : decode prog_8_method_28_code 87 = .ok (.getfield 24, 3) := by decide +kernel
theorem zd_MO_brace_90 : decode prog_8_method_28_code 90 = .ok (.aload_n 0, 1) := by decide +kernel
theorem zd_MO_brace_91 : decode prog_8_method_28_code 91 = .ok (.getfield 156, 3) := by decide +kernel
theorem zd_MO_brace_94 : decode prog_8_method_28_code 94 = .ok (.iaload, 1) := by decide +kernel
theorem zd_MO_brace_95 : decode prog_8_method_28_code 95 = .ok (.aload_n 0, 1) := by decide +kernel
theorem zd_MO_brace_96 : decode prog_8_method_28_code 96 = .ok (.getfield 61, 3) := by decide +kernel
theorem zd_MO_brace_99 : decode prog_8_method_28_code 99 = .ok (.iastore, 1) := by decide +kernel
theorem zd_MO_brace_100 : decode prog_8_method_28_code 100 = .ok (.aload_n 0, 1) := by decide +kernel
theorem zd_MO_brace_101 : decode prog_8_method_28_code 101 = .ok (.bipush (7), 2) := by decide +kernel
theorem zd_MO_brace_103 : decode prog_8_method_28_code 103 = .ok (.aload_n 0, 1) := by decide +kernel
theorem zd_MO_brace_104 : decode prog_8_method_28_code 104 = .ok (.getfield 24, 3) := by decide +kernel
theorem zd_MO_brace_107 : decode prog_8_method_28_code 107 = .ok (.aload_n 0, 1) := by decide +kernel
theorem zd_MO_brace_108 : decode prog_8_method_28_code 108 = .ok (.getfield 156, 3) := by decide +kernel
theorem zd_MO_brace_111 : decode prog_8_method_28_code 111 = .ok (.iaload, 1) := by decide +kernel
theorem zd_MO_brace_112 : decode prog_8_method_28_code 112 = .ok (.iload_n 1, 1) := by decide +kernel
theorem zd_MO_brace_113 : decode prog_8_method_28_code 113 = .ok (.invokevirtual 110, 3) := by decide +kernel
theorem zd_MO_brace_116 : decode prog_8_method_28_code 116 = .ok (.iload_n 1, 1) := by decide +kernel
theorem zd_MO_brace_117 : decode prog_8_method_28_code 117 = .ok (.iconst 1, 1) := by decide +kernel
theorem zd_MO_brace_118 : decode prog_8_method_28_code 118 = .ok (.iadd, 1) := by decide +kernel
theorem zd_MO_brace_119 : decode prog_8_method_28_code 119 = .ok (.ireturn, 1) := by decide +kernel
theorem zd_MO_textOf_0 : decode prog_8_method_14_code 0 = .ok (.iload_n 1, 1) := by decide +kernel
theorem zd_MO_textOf_1 : decode prog_8_method_14_code 1 = .ok (.istore_n 3, 1) := by decide +kernel
theorem zd_MO_textOf_2 : decode prog_8_method_14_code 2 = .ok (.iload_n 3, 1) := by decide +kernel
theorem zd_MO_textOf_3 : decode prog_8_method_14_code 3 = .ok (.iload_n 2, 1) := by decide +kernel
theorem zd_MO_textOf_4 : decode prog_8_method_14_code 4 = .ok (.if_icmp .ge (19), 3) := by decide +kernel
theorem zd_MO_textOf_7 : decode prog_8_method_14_code 7 = .ok (.aload_n 0, 1) := by decide +kernel
theorem zd_MO_textOf_8 : decode prog_8_method_14_code 8 = .ok (.aload_n 0, 1) := by decide +kernel
theorem zd_MO_textOf_9 : decode prog_8_method_14_code 9 = .ok (.getfield 8, 3) := by decide +kernel
theorem zd_MO_textOf_12 : decode prog_8_method_14_code 12 = .ok (.iload_n 3, 1) := by decide +kernel
theorem zd_MO_textOf_13 : decode prog_8_method_14_code 13 = .ok (.baload, 1) := by decide +kernel
theorem zd_MO_textOf_14 : decode prog_8_method_14_code 14 = .ok (.invokevirtual 72, 3) := by decide +kernel
theorem zd_MO_textOf_17 : decode prog_8_method_14_code 17 = .ok (.iinc 3 (1), 3) := by decide +kernel
theorem zd_MO_textOf_20 : decode prog_8_method_14_code 20 = .ok (.goto (-18), 3) := by decide +kernel
theorem zd_MO_textOf_23 : decode prog_8_method_14_code 23 = .ok (.aload_n 0, 1) := by decide +kernel
theorem zd_MO_textOf_24 : decode prog_8_method_14_code 24 = .ok (.invokevirtual 76, 3) := by decide +kernel
theorem zd_MO_textOf_27 : decode prog_8_method_14_code 27 = .ok (.ireturn, 1) := by decide +kernel
theorem zd_MO_pairs_0 : decode prog_8_method_27_code 0 = .ok (.iconst (-1), 1) := by decide +kernel
theorem zd_MO_pairs_1 : decode prog_8_method_27_code 1 = .ok (.istore_n 2, 1) := by decide +kernel
theorem zd_MO_pairs_2 : decode prog_8_method_27_code 2 = .ok (.iload_n 1, 1) := by decide +kernel
theorem zd_MO_pairs_3 : decode prog_8_method_27_code 3 = .ok (.iconst 1, 1) := by decide +kernel
theorem zd_MO_pairs_4 : decode prog_8_method_27_code 4 = .ok (.iadd, 1) := by decide +kernel
theorem zd_MO_pairs_5 : decode prog_8_method_27_code 5 = .ok (.istore_n 3, 1) := by decide +kernel
theorem zd_MO_pairs_6 : decode prog_8_method_27_code 6 = .ok (.aload_n 0, 1) := by decide +kernel
theorem zd_MO_pairs_7 : decode prog_8_method_27_code 7 = .ok (.iload_n 3, 1) := by decide +kernel
theorem zd_MO_pairs_8 : decode prog_8_method_27_code 8 = .ok (.invokevirtual 51, 3) := by decide +kernel
theorem zd_MO_pairs_11 : decode prog_8_method_27_code 11 = .ok (.bipush (62), 2) := by decide +kernel
theorem zd_MO_pairs_13 : decode prog_8_method_27_code 13 = .ok (.if_icmp .eq (91), 3) := by decide +kernel
theorem zd_MO_pairs_16 : decode prog_8_method_27_code 16 = .ok (.aload_n 0, 1) := by decide +kernel
theorem zd_MO_pairs_17 : decode prog_8_method_27_code 17 = .ok (.iload_n 3, 1) := by decide +kernel
theorem zd_MO_pairs_18 : decode prog_8_method_27_code 18 = .ok (.invokevirtual 51, 3) := by decide +kernel
theorem zd_MO_pairs_21 : decode prog_8_method_27_code 21 = .ok (.istore 4, 2) := by decide +kernel
theorem zd_MO_pairs_23 : decode prog_8_method_27_code 23 = .ok (.iload 4, 2) := by decide +kernel
theorem zd_MO_pairs_25 : decode prog_8_method_27_code 25 = .ok (.ifCond .ge (13), 3) := by decide +kernel
theorem zd_MO_pairs_28 : decode prog_8_method_27_code 28 = .ok (.aload_n 0, 1) := by decide +kernel
theorem zd_MO_pairs_29 : decode prog_8_method_27_code 29 = .ok (.iconst 2, 1) := by decide +kernel
theorem zd_MO_pairs_30 : decode prog_8_method_27_code 30 = .ok (.aload_n 0, 1) := by decide +kernel
theorem zd_MO_pairs_31 : decode prog_8_method_27_code 31 = .ok (.getfield 40, 3) := by decide +kernel
theorem zd_MO_pairs_34 : decode prog_8_method_27_code 34 = .ok (.invokevirtual 80, 3) := by decide +kernel
theorem zd_MO_pairs_37 : decode prog_8_method_27_code 37 = .ok (.ireturn, 1) := by decide +kernel
theorem zd_MO_pairs_38 : decode prog_8_method_27_code 38 = .ok (.iload 4, 2) := by decide +kernel
theorem zd_MO_pairs_40 : decode prog_8_method_27_code 40 = .ok (.invokestatic 127, 3) := by decide +kernel
theorem zd_MO_pairs_43 : decode prog_8_method_27_code 43 = .ok (.bipush (16), 2) := by decide +kernel
theorem zd_MO_pairs_45 : decode prog_8_method_27_code 45 = .ok (.if_icmp .ge (38), 3) := by decide +kernel
theorem zd_MO_pairs_48 : decode prog_8_method_27_code 48 = .ok (.iload_n 2, 1) := by decide +kernel
theorem zd_MO_pairs_49 : decode prog_8_method_27_code 49 = .ok (.ifCond .lt (17), 3) := by decide +kernel
theorem zd_MO_pairs_52 : decode prog_8_method_27_code 52 = .ok (.aload_n 0, 1) := by decide +kernel
theorem zd_MO_pairs_53 : decode prog_8_method_27_code 53 = .ok (.bipush (16), 2) := by decide +kernel
theorem zd_MO_pairs_55 : decode prog_8_method_27_code 55 = .ok (.iload_n 2, 1) := by decide +kernel
theorem zd_MO_pairs_56 : decode prog_8_method_27_code 56 = .ok (.imul, 1) := by decide +kernel
theorem zd_MO_pairs_57 : decode prog_8_method_27_code 57 = .ok (.iload 4, 2) := by decide +kernel
theorem zd_MO_pairs_59 : decode prog_8_method_27_code 59 = .ok (.invokestatic 127, 3) := by decide +kernel
theorem zd_MO_pairs_62 : decode prog_8_method_27_code 62 = .ok (.iadd, 1) := by decide +kernel
theorem zd_MO_pairs_63 : decode prog_8_method_27_code 63 = .ok (.invokevirtual 72, 3) := by decide +kernel
theorem zd_MO_pairs_66 : decode prog_8_method_27_code 66 = .ok (.iload_n 2, 1) := by decide +kernel
theorem zd_MO_pairs_67 : decode prog_8_method_27_code 67 = .ok (.ifCond .lt (7), 3) := by decide +kernel
theorem zd_MO_pairs_70 : decode prog_8_method_27_code 70 = .ok (.iconst (-1), 1) := by decide +kernel
theorem zd_MO_pairs_71 : decode prog_8_method_27_code 71 = .ok (.goto (8), 3) := by decide +kernel
theorem zd_MO_pairs_74 : decode prog_8_method_27_code 74 = .ok (.iload 4, 2) := by decide +kernel
theorem zd_MO_pairs_76 : decode prog_8_method_27_code 76 = .ok (.invokestatic 127, 3) := by decide +kernel
theorem zd_MO_pairs_79 : decode prog_8_method_27_code 79 = .ok (.istore_n 2, 1) := by decide +kernel
theorem zd_MO_pairs_80 : decode prog_8_method_27_code 80 = .ok (.goto (18), 3) := by decide +kernel
theorem zd_MO_pairs_83 : decode prog_8_method_27_code 83 = .ok (.iload 4, 2) := by decide +kernel
theorem zd_MO_pairs_85 : decode prog_8_method_27_code 85 = .ok (.invokestatic 44, 3) := by decide +kernel
theorem zd_MO_pairs_88 : decode prog_8_method_27_code 88 = .ok (.ifCond .ne (10), 3) := by decide +kernel
theorem zd_MO_pairs_91 : decode prog_8_method_27_code 91 = .ok (.aload_n 0, 1) := by decide +kernel
theorem zd_MO_pairs_92 : decode prog_8_method_27_code 92 = .ok (.iconst 3, 1) := by decide +kernel
theorem zd_MO_pairs_93 : decode prog_8_method_27_code 93 = .ok (.iload_n 3, 1) := by decide +kernel
theorem zd_MO_pairs_94 : decode prog_8_method_27_code 94 = .ok (.invokevirtual 80, 3) := by decide +kernel
theorem zd_MO_pairs_97 : decode prog_8_method_27_code 97 = .ok (.ireturn, 1) := by decide +kernel
theorem zd_MO_pairs_98 : decode prog_8_method_27_code 98 = .ok (.iinc 3 (1), 3) := by decide +kernel
theorem zd_MO_pairs_101 : decode prog_8_method_27_code 101 = .ok (.goto (-95), 3) := by decide +kernel
theorem zd_MO_pairs_104 : decode prog_8_method_27_code 104 = .ok (.iload_n 2, 1) := by decide +kernel
theorem zd_MO_pairs_105 : decode prog_8_method_27_code 105 = .ok (.ifCond .lt (11), 3) := by decide +kernel
theorem zd_MO_pairs_108 : decode prog_8_method_27_code 108 = .ok (.aload_n 0, 1) := by decide +kernel
theorem zd_MO_pairs_109 : decode prog_8_method_27_code 109 = .ok (.bipush (16), 2) := by decide +kernel
theorem zd_MO_pairs_111 : decode prog_8_method_27_code 111 = .ok (.iload_n 2, 1) := by decide +kernel
theorem zd_MO_pairs_112 : decode prog_8_method_27_code 112 = .ok (.imul, 1) := by decide +kernel
theorem zd_MO_pairs_113 : decode prog_8_method_27_code 113 = .ok (.invokevirtual 72, 3) := by decide +kernel
theorem zd_MO_pairs_116 : decode prog_8_method_27_code 116 = .ok (.aload_n 0, 1) := by decide +kernel
theorem zd_MO_pairs_117 : decode prog_8_method_27_code 117 = .ok (.iconst 5, 1) := by decide +kernel
theorem zd_MO_pairs_118 : decode prog_8_method_27_code 118 = .ok (.aload_n 0, 1) := by decide +kernel
theorem zd_MO_pairs_119 : decode prog_8_method_27_code 119 = .ok (.invokevirtual 76, 3) := by decide +kernel
theorem zd_MO_pairs_122 : decode prog_8_method_27_code 122 = .ok (.iload_n 1, 1) := by decide +kernel
theorem zd_MO_pairs_123 : decode prog_8_method_27_code 123 = .ok (.invokevirtual 110, 3) := by decide +kernel
theorem zd_MO_pairs_126 : decode prog_8_method_27_code 126 = .ok (.iload_n 3, 1) := by decide +kernel
theorem zd_MO_pairs_127 : decode prog_8_method_27_code 127 = .ok (.iconst 1, 1) := by decide +kernel
theorem zd_MO_pairs_128 : decode prog_8_method_27_code 128 = .ok (.iadd, 1) := by decide +kernel
theorem zd_MO_pairs_129 : decode prog_8_method_27_code 129 = .ok (.ireturn, 1) := by decide +kernel
theorem zd_MO_digitOf_0 : decode prog_8_method_8_code 0 = .ok (.iload_n 0, 1) := by decide +kernel
theorem zd_MO_digitOf_1 : decode prog_8_method_8_code 1 = .ok (.invokestatic 48, 3) := by decide +kernel
theorem zd_MO_digitOf_4 : decode prog_8_method_8_code 4 = .ok (.ifCond .eq (8), 3) := by decide +kernel
theorem zd_MO_digitOf_7 : decode prog_8_method_8_code 7 = .ok (.iload_n 0, 1) := by decide +kernel
theorem zd_MO_digitOf_8 : decode prog_8_method_8_code 8 = .ok (.bipush (48), 2) := by decide +kernel
theorem zd_MO_digitOf_10 : decode prog_8_method_8_code 10 = .ok (.isub, 1) := by decide +kernel
theorem zd_MO_digitOf_11 : decode prog_8_method_8_code 11 = .ok (.ireturn, 1) := by decide +kernel
theorem zd_MO_digitOf_12 : decode prog_8_method_8_code 12 = .ok (.iload_n 0, 1) := by decide +kernel
theorem zd_MO_digitOf_13 : decode prog_8_method_8_code 13 = .ok (.bipush (97), 2) := by decide +kernel
theorem zd_MO_digitOf_15 : decode prog_8_method_8_code 15 = .ok (.if_icmp .lt (17), 3) := by decide +kernel
theorem zd_MO_digitOf_18 : decode prog_8_method_8_code 18 = .ok (.iload_n 0, 1) := by decide +kernel
theorem zd_MO_digitOf_19 : decode prog_8_method_8_code 19 = .ok (.bipush (122), 2) := by decide +kernel
theorem zd_MO_digitOf_21 : decode prog_8_method_8_code 21 = .ok (.if_icmp .gt (11), 3) := by decide +kernel
theorem zd_MO_digitOf_24 : decode prog_8_method_8_code 24 = .ok (.iload_n 0, 1) := by decide +kernel
theorem zd_MO_digitOf_25 : decode prog_8_method_8_code 25 = .ok (.bipush (97), 2) := by decide +kernel
theorem zd_MO_digitOf_27 : decode prog_8_method_8_code 27 = .ok (.isub, 1) := by decide +kernel
theorem zd_MO_digitOf_28 : decode prog_8_method_8_code 28 = .ok (.bipush (10), 2) := by decide +kernel
theorem zd_MO_digitOf_30 : decode prog_8_method_8_code 30 = .ok (.iadd, 1) := by decide +kernel
theorem zd_MO_digitOf_31 : decode prog_8_method_8_code 31 = .ok (.ireturn, 1) := by decide +kernel
theorem zd_MO_digitOf_32 : decode prog_8_method_8_code 32 = .ok (.iload_n 0, 1) := by decide +kernel
theorem zd_MO_digitOf_33 : decode prog_8_method_8_code 33 = .ok (.bipush (65), 2) := by decide +kernel
theorem zd_MO_digitOf_35 : decode prog_8_method_8_code 35 = .ok (.if_icmp .lt (19), 3) := by decide +kernel
theorem zd_MO_digitOf_38 : decode prog_8_method_8_code 38 = .ok (.iload_n 0, 1) := by decide +kernel
theorem zd_MO_digitOf_39 : decode prog_8_method_8_code 39 = .ok (.bipush (90), 2) := by decide +kernel
theorem zd_MO_digitOf_41 : decode prog_8_method_8_code 41 = .ok (.if_icmp .gt (13), 3) := by decide +kernel
theorem zd_MO_digitOf_44 : decode prog_8_method_8_code 44 = .ok (.iload_n 0, 1) := by decide +kernel
theorem zd_MO_digitOf_45 : decode prog_8_method_8_code 45 = .ok (.bipush (65), 2) := by decide +kernel
theorem zd_MO_digitOf_47 : decode prog_8_method_8_code 47 = .ok (.isub, 1) := by decide +kernel
theorem zd_MO_digitOf_48 : decode prog_8_method_8_code 48 = .ok (.bipush (10), 2) := by decide +kernel
theorem zd_MO_digitOf_50 : decode prog_8_method_8_code 50 = .ok (.iadd, 1) := by decide +kernel
theorem zd_MO_digitOf_51 : decode prog_8_method_8_code 51 = .ok (.goto (5), 3) := by decide +kernel
theorem zd_MO_digitOf_54 : decode prog_8_method_8_code 54 = .ok (.bipush (99), 2) := by decide +kernel
theorem zd_MO_digitOf_56 : decode prog_8_method_8_code 56 = .ok (.ireturn, 1) := by decide +kernel
theorem zd_MO_isDigit_0 : decode prog_8_method_6_code 0 = .ok (.iload_n 0, 1) := by decide +kernel
theorem zd_MO_isDigit_1 : decode prog_8_method_6_code 1 = .ok (.bipush (48), 2) := by decide +kernel
theorem zd_MO_isDigit_3 : decode prog_8_method_6_code 3 = .ok (.if_icmp .lt (13), 3) := by decide +kernel
theorem zd_MO_isDigit_6 : decode prog_8_method_6_code 6 = .ok (.iload_n 0, 1) := by decide +kernel
theorem zd_MO_isDigit_7 : decode prog_8_method_6_code 7 = .ok (.bipush (57), 2) := by decide +kernel
theorem zd_MO_isDigit_9 : decode prog_8_method_6_code 9 = .ok (.if_icmp .gt (7), 3) := by decide +kernel
theorem zd_MO_isDigit_12 : decode prog_8_method_6_code 12 = .ok (.iconst 1, 1) := by decide +kernel
theorem zd_MO_isDigit_13 : decode prog_8_method_6_code 13 = .ok (.goto (4), 3) := by decide +kernel
theorem zd_MO_isDigit_16 : decode prog_8_method_6_code 16 = .ok (.iconst 0, 1) := by decide +kernel
theorem zd_MO_isDigit_17 : decode prog_8_method_6_code 17 = .ok (.ireturn, 1) := by decide +kernel
theorem zd_MO_behindRow_0 : decode prog_8_method_29_code 0 = .ok (.iload_n 1, 1) := by decide +kernel
theorem zd_MO_behindRow_1 : decode prog_8_method_29_code 1 = .ok (.istore_n 2, 1) := by decide +kernel
theorem zd_MO_behindRow_2 : decode prog_8_method_29_code 2 = .ok (.aload_n 0, 1) := by decide +kernel
theorem zd_MO_behindRow_3 : decode prog_8_method_29_code 3 = .ok (.iload_n 2, 1) := by decide +kernel
theorem zd_MO_behindRow_4 : decode prog_8_method_29_code 4 = .ok (.invokevirtual 51, 3) := by decide +kernel
theorem zd_MO_behindRow_7 : decode prog_8_method_29_code 7 = .ok (.invokestatic 159, 3) := by decide +kernel
theorem zd_MO_behindRow_10 : decode prog_8_method_29_code 10 = .ok (.ifCond .eq (9), 3) := by decide +kernel
theorem zd_MO_behindRow_13 : decode prog_8_method_29_code 13 = .ok (.iinc 2 (1), 3) := by decide +kernel
theorem zd_MO_behindRow_16 : decode prog_8_method_29_code 16 = .ok (.goto (-14), 3) := by decide +kernel
theorem zd_MO_behindRow_19 : decode prog_8_method_29_code 19 = .ok (.iload_n 2, 1) := by decide +kernel
theorem zd_MO_behindRow_20 : decode prog_8_method_29_code 20 = .ok (.ireturn, 1) := by decide +kernel
theorem zd_MO_isPlain_0 : decode prog_8_method_5_code 0 = .ok (.iload_n 0, 1) := by decide +kernel
theorem zd_MO_isPlain_1 : decode prog_8_method_5_code 1 = .ok (.ifCond .lt (74), 3) := by decide +kernel
theorem zd_MO_isPlain_4 : decode prog_8_method_5_code 4 = .ok (.iload_n 0, 1) := by decide +kernel
theorem zd_MO_isPlain_5 : decode prog_8_method_5_code 5 = .ok (.invokestatic 44, 3) := by decide +kernel
theorem zd_MO_isPlain_8 : decode prog_8_method_5_code 8 = .ok (.ifCond .ne (67), 3) := by decide +kernel
theorem zd_MO_isPlain_11 : decode prog_8_method_5_code 11 = .ok (.iload_n 0, 1) := by decide +kernel
theorem zd_MO_isPlain_12 : decode prog_8_method_5_code 12 = .ok (.bipush (40), 2) := by decide +kernel
theorem zd_MO_isPlain_14 : decode prog_8_method_5_code 14 = .ok (.if_icmp .eq (61), 3) := by decide +kernel
theorem zd_MO_isPlain_17 : decode prog_8_method_5_code 17 = .ok (.iload_n 0, 1) := by decide +kernel
theorem zd_MO_isPlain_18 : decode prog_8_method_5_code 18 = .ok (.bipush (41), 2) := by decide +kernel
theorem zd_MO_isPlain_20 : decode prog_8_method_5_code 20 = .ok (.if_icmp .eq (55), 3) := by decide +kernel
theorem zd_MO_isPlain_23 : decode prog_8_method_5_code 23 = .ok (.iload_n 0, 1) := by decide +kernel
theorem zd_MO_isPlain_24 : decode prog_8_method_5_code 24 = .ok (.bipush (60), 2) := by decide +kernel
theorem zd_MO_isPlain_26 : decode prog_8_method_5_code 26 = .ok (.if_icmp .eq (49), 3) := by decide +kernel
theorem zd_MO_isPlain_29 : decode prog_8_method_5_code 29 = .ok (.iload_n 0, 1) := by decide +kernel
theorem zd_MO_isPlain_30 : decode prog_8_method_5_code 30 = .ok (.bipush (62), 2) := by decide +kernel
theorem zd_MO_isPlain_32 : decode prog_8_method_5_code 32 = .ok (.if_icmp .eq (43), 3) := by decide +kernel
theorem zd_MO_isPlain_35 : decode prog_8_method_5_code 35 = .ok (.iload_n 0, 1) := by decide +kernel
theorem zd_MO_isPlain_36 : decode prog_8_method_5_code 36 = .ok (.bipush (91), 2) := by decide +kernel
theorem zd_MO_isPlain_38 : decode prog_8_method_5_code 38 = .ok (.if_icmp .eq (37), 3) := by decide +kernel
theorem zd_MO_isPlain_41 : decode prog_8_method_5_code 41 = .ok (.iload_n 0, 1) := by decide +kernel
theorem zd_MO_isPlain_42 : decode prog_8_method_5_code 42 = .ok (.bipush (93), 2) := by decide +kernel
theorem zd_MO_isPlain_44 : decode prog_8_method_5_code 44 = .ok (.if_icmp .eq (31), 3) := by decide +kernel
theorem zd_MO_isPlain_47 : decode prog_8_method_5_code 47 = .ok (.iload_n 0, 1) := by decide +kernel
theorem zd_MO_isPlain_48 : decode prog_8_method_5_code 48 = .ok (.bipush (123), 2) := by decide +kernel
theorem zd_MO_isPlain_50 : decode prog_8_method_5_code 50 = .ok (.if_icmp .eq (25), 3) := by decide +kernel
theorem zd_MO_isPlain_53 : decode prog_8_method_5_code 53 = .ok (.iload_n 0, 1) := by decide +kernel
theorem zd_MO_isPlain_54 : decode prog_8_method_5_code 54 = .ok (.bipush (125), 2) := by decide +kernel
theorem zd_MO_isPlain_56 : decode prog_8_method_5_code 56 = .ok (.if_icmp .eq (19), 3) := by decide +kernel
theorem zd_MO_isPlain_59 : decode prog_8_method_5_code 59 = .ok (.iload_n 0, 1) := by decide +kernel
theorem zd_MO_isPlain_60 : decode prog_8_method_5_code 60 = .ok (.bipush (47), 2) := by decide +kernel
theorem zd_MO_isPlain_62 : decode prog_8_method_5_code 62 = .ok (.if_icmp .eq (13), 3) := by decide +kernel
theorem zd_MO_isPlain_65 : decode prog_8_method_5_code 65 = .ok (.iload_n 0, 1) := by decide +kernel
theorem zd_MO_isPlain_66 : decode prog_8_method_5_code 66 = .ok (.bipush (37), 2) := by decide +kernel
theorem zd_MO_isPlain_68 : decode prog_8_method_5_code 68 = .ok (.if_icmp .eq (7), 3) := by decide +kernel
theorem zd_MO_isPlain_71 : decode prog_8_method_5_code 71 = .ok (.iconst 1, 1) := by decide +kernel
theorem zd_MO_isPlain_72 : decode prog_8_method_5_code 72 = .ok (.goto (4), 3) := by decide +kernel
theorem zd_MO_isPlain_75 : decode prog_8_method_5_code 75 = .ok (.iconst 0, 1) := by decide +kernel
theorem zd_MO_isPlain_76 : decode prog_8_method_5_code 76 = .ok (.ireturn, 1) := by decide +kernel
theorem zd_MO_row_0 : decode prog_8_method_15_code 0 = .ok (.iload_n 2, 1) := by decide +kernel
theorem zd_MO_row_1 : decode prog_8_method_15_code 1 = .ok (.iload_n 1, 1) := by decide +kernel
theorem zd_MO_row_2 : decode prog_8_method_15_code 2 = .ok (.isub, 1) := by decide +kernel
theorem zd_MO_row_3 : decode prog_8_method_15_code 3 = .ok (.bipush (127), 2) := by decide +kernel
theorem zd_MO_row_5 : decode prog_8_method_15_code 5 = .ok (.if_icmp .le (11), 3) := by decide +kernel
theorem zd_MO_row_8 : decode prog_8_method_15_code 8 = .ok (.aload_n 0, 1) := by decide +kernel
theorem zd_MO_row_9 : decode prog_8_method_15_code 9 = .ok (.bipush (6), 2) := by decide +kernel
theorem zd_MO_row_11 : decode prog_8_method_15_code 11 = .ok (.iload_n 1, 1) := by decide +kernel
theorem zd_MO_row_12 : decode prog_8_method_15_code 12 = .ok (.invokevirtual 80, 3) := by decide +kernel
theorem zd_MO_row_15 : decode prog_8_method_15_code 15 = .ok (.ireturn, 1) := by decide +kernel
theorem zd_MO_row_16 : decode prog_8_method_15_code 16 = .ok (.aload_n 0, 1) := by decide +kernel
theorem zd_MO_row_17 : decode prog_8_method_15_code 17 = .ok (.iload_n 1, 1) := by decide +kernel
theorem zd_MO_row_18 : decode prog_8_method_15_code 18 = .ok (.invokevirtual 51, 3) := by decide +kernel
theorem zd_MO_row_21 : decode prog_8_method_15_code 21 = .ok (.invokestatic 84, 3) := by decide +kernel
theorem zd_MO_row_24 : decode prog_8_method_15_code 24 = .ok (.ifCond .eq (9), 3) := by decide +kernel
theorem zd_MO_row_27 : decode prog_8_method_15_code 27 = .ok (.iload_n 1, 1) := by decide +kernel
theorem zd_MO_row_28 : decode prog_8_method_15_code 28 = .ok (.iconst 1, 1) := by decide +kernel
theorem zd_MO_row_29 : decode prog_8_method_15_code 29 = .ok (.iadd, 1) := by decide +kernel
theorem zd_MO_row_30 : decode prog_8_method_15_code 30 = .ok (.goto (4), 3) := by decide +kernel
theorem zd_MO_row_33 : decode prog_8_method_15_code 33 = .ok (.iload_n 1, 1) := by decide +kernel
theorem zd_MO_row_34 : decode prog_8_method_15_code 34 = .ok (.istore_n 3, 1) := by decide +kernel
theorem zd_MO_row_35 : decode prog_8_method_15_code 35 = .ok (.aload_n 0, 1) := by decide +kernel
theorem zd_MO_row_36 : decode prog_8_method_15_code 36 = .ok (.iload_n 3, 1) := by decide +kernel
theorem zd_MO_row_37 : decode prog_8_method_15_code 37 = .ok (.invokevirtual 87, 3) := by decide +kernel
theorem zd_MO_row_40 : decode prog_8_method_15_code 40 = .ok (.istore 4, 2) := by decide +kernel
theorem zd_MO_row_42 : decode prog_8_method_15_code 42 = .ok (.iload 4, 2) := by decide +kernel
theorem zd_MO_row_44 : decode prog_8_method_15_code 44 = .ok (.iload_n 3, 1) := by decide +kernel
theorem zd_MO_row_45 : decode prog_8_method_15_code 45 = .ok (.if_icmp .le (17), 3) := by decide +kernel
theorem zd_MO_row_48 : decode prog_8_method_15_code 48 = .ok (.iload 4, 2) := by decide +kernel
theorem zd_MO_row_50 : decode prog_8_method_15_code 50 = .ok (.iload_n 2, 1) := by decide +kernel
theorem zd_MO_row_51 : decode prog_8_method_15_code 51 = .ok (.if_icmp .ne (11), 3) := by decide +kernel
theorem zd_MO_row_54 : decode prog_8_method_15_code 54 = .ok (.aload_n 0, 1) := by decide +kernel
theorem zd_MO_row_55 : decode prog_8_method_15_code 55 = .ok (.iload_n 1, 1) := by decide +kernel
theorem zd_MO_row_56 : decode prog_8_method_15_code 56 = .ok (.iload_n 3, 1) := by decide +kernel
theorem zd_MO_row_57 : decode prog_8_method_15_code 57 = .ok (.iload_n 2, 1) := by decide +kernel
theorem zd_MO_row_58 : decode prog_8_method_15_code 58 = .ok (.invokevirtual 90, 3) := by decide +kernel
theorem zd_MO_row_61 : decode prog_8_method_15_code 61 = .ok (.ireturn, 1) := by decide +kernel
theorem zd_MO_row_62 : decode prog_8_method_15_code 62 = .ok (.aload_n 0, 1) := by decide +kernel
theorem zd_MO_row_63 : decode prog_8_method_15_code 63 = .ok (.iload_n 1, 1) := by decide +kernel
theorem zd_MO_row_64 : decode prog_8_method_15_code 64 = .ok (.iload_n 2, 1) := by decide +kernel
theorem zd_MO_row_65 : decode prog_8_method_15_code 65 = .ok (.invokevirtual 94, 3) := by decide +kernel
theorem zd_MO_row_68 : decode prog_8_method_15_code 68 = .ok (.ifCond .eq (10), 3) := by decide +kernel
theorem zd_MO_row_71 : decode prog_8_method_15_code 71 = .ok (.aload_n 0, 1) := by decide +kernel
theorem zd_MO_row_72 : decode prog_8_method_15_code 72 = .ok (.iload_n 1, 1) := by decide +kernel
theorem zd_MO_row_73 : decode prog_8_method_15_code 73 = .ok (.iload_n 2, 1) := by decide +kernel
theorem zd_MO_row_74 : decode prog_8_method_15_code 74 = .ok (.invokevirtual 98, 3) := by decide +kernel
theorem zd_MO_row_77 : decode prog_8_method_15_code 77 = .ok (.ireturn, 1) := by decide +kernel
theorem zd_MO_row_78 : decode prog_8_method_15_code 78 = .ok (.aload_n 0, 1) := by decide +kernel
theorem zd_MO_row_79 : decode prog_8_method_15_code 79 = .ok (.iload_n 3, 1) := by decide +kernel
theorem zd_MO_row_80 : decode prog_8_method_15_code 80 = .ok (.iload_n 2, 1) := by decide +kernel
theorem zd_MO_row_81 : decode prog_8_method_15_code 81 = .ok (.invokevirtual 101, 3) := by decide +kernel
theorem zd_MO_row_84 : decode prog_8_method_15_code 84 = .ok (.ifCond .eq (11), 3) := by decide +kernel
theorem zd_MO_row_87 : decode prog_8_method_15_code 87 = .ok (.aload_n 0, 1) := by decide +kernel
theorem zd_MO_row_88 : decode prog_8_method_15_code 88 = .ok (.iload_n 1, 1) := by decide +kernel
theorem zd_MO_row_89 : decode prog_8_method_15_code 89 = .ok (.iload_n 3, 1) := by decide +kernel
theorem zd_MO_row_90 : decode prog_8_method_15_code 90 = .ok (.iload_n 2, 1) := by decide +kernel
theorem zd_MO_row_91 : decode prog_8_method_15_code 91 = .ok (.invokevirtual 104, 3) := by decide +kernel
theorem zd_MO_row_94 : decode prog_8_method_15_code 94 = .ok (.ireturn, 1) := by decide +kernel
theorem zd_MO_row_95 : decode prog_8_method_15_code 95 = .ok (.aload_n 0, 1) := by decide +kernel
theorem zd_MO_row_96 : decode prog_8_method_15_code 96 = .ok (.iconst 3, 1) := by decide +kernel
theorem zd_MO_row_97 : decode prog_8_method_15_code 97 = .ok (.aload_n 0, 1) := by decide +kernel
theorem zd_MO_row_98 : decode prog_8_method_15_code 98 = .ok (.iload_n 1, 1) := by decide +kernel
theorem zd_MO_row_99 : decode prog_8_method_15_code 99 = .ok (.iload_n 2, 1) := by decide +kernel
theorem zd_MO_row_100 : decode prog_8_method_15_code 100 = .ok (.invokevirtual 107, 3) := by decide +kernel
theorem zd_MO_row_103 : decode prog_8_method_15_code 103 = .ok (.iload_n 1, 1) := by decide +kernel
theorem zd_MO_row_104 : decode prog_8_method_15_code 104 = .ok (.invokevirtual 110, 3) := by decide +kernel
theorem zd_MO_row_107 : decode prog_8_method_15_code 107 = .ok (.iload_n 2, 1) := by decide +kernel
theorem zd_MO_row_108 : decode prog_8_method_15_code 108 = .ok (.ireturn, 1) := by decide +kernel
theorem zd_MO_isSign_0 : decode prog_8_method_7_code 0 = .ok (.iload_n 0, 1) := by decide +kernel
theorem zd_MO_isSign_1 : decode prog_8_method_7_code 1 = .ok (.bipush (43), 2) := by decide +kernel
theorem zd_MO_isSign_3 : decode prog_8_method_7_code 3 = .ok (.if_icmp .eq (9), 3) := by decide +kernel
theorem zd_MO_isSign_6 : decode prog_8_method_7_code 6 = .ok (.iload_n 0, 1) := by decide +kernel
theorem zd_MO_isSign_7 : decode prog_8_method_7_code 7 = .ok (.bipush (45), 2) := by decide +kernel
theorem zd_MO_isSign_9 : decode prog_8_method_7_code 9 = .ok (.if_icmp .ne (7), 3) := by decide +kernel
theorem zd_MO_isSign_12 : decode prog_8_method_7_code 12 = .ok (.iconst 1, 1) := by decide +kernel
theorem zd_MO_isSign_13 : decode prog_8_method_7_code 13 = .ok (.goto (4), 3) := by decide +kernel
theorem zd_MO_isSign_16 : decode prog_8_method_7_code 16 = .ok (.iconst 0, 1) := by decide +kernel
theorem zd_MO_isSign_17 : decode prog_8_method_7_code 17 = .ok (.ireturn, 1) := by decide +kernel
theorem zd_MO_behindDigits_0 : decode prog_8_method_9_code 0 = .ok (.iload_n 1, 1) := by decide +kernel
theorem zd_MO_behindDigits_1 : decode prog_8_method_9_code 1 = .ok (.istore_n 2, 1) := by decide +kernel
theorem zd_MO_behindDigits_2 : decode prog_8_method_9_code 2 = .ok (.aload_n 0, 1) := by decide +kernel
theorem zd_MO_behindDigits_3 : decode prog_8_method_9_code 3 = .ok (.iload_n 2, 1) := by decide +kernel
theorem zd_MO_behindDigits_4 : decode prog_8_method_9_code 4 = .ok (.invokevirtual 51, 3) := by decide +kernel
theorem zd_MO_behindDigits_7 : decode prog_8_method_9_code 7 = .ok (.invokestatic 48, 3) := by decide +kernel
theorem zd_MO_behindDigits_10 : decode prog_8_method_9_code 10 = .ok (.ifCond .eq (9), 3) := by decide +kernel
theorem zd_MO_behindDigits_13 : decode prog_8_method_9_code 13 = .ok (.iinc 2 (1), 3) := by decide +kernel
theorem zd_MO_behindDigits_16 : decode prog_8_method_9_code 16 = .ok (.goto (-14), 3) := by decide +kernel
theorem zd_MO_behindDigits_19 : decode prog_8_method_9_code 19 = .ok (.iload_n 2, 1) := by decide +kernel
theorem zd_MO_behindDigits_20 : decode prog_8_method_9_code 20 = .ok (.ireturn, 1) := by decide +kernel
theorem zd_MO_wholeNumber_0 : decode prog_8_method_16_code 0 = .ok (.aload_n 0, 1) := by decide +kernel
theorem zd_MO_wholeNumber_1 : decode prog_8_method_16_code 1 = .ok (.iload_n 1, 1) := by decide +kernel
theorem zd_MO_wholeNumber_2 : decode prog_8_method_16_code 2 = .ok (.invokevirtual 51, 3) := by decide +kernel
theorem zd_MO_wholeNumber_5 : decode prog_8_method_16_code 5 = .ok (.bipush (45), 2) := by decide +kernel
theorem zd_MO_wholeNumber_7 : decode prog_8_method_16_code 7 = .ok (.if_icmp .ne (7), 3) := by decide +kernel
theorem zd_MO_wholeNumber_10 : decode prog_8_method_16_code 10 = .ok (.iconst 1, 1) := by decide +kernel
theorem zd_MO_wholeNumber_11 : decode prog_8_method_16_code 11 = .ok (.goto (4), 3) := by decide +kernel
theorem zd_MO_wholeNumber_14 : decode prog_8_method_16_code 14 = .ok (.iconst 0, 1) := by decide +kernel
theorem zd_MO_wholeNumber_15 : decode prog_8_method_16_code 15 = .ok (.istore 4, 2) := by decide +kernel
theorem zd_MO_wholeNumber_17 : decode prog_8_method_16_code 17 = .ok (.lconst 0, 1) := by decide +kernel
theorem zd_MO_wholeNumber_18 : decode prog_8_method_16_code 18 = .ok (.lstore 5, 2) := by decide +kernel
theorem zd_MO_wholeNumber_20 : decode prog_8_method_16_code 20 = .ok (.iload_n 2, 1) := by decide +kernel
theorem zd_MO_wholeNumber_21 : decode prog_8_method_16_code 21 = .ok (.istore 7, 2) := by decide +kernel
theorem zd_MO_wholeNumber_23 : decode prog_8_method_16_code 23 = .ok (.iload 7, 2) := by decide +kernel
theorem zd_MO_wholeNumber_25 : decode prog_8_method_16_code 25 = .ok (.iload_n 3, 1) := by decide +kernel
theorem zd_MO_wholeNumber_26 : decode prog_8_method_16_code 26 = .ok (.if_icmp .ge (38), 3) := by decide +kernel
theorem zd_MO_wholeNumber_29 : decode prog_8_method_16_code 29 = .ok (.lload 5, 2) := by decide +kernel
theorem zd_MO_wholeNumber_31 : decode prog_8_method_16_code 31 = .ok (.ldc2_w 114, 3) := by decide +kernel
theorem zd_MO_wholeNumber_34 : decode prog_8_method_16_code 34 = .ok (.lcmp, 1) := by decide +kernel
theorem zd_MO_wholeNumber_35 : decode prog_8_method_16_code 35 = .ok (.ifCond .ge (23), 3) := by decide +kernel
theorem zd_MO_wholeNumber_38 : decode prog_8_method_16_code 38 = .ok (.ldc2_w 116, 3) := by decide +kernel
theorem zd_MO_wholeNumber_41 : decode prog_8_method_16_code 41 = .ok (.lload 5, 2) := by decide +kernel
theorem zd_MO_wholeNumber_43 : decode prog_8_method_16_code 43 = .ok (.lmul, 1) := by decide +kernel
theorem zd_MO_wholeNumber_44 : decode prog_8_method_16_code 44 = .ok (.aload_n 0, 1) := by decide +kernel
theorem zd_MO_wholeNumber_45 : decode prog_8_method_16_code 45 = .ok (.iload 7, 2) := by decide +kernel
theorem zd_MO_wholeNumber_47 : decode prog_8_method_16_code 47 = .ok (.invokevirtual 51, 3) := by decide +kernel
theorem zd_MO_wholeNumber_50 : decode prog_8_method_16_code 50 = .ok (.i2l, 1) := by decide +kernel
theorem zd_MO_wholeNumber_51 : decode prog_8_method_16_code 51 = .ok (.ladd, 1) := by decide +kernel
theorem zd_MO_wholeNumber_52 : decode prog_8_method_16_code 52 = .ok (.ldc2_w 118, 3) := by decide +kernel
theorem zd_MO_wholeNumber_55 : decode prog_8_method_16_code 55 = .ok (.lsub, 1) := by decide +kernel
theorem zd_MO_wholeNumber_56 : decode prog_8_method_16_code 56 = .ok (.lstore 5, 2) := by decide +kernel
theorem zd_MO_wholeNumber_58 : decode prog_8_method_16_code 58 = .ok (.iinc 7 (1), 3) := by decide +kernel
theorem zd_MO_wholeNumber_61 : decode prog_8_method_16_code 61 = .ok (.goto (-38), 3) := by decide +kernel
theorem zd_MO_wholeNumber_64 : decode prog_8_method_16_code 64 = .ok (.iload 4, 2) := by decide +kernel
theorem zd_MO_wholeNumber_66 : decode prog_8_method_16_code 66 = .ok (.ifCond .eq (9), 3) := by decide +kernel
theorem zd_MO_wholeNumber_69 : decode prog_8_method_16_code 69 = .ok (.lload 5, 2) := by decide +kernel
theorem zd_MO_wholeNumber_71 : decode prog_8_method_16_code 71 = .ok (.lneg, 1) := by decide +kernel
theorem zd_MO_wholeNumber_72 : decode prog_8_method_16_code 72 = .ok (.goto (5), 3) := by decide +kernel
theorem zd_MO_wholeNumber_75 : decode prog_8_method_16_code 75 = .ok (.lload 5, 2) := by decide +kernel
theorem zd_MO_wholeNumber_77 : decode prog_8_method_16_code 77 = .ok (.lstore 5, 2) := by decide +kernel
theorem zd_MO_wholeNumber_79 : decode prog_8_method_16_code 79 = .ok (.lload 5, 2) := by decide +kernel
theorem zd_MO_wholeNumber_81 : decode prog_8_method_16_code 81 = .ok (.ldc2_w 120, 3) := by decide +kernel
theorem zd_MO_wholeNumber_84 : decode prog_8_method_16_code 84 = .ok (.lcmp, 1) := by decide +kernel
theorem zd_MO_wholeNumber_85 : decode prog_8_method_16_code 85 = .ok (.ifCond .gt (12), 3) := by decide +kernel
theorem zd_MO_wholeNumber_88 : decode prog_8_method_16_code 88 = .ok (.lload 5, 2) := by decide +kernel
theorem zd_MO_wholeNumber_90 : decode prog_8_method_16_code 90 = .ok (.ldc2_w 122, 3) := by decide +kernel
theorem zd_MO_wholeNumber_93 : decode prog_8_method_16_code 93 = .ok (.lcmp, 1) := by decide +kernel
theorem zd_MO_wholeNumber_94 : decode prog_8_method_16_code 94 = .ok (.ifCond .ge (10), 3) := by decide +kernel
theorem zd_MO_wholeNumber_97 : decode prog_8_method_16_code 97 = .ok (.aload_n 0, 1) := by decide +kernel
theorem zd_MO_wholeNumber_98 : decode prog_8_method_16_code 98 = .ok (.iconst 5, 1) := by decide +kernel
theorem zd_MO_wholeNumber_99 : decode prog_8_method_16_code 99 = .ok (.iload_n 1, 1) := by decide +kernel
theorem zd_MO_wholeNumber_100 : decode prog_8_method_16_code 100 = .ok (.invokevirtual 80, 3) := by decide +kernel
theorem zd_MO_wholeNumber_103 : decode prog_8_method_16_code 103 = .ok (.ireturn, 1) := by decide +kernel
theorem zd_MO_wholeNumber_104 : decode prog_8_method_16_code 104 = .ok (.aload_n 0, 1) := by decide +kernel
theorem zd_MO_wholeNumber_105 : decode prog_8_method_16_code 105 = .ok (.iconst 1, 1) := by decide +kernel
theorem zd_MO_wholeNumber_106 : decode prog_8_method_16_code 106 = .ok (.lload 5, 2) := by decide +kernel
theorem zd_MO_wholeNumber_108 : decode prog_8_method_16_code 108 = .ok (.l2i, 1) := by decide +kernel
theorem zd_MO_wholeNumber_109 : decode prog_8_method_16_code 109 = .ok (.iload_n 1, 1) := by decide +kernel
theorem zd_MO_wholeNumber_110 : decode prog_8_method_16_code 110 = .ok (.invokevirtual 110, 3) := by decide +kernel
theorem zd_MO_wholeNumber_113 : decode prog_8_method_16_code 113 = .ok (.iload_n 3, 1) := by decide +kernel
theorem zd_MO_wholeNumber_114 : decode prog_8_method_16_code 114 = .ok (.ireturn, 1) := by decide +kernel
theorem zd_MO_isBased_0 : decode prog_8_method_18_code 0 = .ok (.aload_n 0, 1) := by decide +kernel
theorem zd_MO_isBased_1 : decode prog_8_method_18_code 1 = .ok (.iload_n 1, 1) := by decide +kernel
theorem zd_MO_isBased_2 : decode prog_8_method_18_code 2 = .ok (.invokevirtual 87, 3) := by decide +kernel
theorem zd_MO_isBased_5 : decode prog_8_method_18_code 5 = .ok (.istore_n 3, 1) := by decide +kernel
theorem zd_MO_isBased_6 : decode prog_8_method_18_code 6 = .ok (.iload_n 3, 1) := by decide +kernel
theorem zd_MO_isBased_7 : decode prog_8_method_18_code 7 = .ok (.iload_n 1, 1) := by decide +kernel
theorem zd_MO_isBased_8 : decode prog_8_method_18_code 8 = .ok (.if_icmp .eq (27), 3) := by decide +kernel
theorem zd_MO_isBased_11 : decode prog_8_method_18_code 11 = .ok (.iload_n 3, 1) := by decide +kernel
theorem zd_MO_isBased_12 : decode prog_8_method_18_code 12 = .ok (.iload_n 1, 1) := by decide +kernel
theorem zd_MO_isBased_13 : decode prog_8_method_18_code 13 = .ok (.iconst 2, 1) := by decide +kernel
theorem zd_MO_isBased_14 : decode prog_8_method_18_code 14 = .ok (.iadd, 1) := by decide +kernel
theorem zd_MO_isBased_15 : decode prog_8_method_18_code 15 = .ok (.if_icmp .gt (20), 3) := by decide +kernel
theorem zd_MO_isBased_18 : decode prog_8_method_18_code 18 = .ok (.aload_n 0, 1) := by decide +kernel
theorem zd_MO_isBased_19 : decode prog_8_method_18_code 19 = .ok (.iload_n 3, 1) := by decide +kernel
theorem zd_MO_isBased_20 : decode prog_8_method_18_code 20 = .ok (.invokevirtual 51, 3) := by decide +kernel
theorem zd_MO_isBased_23 : decode prog_8_method_18_code 23 = .ok (.bipush (35), 2) := by decide +kernel
theorem zd_MO_isBased_25 : decode prog_8_method_18_code 25 = .ok (.if_icmp .ne (10), 3) := by decide +kernel
theorem zd_MO_isBased_28 : decode prog_8_method_18_code 28 = .ok (.iload_n 3, 1) := by decide +kernel
theorem zd_MO_isBased_29 : decode prog_8_method_18_code 29 = .ok (.iconst 1, 1) := by decide +kernel
theorem zd_MO_isBased_30 : decode prog_8_method_18_code 30 = .ok (.iadd, 1) := by decide +kernel
theorem zd_MO_isBased_31 : decode prog_8_method_18_code 31 = .ok (.iload_n 2, 1) := by decide +kernel
theorem zd_MO_isBased_32 : decode prog_8_method_18_code 32 = .ok (.if_icmp .ne (5), 3) := by decide +kernel
theorem zd_MO_isBased_35 : decode prog_8_method_18_code 35 = .ok (.iconst 0, 1) := by decide +kernel
theorem zd_MO_isBased_36 : decode prog_8_method_18_code 36 = .ok (.ireturn, 1) := by decide +kernel
theorem zd_MO_isBased_37 : decode prog_8_method_18_code 37 = .ok (.aload_n 0, 1) := by decide +kernel
theorem zd_MO_isBased_38 : decode prog_8_method_18_code 38 = .ok (.iload_n 1, 1) := by decide +kernel
theorem zd_MO_isBased_39 : decode prog_8_method_18_code 39 = .ok (.invokevirtual 124, 3) := by decide +kernel
theorem zd_MO_isBased_42 : decode prog_8_method_18_code 42 = .ok (.istore 4, 2) := by decide +kernel
theorem zd_MO_isBased_44 : decode prog_8_method_18_code 44 = .ok (.iload 4, 2) := by decide +kernel
theorem zd_MO_isBased_46 : decode prog_8_method_18_code 46 = .ok (.iconst 2, 1) := by decide +kernel
theorem zd_MO_isBased_47 : decode prog_8_method_18_code 47 = .ok (.if_icmp .lt (10), 3) := by decide +kernel
theorem zd_MO_isBased_50 : decode prog_8_method_18_code 50 = .ok (.iload 4, 2) := by decide +kernel
theorem zd_MO_isBased_52 : decode prog_8_method_18_code 52 = .ok (.bipush (36), 2) := by decide +kernel
theorem zd_MO_isBased_54 : decode prog_8_method_18_code 54 = .ok (.if_icmp .le (5), 3) := by decide +kernel
theorem zd_MO_isBased_57 : decode prog_8_method_18_code 57 = .ok (.iconst 0, 1) := by decide +kernel
theorem zd_MO_isBased_58 : decode prog_8_method_18_code 58 = .ok (.ireturn, 1) := by decide +kernel
theorem zd_MO_isBased_59 : decode prog_8_method_18_code 59 = .ok (.iconst 1, 1) := by decide +kernel
theorem zd_MO_isBased_60 : decode prog_8_method_18_code 60 = .ok (.istore 5, 2) := by decide +kernel
theorem zd_MO_isBased_62 : decode prog_8_method_18_code 62 = .ok (.iload_n 3, 1) := by decide +kernel
theorem zd_MO_isBased_63 : decode prog_8_method_18_code 63 = .ok (.iconst 1, 1) := by decide +kernel
theorem zd_MO_isBased_64 : decode prog_8_method_18_code 64 = .ok (.iadd, 1) := by decide +kernel
theorem zd_MO_isBased_65 : decode prog_8_method_18_code 65 = .ok (.istore 6, 2) := by decide +kernel
theorem zd_MO_isBased_67 : decode prog_8_method_18_code 67 = .ok (.iload 6, 2) := by decide +kernel
theorem zd_MO_isBased_69 : decode prog_8_method_18_code 69 = .ok (.iload_n 2, 1) := by decide +kernel
theorem zd_MO_isBased_70 : decode prog_8_method_18_code 70 = .ok (.if_icmp .ge (35), 3) := by decide +kernel
theorem zd_MO_isBased_73 : decode prog_8_method_18_code 73 = .ok (.iload 5, 2) := by decide +kernel
theorem zd_MO_isBased_75 : decode prog_8_method_18_code 75 = .ok (.ifCond .eq (21), 3) := by decide +kernel
theorem zd_MO_isBased_78 : decode prog_8_method_18_code 78 = .ok (.aload_n 0, 1) := by decide +kernel
theorem zd_MO_isBased_79 : decode prog_8_method_18_code 79 = .ok (.iload 6, 2) := by decide +kernel
theorem zd_MO_isBased_81 : decode prog_8_method_18_code 81 = .ok (.invokevirtual 51, 3) := by decide +kernel
theorem zd_MO_isBased_84 : decode prog_8_method_18_code 84 = .ok (.invokestatic 127, 3) := by decide +kernel
theorem zd_MO_isBased_87 : decode prog_8_method_18_code 87 = .ok (.iload 4, 2) := by decide +kernel
theorem zd_MO_isBased_89 : decode prog_8_method_18_code 89 = .ok (.if_icmp .ge (7), 3) := by decide +kernel
theorem zd_MO_isBased_92 : decode prog_8_method_18_code 92 = .ok (.iconst 1, 1) := by decide +kernel
theorem zd_MO_isBased_93 : decode prog_8_method_18_code 93 = .ok (.goto (4), 3) := by decide +kernel
theorem zd_MO_isBased_96 : decode prog_8_method_18_code 96 = .ok (.iconst 0, 1) := by decide +kernel
theorem zd_MO_isBased_97 : decode prog_8_method_18_code 97 = .ok (.istore 5, 2) := by decide +kernel
theorem zd_MO_isBased_99 : decode prog_8_method_18_code 99 = .ok (.iinc 6 (1), 3) := by decide +kernel
theorem zd_MO_isBased_102 : decode prog_8_method_18_code 102 = .ok (.goto (-35), 3) := by decide +kernel
theorem zd_MO_isBased_105 : decode prog_8_method_18_code 105 = .ok (.iload 5, 2) := by decide +kernel
theorem zd_MO_isBased_107 : decode prog_8_method_18_code 107 = .ok (.ireturn, 1) := by decide +kernel
theorem zd_MO_baseOf_0 : decode prog_8_method_17_code 0 = .ok (.iconst 0, 1) := by decide +kernel
theorem zd_MO_baseOf_1 : decode prog_8_method_17_code 1 = .ok (.istore_n 2, 1) := by decide +kernel
theorem zd_MO_baseOf_2 : decode prog_8_method_17_code 2 = .ok (.iload_n 1, 1) := by decide +kernel
theorem zd_MO_baseOf_3 : decode prog_8_method_17_code 3 = .ok (.istore_n 3, 1) := by decide +kernel
theorem zd_MO_baseOf_4 : decode prog_8_method_17_code 4 = .ok (.iload_n 3, 1) := by decide +kernel
theorem zd_MO_baseOf_5 : decode prog_8_method_17_code 5 = .ok (.aload_n 0, 1) := by decide +kernel
theorem zd_MO_baseOf_6 : decode prog_8_method_17_code 6 = .ok (.iload_n 1, 1) := by decide +kernel
theorem zd_MO_baseOf_7 : decode prog_8_method_17_code 7 = .ok (.invokevirtual 87, 3) := by decide +kernel
theorem zd_MO_baseOf_10 : decode prog_8_method_17_code 10 = .ok (.if_icmp .ge (23), 3) := by decide +kernel
theorem zd_MO_baseOf_13 : decode prog_8_method_17_code 13 = .ok (.bipush (10), 2) := by decide +kernel
theorem zd_MO_baseOf_15 : decode prog_8_method_17_code 15 = .ok (.iload_n 2, 1) := by decide +kernel
theorem zd_MO_baseOf_16 : decode prog_8_method_17_code 16 = .ok (.imul, 1) := by decide +kernel
theorem zd_MO_baseOf_17 : decode prog_8_method_17_code 17 = .ok (.aload_n 0, 1) := by decide +kernel
theorem zd_MO_baseOf_18 : decode prog_8_method_17_code 18 = .ok (.iload_n 3, 1) := by decide +kernel
theorem zd_MO_baseOf_19 : decode prog_8_method_17_code 19 = .ok (.invokevirtual 51, 3) := by decide +kernel
theorem zd_MO_baseOf_22 : decode prog_8_method_17_code 22 = .ok (.iadd, 1) := by decide +kernel
theorem zd_MO_baseOf_23 : decode prog_8_method_17_code 23 = .ok (.bipush (48), 2) := by decide +kernel
theorem zd_MO_baseOf_25 : decode prog_8_method_17_code 25 = .ok (.isub, 1) := by decide +kernel
theorem zd_MO_baseOf_26 : decode prog_8_method_17_code 26 = .ok (.istore_n 2, 1) := by decide +kernel
theorem zd_MO_baseOf_27 : decode prog_8_method_17_code 27 = .ok (.iinc 3 (1), 3) := by decide +kernel
theorem zd_MO_baseOf_30 : decode prog_8_method_17_code 30 = .ok (.goto (-26), 3) := by decide +kernel
theorem zd_MO_baseOf_33 : decode prog_8_method_17_code 33 = .ok (.iload_n 2, 1) := by decide +kernel
theorem zd_MO_baseOf_34 : decode prog_8_method_17_code 34 = .ok (.ireturn, 1) := by decide +kernel
theorem zd_MO_based_0 : decode prog_8_method_19_code 0 = .ok (.aload_n 0, 1) := by decide +kernel
theorem zd_MO_based_1 : decode prog_8_method_19_code 1 = .ok (.iload_n 1, 1) := by decide +kernel
theorem zd_MO_based_2 : decode prog_8_method_19_code 2 = .ok (.invokevirtual 124, 3) := by decide +kernel
theorem zd_MO_based_5 : decode prog_8_method_19_code 5 = .ok (.istore_n 3, 1) := by decide +kernel
theorem zd_MO_based_6 : decode prog_8_method_19_code 6 = .ok (.lconst 0, 1) := by decide +kernel
theorem zd_MO_based_7 : decode prog_8_method_19_code 7 = .ok (.lstore 4, 2) := by decide +kernel
theorem zd_MO_based_9 : decode prog_8_method_19_code 9 = .ok (.aload_n 0, 1) := by decide +kernel
theorem zd_MO_based_10 : decode prog_8_method_19_code 10 = .ok (.iload_n 1, 1) := by decide +kernel
theorem zd_MO_based_11 : decode prog_8_method_19_code 11 = .ok (.invokevirtual 87, 3) := by decide +kernel
theorem zd_MO_based_14 : decode prog_8_method_19_code 14 = .ok (.iconst 1, 1) := by decide +kernel
theorem zd_MO_based_15 : decode prog_8_method_19_code 15 = .ok (.iadd, 1) := by decide +kernel
theorem zd_MO_based_16 : decode prog_8_method_19_code 16 = .ok (.istore 6, 2) := by decide +kernel
theorem zd_MO_based_18 : decode prog_8_method_19_code 18 = .ok (.iload 6, 2) := by decide +kernel
theorem zd_MO_based_20 : decode prog_8_method_19_code 20 = .ok (.iload_n 2, 1) := by decide +kernel
theorem zd_MO_based_21 : decode prog_8_method_19_code 21 = .ok (.if_icmp .ge (43), 3) := by decide +kernel
theorem zd_MO_based_24 : decode prog_8_method_19_code 24 = .ok (.iload_n 3, 1) := by decide +kernel
theorem zd_MO_based_25 : decode prog_8_method_19_code 25 = .ok (.i2l, 1) := by decide +kernel
theorem zd_MO_based_26 : decode prog_8_method_19_code 26 = .ok (.lload 4, 2) := by decide +kernel
theorem zd_MO_based_28 : decode prog_8_method_19_code 28 = .ok (.lmul, 1) := by decide +kernel
theorem zd_MO_based_29 : decode prog_8_method_19_code 29 = .ok (.aload_n 0, 1) := by decide +kernel
theorem zd_MO_based_30 : decode prog_8_method_19_code 30 = .ok (.iload 6, 2) := by decide +kernel
theorem zd_MO_based_32 : decode prog_8_method_19_code 32 = .ok (.invokevirtual 51, 3) := by decide +kernel
theorem zd_MO_based_35 : decode prog_8_method_19_code 35 = .ok (.invokestatic 127, 3) := by decide +kernel
theorem zd_MO_based_38 : decode prog_8_method_19_code 38 = .ok (.i2l, 1) := by decide +kernel
theorem zd_MO_based_39 : decode prog_8_method_19_code 39 = .ok (.ladd, 1) := by decide +kernel
theorem zd_MO_based_40 : decode prog_8_method_19_code 40 = .ok (.lstore 4, 2) := by decide +kernel
theorem zd_MO_based_42 : decode prog_8_method_19_code 42 = .ok (.lload 4, 2) := by decide +kernel
theorem zd_MO_based_44 : decode prog_8_method_19_code 44 = .ok (.ldc2_w 130, 3) := by decide +kernel
theorem zd_MO_based_47 : decode prog_8_method_19_code 47 = .ok (.lcmp, 1) := by decide +kernel
theorem zd_MO_based_48 : decode prog_8_method_19_code 48 = .ok (.ifCond .le (10), 3) := by decide +kernel
theorem zd_MO_based_51 : decode prog_8_method_19_code 51 = .ok (.aload_n 0, 1) := by decide +kernel
theorem zd_MO_based_52 : decode prog_8_method_19_code 52 = .ok (.iconst 5, 1) := by decide +kernel
theorem zd_MO_based_53 : decode prog_8_method_19_code 53 = .ok (.iload_n 1, 1) := by decide +kernel
theorem zd_MO_based_54 : decode prog_8_method_19_code 54 = .ok (.invokevirtual 80, 3) := by decide +kernel
theorem zd_MO_based_57 : decode prog_8_method_19_code 57 = .ok (.ireturn, 1) := by decide +kernel
theorem zd_MO_based_58 : decode prog_8_method_19_code 58 = .ok (.iinc 6 (1), 3) := by decide +kernel
theorem zd_MO_based_61 : decode prog_8_method_19_code 61 = .ok (.goto (-43), 3) := by decide +kernel
theorem zd_MO_based_64 : decode prog_8_method_19_code 64 = .ok (.aload_n 0, 1) := by decide +kernel
theorem zd_MO_based_65 : decode prog_8_method_19_code 65 = .ok (.iconst 1, 1) := by decide +kernel
theorem zd_MO_based_66 : decode prog_8_method_19_code 66 = .ok (.lload 4, 2) := by decide +kernel
theorem zd_MO_based_68 : decode prog_8_method_19_code 68 = .ok (.l2i, 1) := by decide +kernel
theorem zd_MO_based_69 : decode prog_8_method_19_code 69 = .ok (.iload_n 1, 1) := by decide +kernel
theorem zd_MO_based_70 : decode prog_8_method_19_code 70 = .ok (.invokevirtual 110, 3) := by decide +kernel
theorem zd_MO_based_73 : decode prog_8_method_19_code 73 = .ok (.iload_n 2, 1) := by decide +kernel
theorem zd_MO_based_74 : decode prog_8_method_19_code 74 = .ok (.ireturn, 1) := by decide +kernel
theorem zd_MO_isReal_0 : decode prog_8_method_20_code 0 = .ok (.aload_n 0, 1) := by decide +kernel
theorem zd_MO_isReal_1 : decode prog_8_method_20_code 1 = .ok (.iload_n 1, 1) := by decide +kernel
theorem zd_MO_isReal_2 : decode prog_8_method_20_code 2 = .ok (.invokevirtual 87, 3) := by decide +kernel
theorem zd_MO_isReal_5 : decode prog_8_method_20_code 5 = .ok (.istore_n 3, 1) := by decide +kernel
theorem zd_MO_isReal_6 : decode prog_8_method_20_code 6 = .ok (.aload_n 0, 1) := by decide +kernel
theorem zd_MO_isReal_7 : decode prog_8_method_20_code 7 = .ok (.iload_n 3, 1) := by decide +kernel
theorem zd_MO_isReal_8 : decode prog_8_method_20_code 8 = .ok (.invokevirtual 51, 3) := by decide +kernel
theorem zd_MO_isReal_11 : decode prog_8_method_20_code 11 = .ok (.bipush (46), 2) := by decide +kernel
theorem zd_MO_isReal_13 : decode prog_8_method_20_code 13 = .ok (.if_icmp .ne (7), 3) := by decide +kernel
theorem zd_MO_isReal_16 : decode prog_8_method_20_code 16 = .ok (.iconst 1, 1) := by decide +kernel
theorem zd_MO_isReal_17 : decode prog_8_method_20_code 17 = .ok (.goto (4), 3) := by decide +kernel
theorem zd_MO_isReal_20 : decode prog_8_method_20_code 20 = .ok (.iconst 0, 1) := by decide +kernel
theorem zd_MO_isReal_21 : decode prog_8_method_20_code 21 = .ok (.istore 4, 2) := by decide +kernel
theorem zd_MO_isReal_23 : decode prog_8_method_20_code 23 = .ok (.iload 4, 2) := by decide +kernel
theorem zd_MO_isReal_25 : decode prog_8_method_20_code 25 = .ok (.ifCond .eq (13), 3) := by decide +kernel
theorem zd_MO_isReal_28 : decode prog_8_method_20_code 28 = .ok (.aload_n 0, 1) := by decide +kernel
theorem zd_MO_isReal_29 : decode prog_8_method_20_code 29 = .ok (.iload_n 3, 1) := by decide +kernel
theorem zd_MO_isReal_30 : decode prog_8_method_20_code 30 = .ok (.iconst 1, 1) := by decide +kernel
theorem zd_MO_isReal_31 : decode prog_8_method_20_code 31 = .ok (.iadd, 1) := by decide +kernel
theorem zd_MO_isReal_32 : decode prog_8_method_20_code 32 = .ok (.invokevirtual 87, 3) := by decide +kernel
theorem zd_MO_isReal_35 : decode prog_8_method_20_code 35 = .ok (.goto (4), 3) := by decide +kernel
theorem zd_MO_isReal_38 : decode prog_8_method_20_code 38 = .ok (.iload_n 3, 1) := by decide +kernel
theorem zd_MO_isReal_39 : decode prog_8_method_20_code 39 = .ok (.istore 5, 2) := by decide +kernel
theorem zd_MO_isReal_41 : decode prog_8_method_20_code 41 = .ok (.iload 5, 2) := by decide +kernel
theorem zd_MO_isReal_43 : decode prog_8_method_20_code 43 = .ok (.iload_n 1, 1) := by decide +kernel
theorem zd_MO_isReal_44 : decode prog_8_method_20_code 44 = .ok (.isub, 1) := by decide +kernel
theorem zd_MO_isReal_45 : decode prog_8_method_20_code 45 = .ok (.iload 4, 2) := by decide +kernel
theorem zd_MO_isReal_47 : decode prog_8_method_20_code 47 = .ok (.ifCond .eq (7), 3) := by decide +kernel
theorem zd_MO_isReal_50 : decode prog_8_method_20_code 50 = .ok (.iconst 1, 1) := by decide +kernel
theorem zd_MO_isReal_51 : decode prog_8_method_20_code 51 = .ok (.goto (4), 3) := by decide +kernel
theorem zd_MO_isReal_54 : decode prog_8_method_20_code 54 = .ok (.iconst 0, 1) := by decide +kernel
theorem zd_MO_isReal_55 : decode prog_8_method_20_code 55 = .ok (.if_icmp .ne (5), 3) := by decide +kernel
theorem zd_MO_isReal_58 : decode prog_8_method_20_code 58 = .ok (.iconst 0, 1) := by decide +kernel
theorem zd_MO_isReal_59 : decode prog_8_method_20_code 59 = .ok (.ireturn, 1) := by decide +kernel
theorem zd_MO_isReal_60 : decode prog_8_method_20_code 60 = .ok (.iload 5, 2) := by decide +kernel
theorem zd_MO_isReal_62 : decode prog_8_method_20_code 62 = .ok (.iload_n 2, 1) := by decide +kernel
theorem zd_MO_isReal_63 : decode prog_8_method_20_code 63 = .ok (.if_icmp .ne (6), 3) := by decide +kernel
theorem zd_MO_isReal_66 : decode prog_8_method_20_code 66 = .ok (.iload 4, 2) := by decide +kernel
theorem zd_MO_isReal_68 : decode prog_8_method_20_code 68 = .ok (.ireturn, 1) := by decide +kernel
theorem zd_MO_isReal_69 : decode prog_8_method_20_code 69 = .ok (.aload_n 0, 1) := by decide +kernel
theorem zd_MO_isReal_70 : decode prog_8_method_20_code 70 = .ok (.iload 5, 2) := by decide +kernel
theorem zd_MO_isReal_72 : decode prog_8_method_20_code 72 = .ok (.invokevirtual 51, 3) := by decide +kernel
theorem zd_MO_isReal_75 : decode prog_8_method_20_code 75 = .ok (.istore 6, 2) := by decide +kernel
theorem zd_MO_isReal_77 : decode prog_8_method_20_code 77 = .ok (.iload 6, 2) := by decide +kernel
theorem zd_MO_isReal_79 : decode prog_8_method_20_code 79 = .ok (.bipush (101), 2) := by decide +kernel
theorem zd_MO_isReal_81 : decode prog_8_method_20_code 81 = .ok (.if_icmp .eq (12), 3) := by decide +kernel
theorem zd_MO_isReal_84 : decode prog_8_method_20_code 84 = .ok (.iload 6, 2) := by decide +kernel
theorem zd_MO_isReal_86 : decode prog_8_method_20_code 86 = .ok (.bipush (69), 2) := by decide +kernel
theorem zd_MO_isReal_88 : decode prog_8_method_20_code 88 = .ok (.if_icmp .eq (5), 3) := by decide +kernel
theorem zd_MO_isReal_91 : decode prog_8_method_20_code 91 = .ok (.iconst 0, 1) := by decide +kernel
theorem zd_MO_isReal_92 : decode prog_8_method_20_code 92 = .ok (.ireturn, 1) := by decide +kernel
theorem zd_MO_isReal_93 : decode prog_8_method_20_code 93 = .ok (.aload_n 0, 1) := by decide +kernel
theorem zd_MO_isReal_94 : decode prog_8_method_20_code 94 = .ok (.iload 5, 2) := by decide +kernel
theorem zd_MO_isReal_96 : decode prog_8_method_20_code 96 = .ok (.iconst 1, 1) := by decide +kernel
theorem zd_MO_isReal_97 : decode prog_8_method_20_code 97 = .ok (.iadd, 1) := by decide +kernel
theorem zd_MO_isReal_98 : decode prog_8_method_20_code 98 = .ok (.invokevirtual 51, 3) := by decide +kernel
theorem zd_MO_isReal_101 : decode prog_8_method_20_code 101 = .ok (.invokestatic 84, 3) := by decide +kernel
theorem zd_MO_isReal_104 : decode prog_8_method_20_code 104 = .ok (.ifCond .eq (10), 3) := by decide +kernel
theorem zd_MO_isReal_107 : decode prog_8_method_20_code 107 = .ok (.iload 5, 2) := by decide +kernel
theorem zd_MO_isReal_109 : decode prog_8_method_20_code 109 = .ok (.iconst 2, 1) := by decide +kernel
theorem zd_MO_isReal_110 : decode prog_8_method_20_code 110 = .ok (.iadd, 1) := by decide +kernel
theorem zd_MO_isReal_111 : decode prog_8_method_20_code 111 = .ok (.goto (7), 3) := by decide +kernel
theorem zd_MO_isReal_114 : decode prog_8_method_20_code 114 = .ok (.iload 5, 2) := by decide +kernel
theorem zd_MO_isReal_116 : decode prog_8_method_20_code 116 = .ok (.iconst 1, 1) := by decide +kernel
theorem zd_MO_isReal_117 : decode prog_8_method_20_code 117 = .ok (.iadd, 1) := by decide +kernel
theorem zd_MO_isReal_118 : decode prog_8_method_20_code 118 = .ok (.istore 7, 2) := by decide +kernel
theorem zd_MO_isReal_120 : decode prog_8_method_20_code 120 = .ok (.aload_n 0, 1) := by decide +kernel
theorem zd_MO_isReal_121 : decode prog_8_method_20_code 121 = .ok (.iload 7, 2) := by decide +kernel
theorem zd_MO_isReal_123 : decode prog_8_method_20_code 123 = .ok (.invokevirtual 87, 3) := by decide +kernel
theorem zd_MO_isReal_126 : decode prog_8_method_20_code 126 = .ok (.iload_n 2, 1) := by decide +kernel
theorem zd_MO_isReal_127 : decode prog_8_method_20_code 127 = .ok (.if_icmp .ne (13), 3) := by decide +kernel
theorem zd_MO_isReal_130 : decode prog_8_method_20_code 130 = .ok (.iload 7, 2) := by decide +kernel
theorem zd_MO_isReal_132 : decode prog_8_method_20_code 132 = .ok (.iload_n 2, 1) := by decide +kernel
theorem zd_MO_isReal_133 : decode prog_8_method_20_code 133 = .ok (.if_icmp .ge (7), 3) := by decide +kernel
theorem zd_MO_isReal_136 : decode prog_8_method_20_code 136 = .ok (.iconst 1, 1) := by decide +kernel
theorem zd_MO_isReal_137 : decode prog_8_method_20_code 137 = .ok (.goto (4), 3) := by decide +kernel
theorem zd_MO_isReal_140 : decode prog_8_method_20_code 140 = .ok (.iconst 0, 1) := by decide +kernel
theorem zd_MO_isReal_141 : decode prog_8_method_20_code 141 = .ok (.ireturn, 1) := by decide +kernel
theorem zd_MO_real_0 : decode prog_8_method_21_code 0 = .ok (.aload_n 0, 1) := by decide +kernel
theorem zd_MO_real_1 : decode prog_8_method_21_code 1 = .ok (.iload_n 2, 1) := by decide +kernel
theorem zd_MO_real_2 : decode prog_8_method_21_code 2 = .ok (.iload_n 3, 1) := by decide +kernel
theorem zd_MO_real_3 : decode prog_8_method_21_code 3 = .ok (.invokevirtual 132, 3) := by decide +kernel
theorem zd_MO_real_6 : decode prog_8_method_21_code 6 = .ok (.aload_n 0, 1) := by decide +kernel
theorem zd_MO_real_7 : decode prog_8_method_21_code 7 = .ok (.iload_n 1, 1) := by decide +kernel
theorem zd_MO_real_8 : decode prog_8_method_21_code 8 = .ok (.invokevirtual 51, 3) := by decide +kernel
theorem zd_MO_real_11 : decode prog_8_method_21_code 11 = .ok (.bipush (45), 2) := by decide +kernel
theorem zd_MO_real_13 : decode prog_8_method_21_code 13 = .ok (.if_icmp .ne (7), 3) := by decide +kernel
theorem zd_MO_real_16 : decode prog_8_method_21_code 16 = .ok (.iconst 1, 1) := by decide +kernel
theorem zd_MO_real_17 : decode prog_8_method_21_code 17 = .ok (.goto (4), 3) := by decide +kernel
theorem zd_MO_real_20 : decode prog_8_method_21_code 20 = .ok (.iconst 0, 1) := by decide +kernel
theorem zd_MO_real_21 : decode prog_8_method_21_code 21 = .ok (.istore 4, 2) := by decide +kernel
theorem zd_MO_real_23 : decode prog_8_method_21_code 23 = .ok (.iconst 0, 1) := by decide +kernel
theorem zd_MO_real_24 : decode prog_8_method_21_code 24 = .ok (.istore 5, 2) := by decide +kernel
theorem zd_MO_real_26 : decode prog_8_method_21_code 26 = .ok (.iload 5, 2) := by decide +kernel
theorem zd_MO_real_28 : decode prog_8_method_21_code 28 = .ok (.aload_n 0, 1) := by decide +kernel
theorem zd_MO_real_29 : decode prog_8_method_21_code 29 = .ok (.getfield 136, 3) := by decide +kernel
theorem zd_MO_real_32 : decode prog_8_method_21_code 32 = .ok (.if_icmp .ge (19), 3) := by decide +kernel
theorem zd_MO_real_35 : decode prog_8_method_21_code 35 = .ok (.aload_n 0, 1) := by decide +kernel
theorem zd_MO_real_36 : decode prog_8_method_21_code 36 = .ok (.getfield 34, 3) := by decide +kernel
theorem zd_MO_real_39 : decode prog_8_method_21_code 39 = .ok (.iload 5, 2) := by decide +kernel
theorem zd_MO_real_41 : decode prog_8_method_21_code 41 = .ok (.baload, 1) := by decide +kernel
theorem zd_MO_real_42 : decode prog_8_method_21_code 42 = .ok (.ifCond .ne (9), 3) := by decide +kernel
theorem zd_MO_real_45 : decode prog_8_method_21_code 45 = .ok (.iinc 5 (1), 3) := by decide +kernel
theorem zd_MO_real_48 : decode prog_8_method_21_code 48 = .ok (.goto (-22), 3) := by decide +kernel
theorem zd_MO_real_51 : decode prog_8_method_21_code 51 = .ok (.iload 5, 2) := by decide +kernel
theorem zd_MO_real_53 : decode prog_8_method_21_code 53 = .ok (.aload_n 0, 1) := by decide +kernel
theorem zd_MO_real_54 : decode prog_8_method_21_code 54 = .ok (.getfield 136, 3) := by decide +kernel
theorem zd_MO_real_57 : decode prog_8_method_21_code 57 = .ok (.if_icmp .eq (15), 3) := by decide +kernel
theorem zd_MO_real_60 : decode prog_8_method_21_code 60 = .ok (.aload_n 0, 1) := by decide +kernel
theorem zd_MO_real_61 : decode prog_8_method_21_code 61 = .ok (.getfield 139, 3) := by decide +kernel
theorem zd_MO_real_64 : decode prog_8_method_21_code 64 = .ok (.iload 5, 2) := by decide +kernel
theorem zd_MO_real_66 : decode prog_8_method_21_code 66 = .ok (.isub, 1) := by decide +kernel
theorem zd_MO_real_67 : decode prog_8_method_21_code 67 = .ok (.bipush (-6), 2) := by decide +kernel
theorem zd_MO_real_69 : decode prog_8_method_21_code 69 = .ok (.if_icmp .ge (12), 3) := by decide +kernel
theorem zd_MO_real_72 : decode prog_8_method_21_code 72 = .ok (.aload_n 0, 1) := by decide +kernel
theorem zd_MO_real_73 : decode prog_8_method_21_code 73 = .ok (.iconst 2, 1) := by decide +kernel
theorem zd_MO_real_74 : decode prog_8_method_21_code 74 = .ok (.iconst 0, 1) := by decide +kernel
theorem zd_MO_real_75 : decode prog_8_method_21_code 75 = .ok (.iload_n 1, 1) := by decide +kernel
theorem zd_MO_real_76 : decode prog_8_method_21_code 76 = .ok (.invokevirtual 110, 3) := by decide +kernel
theorem zd_MO_real_79 : decode prog_8_method_21_code 79 = .ok (.iload_n 3, 1) := by decide +kernel
theorem zd_MO_real_80 : decode prog_8_method_21_code 80 = .ok (.ireturn, 1) := by decide +kernel
theorem zd_MO_real_81 : decode prog_8_method_21_code 81 = .ok (.aload_n 0, 1) := by decide +kernel
theorem zd_MO_real_82 : decode prog_8_method_21_code 82 = .ok (.getfield 139, 3) := by decide +kernel
theorem zd_MO_real_85 : decode prog_8_method_21_code 85 = .ok (.iload 5, 2) := by decide +kernel
theorem zd_MO_real_87 : decode prog_8_method_21_code 87 = .ok (.isub, 1) := by decide +kernel
theorem zd_MO_real_88 : decode prog_8_method_21_code 88 = .ok (.bipush (6), 2) := by decide +kernel
theorem zd_MO_real_90 : decode prog_8_method_21_code 90 = .ok (.if_icmp .le (10), 3) := by decide +kernel
theorem zd_MO_real_93 : decode prog_8_method_21_code 93 = .ok (.aload_n 0, 1) := by decide +kernel
theorem zd_MO_real_94 : decode prog_8_method_21_code 94 = .ok (.iconst 5, 1) := by decide +kernel
theorem zd_MO_real_95 : decode prog_8_method_21_code 95 = .ok (.iload_n 1, 1) := by decide +kernel
theorem zd_MO_real_96 : decode prog_8_method_21_code 96 = .ok (.invokevirtual 80, 3) := by decide +kernel
theorem zd_MO_real_99 : decode prog_8_method_21_code 99 = .ok (.ireturn, 1) := by decide +kernel
theorem zd_MO_real_100 : decode prog_8_method_21_code 100 = .ok (.lconst 0, 1) := by decide +kernel
theorem zd_MO_real_101 : decode prog_8_method_21_code 101 = .ok (.lstore 6, 2) := by decide +kernel
theorem zd_MO_real_103 : decode prog_8_method_21_code 103 = .ok (.iconst 0, 1) := by decide +kernel
theorem zd_MO_real_104 : decode prog_8_method_21_code 104 = .ok (.istore 8, 2) := by decide +kernel
theorem zd_MO_real_106 : decode prog_8_method_21_code 106 = .ok (.iload 8, 2) := by decide +kernel
theorem zd_MO_real_108 : decode prog_8_method_21_code 108 = .ok (.aload_n 0, 1) := by decide +kernel
theorem zd_MO_real_109 : decode prog_8_method_21_code 109 = .ok (.getfield 139, 3) := by decide +kernel
theorem zd_MO_real_112 : decode prog_8_method_21_code 112 = .ok (.if_icmp .ge (39), 3) := by decide +kernel
theorem zd_MO_real_115 : decode prog_8_method_21_code 115 = .ok (.ldc2_w 116, 3) := by decide +kernel
theorem zd_MO_real_118 : decode prog_8_method_21_code 118 = .ok (.lload 6, 2) := by decide +kernel
theorem zd_MO_real_120 : decode prog_8_method_21_code 120 = .ok (.lmul, 1) := by decide +kernel
theorem zd_MO_real_121 : decode prog_8_method_21_code 121 = .ok (.iload 8, 2) := by decide +kernel
theorem zd_MO_real_123 : decode prog_8_method_21_code 123 = .ok (.aload_n 0, 1) := by decide +kernel
theorem zd_MO_real_124 : decode prog_8_method_21_code 124 = .ok (.getfield 136, 3) := by decide +kernel
theorem zd_MO_real_127 : decode prog_8_method_21_code 127 = .ok (.if_icmp .ge (13), 3) := by decide +kernel
theorem zd_MO_real_130 : decode prog_8_method_21_code 130 = .ok (.aload_n 0, 1) := by decide +kernel
theorem zd_MO_real_131 : decode prog_8_method_21_code 131 = .ok (.getfield 34, 3) := by decide +kernel
theorem zd_MO_real_134 : decode prog_8_method_21_code 134 = .ok (.iload 8, 2) := by decide +kernel
theorem zd_MO_real_136 : decode prog_8_method_21_code 136 = .ok (.baload, 1) := by decide +kernel
theorem zd_MO_real_137 : decode prog_8_method_21_code 137 = .ok (.goto (4), 3) := by decide +kernel
theorem zd_MO_real_140 : decode prog_8_method_21_code 140 = .ok (.iconst 0, 1) := by decide +kernel
theorem zd_MO_real_141 : decode prog_8_method_21_code 141 = .ok (.i2l, 1) := by decide +kernel
theorem zd_MO_real_142 : decode prog_8_method_21_code 142 = .ok (.ladd, 1) := by decide +kernel
theorem zd_MO_real_143 : decode prog_8_method_21_code 143 = .ok (.lstore 6, 2) := by decide +kernel
theorem zd_MO_real_145 : decode prog_8_method_21_code 145 = .ok (.iinc 8 (1), 3) := by decide +kernel
theorem zd_MO_real_148 : decode prog_8_method_21_code 148 = .ok (.goto (-42), 3) := by decide +kernel
theorem zd_MO_real_151 : decode prog_8_method_21_code 151 = .ok (.ldc2_w 142, 3) := by decide +kernel
theorem zd_MO_real_154 : decode prog_8_method_21_code 154 = .ok (.lload 6, 2) := by decide +kernel
theorem zd_MO_real_156 : decode prog_8_method_21_code 156 = .ok (.lmul, 1) := by decide +kernel
theorem zd_MO_real_157 : decode prog_8_method_21_code 157 = .ok (.lstore 6, 2) := by decide +kernel
theorem zd_MO_real_159 : decode prog_8_method_21_code 159 = .ok (.aload_n 0, 1) := by decide +kernel
theorem zd_MO_real_160 : decode prog_8_method_21_code 160 = .ok (.getfield 139, 3) := by decide +kernel
theorem zd_MO_real_163 : decode prog_8_method_21_code 163 = .ok (.ifCond .ge (7), 3) := by decide +kernel
theorem zd_MO_real_166 : decode prog_8_method_21_code 166 = .ok (.iconst 0, 1) := by decide +kernel
theorem zd_MO_real_167 : decode prog_8_method_21_code 167 = .ok (.goto (7), 3) := by decide +kernel
theorem zd_MO_real_170 : decode prog_8_method_21_code 170 = .ok (.aload_n 0, 1) := by decide +kernel
theorem zd_MO_real_171 : decode prog_8_method_21_code 171 = .ok (.getfield 139, 3) := by decide +kernel
theorem zd_MO_real_174 : decode prog_8_method_21_code 174 = .ok (.istore 8, 2) := by decide +kernel
theorem zd_MO_real_176 : decode prog_8_method_21_code 176 = .ok (.aload_n 0, 1) := by decide +kernel
theorem zd_MO_real_177 : decode prog_8_method_21_code 177 = .ok (.getfield 139, 3) := by decide +kernel
theorem zd_MO_real_180 : decode prog_8_method_21_code 180 = .ok (.ifCond .ge (11), 3) := by decide +kernel
theorem zd_MO_real_183 : decode prog_8_method_21_code 183 = .ok (.aload_n 0, 1) := by decide +kernel
theorem zd_MO_real_184 : decode prog_8_method_21_code 184 = .ok (.getfield 139, 3) := by decide +kernel
theorem zd_MO_real_187 : decode prog_8_method_21_code 187 = .ok (.ineg, 1) := by decide +kernel
theorem zd_MO_real_188 : decode prog_8_method_21_code 188 = .ok (.goto (4), 3) := by decide +kernel
theorem zd_MO_real_191 : decode prog_8_method_21_code 191 = .ok (.iconst 0, 1) := by decide +kernel
theorem zd_MO_real_192 : decode prog_8_method_21_code 192 = .ok (.istore 9, 2) := by decide +kernel
theorem zd_MO_real_194 : decode prog_8_method_21_code 194 = .ok (.iload 9, 2) := by decide +kernel
theorem zd_MO_real_196 : decode prog_8_method_21_code 196 = .ok (.aload_n 0, 1) := by decide +kernel
theorem zd_MO_real_197 : decode prog_8_method_21_code 197 = .ok (.getfield 136, 3) := by decide +kernel
theorem zd_MO_real_200 : decode prog_8_method_21_code 200 = .ok (.iload 8, 2) := by decide +kernel
theorem zd_MO_real_202 : decode prog_8_method_21_code 202 = .ok (.if_icmp .le (13), 3) := by decide +kernel
theorem zd_MO_real_205 : decode prog_8_method_21_code 205 = .ok (.aload_n 0, 1) := by decide +kernel
theorem zd_MO_real_206 : decode prog_8_method_21_code 206 = .ok (.getfield 136, 3) := by decide +kernel
theorem zd_MO_real_209 : decode prog_8_method_21_code 209 = .ok (.iload 8, 2) := by decide +kernel
theorem zd_MO_real_211 : decode prog_8_method_21_code 211 = .ok (.isub, 1) := by decide +kernel
theorem zd_MO_real_212 : decode prog_8_method_21_code 212 = .ok (.goto (4), 3) := by decide +kernel
theorem zd_MO_real_215 : decode prog_8_method_21_code 215 = .ok (.iconst 0, 1) := by decide +kernel
theorem zd_MO_real_216 : decode prog_8_method_21_code 216 = .ok (.iadd, 1) := by decide +kernel
theorem zd_MO_real_217 : decode prog_8_method_21_code 217 = .ok (.istore 10, 2) := by decide +kernel
theorem zd_MO_real_219 : decode prog_8_method_21_code 219 = .ok (.iconst 0, 1) := by decide +kernel
theorem zd_MO_real_220 : decode prog_8_method_21_code 220 = .ok (.istore 11, 2) := by decide +kernel
theorem zd_MO_real_222 : decode prog_8_method_21_code 222 = .ok (.iload 11, 2) := by decide +kernel
theorem zd_MO_real_224 : decode prog_8_method_21_code 224 = .ok (.iload 10, 2) := by decide +kernel
theorem zd_MO_real_226 : decode prog_8_method_21_code 226 = .ok (.if_icmp .ge (40), 3) := by decide +kernel
theorem zd_MO_real_229 : decode prog_8_method_21_code 229 = .ok (.aload_n 0, 1) := by decide +kernel
theorem zd_MO_real_230 : decode prog_8_method_21_code 230 = .ok (.getfield 37, 3) := by decide +kernel
theorem zd_MO_real_233 : decode prog_8_method_21_code 233 = .ok (.iload 11, 2) := by decide +kernel
theorem zd_MO_real_235 : decode prog_8_method_21_code 235 = .ok (.iload 11, 2) := by decide +kernel
theorem zd_MO_real_237 : decode prog_8_method_21_code 237 = .ok (.iload 9, 2) := by decide +kernel
theorem zd_MO_real_239 : decode prog_8_method_21_code 239 = .ok (.if_icmp .ge (7), 3) := by decide +kernel
theorem zd_MO_real_242 : decode prog_8_method_21_code 242 = .ok (.iconst 0, 1) := by decide +kernel
theorem zd_MO_real_243 : decode prog_8_method_21_code 243 = .ok (.goto (16), 3) := by decide +kernel
theorem zd_MO_real_246 : decode prog_8_method_21_code 246 = .ok (.aload_n 0, 1) := by decide +kernel
theorem zd_MO_real_247 : decode prog_8_method_21_code 247 = .ok (.getfield 34, 3) := by decide +kernel
theorem zd_MO_real_250 : decode prog_8_method_21_code 250 = .ok (.iload 8, 2) := by decide +kernel
theorem zd_MO_real_252 : decode prog_8_method_21_code 252 = .ok (.iload 11, 2) := by decide +kernel
theorem zd_MO_real_254 : decode prog_8_method_21_code 254 = .ok (.iadd, 1) := by decide +kernel
theorem zd_MO_real_255 : decode prog_8_method_21_code 255 = .ok (.iload 9, 2) := by decide +kernel
theorem zd_MO_real_257 : decode prog_8_method_21_code 257 = .ok (.isub, 1) := by decide +kernel
theorem zd_MO_real_258 : decode prog_8_method_21_code 258 = .ok (.baload, 1) := by decide +kernel
theorem zd_MO_real_259 : decode prog_8_method_21_code 259 = .ok (.bastore, 1) := by decide +kernel
theorem zd_MO_real_260 : decode prog_8_method_21_code 260 = .ok (.iinc 11 (1), 3) := by decide +kernel
theorem zd_MO_real_263 : decode prog_8_method_21_code 263 = .ok (.goto (-41), 3) := by decide +kernel
theorem zd_MO_real_266 : decode prog_8_method_21_code 266 = .ok (.lconst 0, 1) := by decide +kernel
theorem zd_MO_real_267 : decode prog_8_method_21_code 267 = .ok (.lstore 11, 2) := by decide +kernel
theorem zd_MO_real_269 : decode prog_8_method_21_code 269 = .ok (.iconst 0, 1) := by decide +kernel
theorem zd_MO_real_270 : decode prog_8_method_21_code 270 = .ok (.istore 13, 2) := by decide +kernel
theorem zd_MO_real_272 : decode prog_8_method_21_code 272 = .ok (.iload 13, 2) := by decide +kernel
theorem zd_MO_real_274 : decode prog_8_method_21_code 274 = .ok (.bipush (17), 2) := by decide +kernel
theorem zd_MO_real_276 : decode prog_8_method_21_code 276 = .ok (.if_icmp .ge (25), 3) := by decide +kernel
theorem zd_MO_real_279 : decode prog_8_method_21_code 279 = .ok (.ldc2_w 144, 3) := by decide +kernel
theorem zd_MO_real_282 : decode prog_8_method_21_code 282 = .ok (.lload 11, 2) := by decide +kernel
theorem zd_MO_real_284 : decode prog_8_method_21_code 284 = .ok (.lmul, 1) := by decide +kernel
theorem zd_MO_real_285 : decode prog_8_method_21_code 285 = .ok (.aload_n 0, 1) := by decide +kernel
theorem zd_MO_real_286 : decode prog_8_method_21_code 286 = .ok (.iload 10, 2) := by decide +kernel
theorem zd_MO_real_288 : decode prog_8_method_21_code 288 = .ok (.invokevirtual 146, 3) := by decide +kernel
theorem zd_MO_real_291 : decode prog_8_method_21_code 291 = .ok (.i2l, 1) := by decide +kernel
theorem zd_MO_real_292 : decode prog_8_method_21_code 292 = .ok (.ladd, 1) := by decide +kernel
theorem zd_MO_real_293 : decode prog_8_method_21_code 293 = .ok (.lstore 11, 2) := by decide +kernel
theorem zd_MO_real_295 : decode prog_8_method_21_code 295 = .ok (.iinc 13 (1), 3) := by decide +kernel
theorem zd_MO_real_298 : decode prog_8_method_21_code 298 = .ok (.goto (-26), 3) := by decide +kernel
theorem zd_MO_real_301 : decode prog_8_method_21_code 301 = .ok (.iconst 0, 1) := by decide +kernel
theorem zd_MO_real_302 : decode prog_8_method_21_code 302 = .ok (.istore 13, 2) := by decide +kernel
theorem zd_MO_real_304 : decode prog_8_method_21_code 304 = .ok (.iconst 0, 1) := by decide +kernel
theorem zd_MO_real_305 : decode prog_8_method_21_code 305 = .ok (.istore 14, 2) := by decide +kernel
theorem zd_MO_real_307 : decode prog_8_method_21_code 307 = .ok (.iload 14, 2) := by decide +kernel
theorem zd_MO_real_309 : decode prog_8_method_21_code 309 = .ok (.iload 10, 2) := by decide +kernel
theorem zd_MO_real_311 : decode prog_8_method_21_code 311 = .ok (.if_icmp .ge (31), 3) := by decide +kernel
theorem zd_MO_real_314 : decode prog_8_method_21_code 314 = .ok (.iload 13, 2) := by decide +kernel
theorem zd_MO_real_316 : decode prog_8_method_21_code 316 = .ok (.ifCond .ne (13), 3) := by decide +kernel
theorem zd_MO_real_319 : decode prog_8_method_21_code 319 = .ok (.aload_n 0, 1) := by decide +kernel
theorem zd_MO_real_320 : decode prog_8_method_21_code 320 = .ok (.getfield 37, 3) := by decide +kernel
theorem zd_MO_real_323 : decode prog_8_method_21_code 323 = .ok (.iload 14, 2) := by decide +kernel
theorem zd_MO_real_325 : decode prog_8_method_21_code 325 = .ok (.baload, 1) := by decide +kernel
theorem zd_MO_real_326 : decode prog_8_method_21_code 326 = .ok (.ifCond .eq (7), 3) := by decide +kernel
theorem zd_MO_real_329 : decode prog_8_method_21_code 329 = .ok (.iconst 1, 1) := by decide +kernel
theorem zd_MO_real_330 : decode prog_8_method_21_code 330 = .ok (.goto (4), 3) := by decide +kernel
theorem zd_MO_real_333 : decode prog_8_method_21_code 333 = .ok (.iconst 0, 1) := by decide +kernel
theorem zd_MO_real_334 : decode prog_8_method_21_code 334 = .ok (.istore 13, 2) := by decide +kernel
theorem zd_MO_real_336 : decode prog_8_method_21_code 336 = .ok (.iinc 14 (1), 3) := by decide +kernel
theorem zd_MO_real_339 : decode prog_8_method_21_code 339 = .ok (.goto (-32), 3) := by decide +kernel
theorem zd_MO_real_342 : decode prog_8_method_21_code 342 = .ok (.lload 11, 2) := by decide +kernel
theorem zd_MO_real_344 : decode prog_8_method_21_code 344 = .ok (.ldc2_w 144, 3) := by decide +kernel
theorem zd_MO_real_347 : decode prog_8_method_21_code 347 = .ok (.lrem, 1) := by decide +kernel
theorem zd_MO_real_348 : decode prog_8_method_21_code 348 = .ok (.lstore 14, 2) := by decide +kernel
theorem zd_MO_real_350 : decode prog_8_method_21_code 350 = .ok (.lload 14, 2) := by decide +kernel
theorem zd_MO_real_352 : decode prog_8_method_21_code 352 = .ok (.lconst 1, 1) := by decide +kernel
theorem zd_MO_real_353 : decode prog_8_method_21_code 353 = .ok (.lcmp, 1) := by decide +kernel
theorem zd_MO_real_354 : decode prog_8_method_21_code 354 = .ok (.ifCond .ne (17), 3) := by decide +kernel
theorem zd_MO_real_357 : decode prog_8_method_21_code 357 = .ok (.iload 4, 2) := by decide +kernel
theorem zd_MO_real_359 : decode prog_8_method_21_code 359 = .ok (.ifCond .eq (8), 3) := by decide +kernel
theorem zd_MO_real_362 : decode prog_8_method_21_code 362 = .ok (.iload 13, 2) := by decide +kernel
theorem zd_MO_real_364 : decode prog_8_method_21_code 364 = .ok (.ifCond .eq (7), 3) := by decide +kernel
theorem zd_MO_real_367 : decode prog_8_method_21_code 367 = .ok (.iconst 1, 1) := by decide +kernel
theorem zd_MO_real_368 : decode prog_8_method_21_code 368 = .ok (.goto (4), 3) := by decide +kernel
theorem zd_MO_real_371 : decode prog_8_method_21_code 371 = .ok (.iconst 0, 1) := by decide +kernel
theorem zd_MO_real_372 : decode prog_8_method_21_code 372 = .ok (.istore 16, 2) := by decide +kernel
theorem zd_MO_real_374 : decode prog_8_method_21_code 374 = .ok (.lload 6, 2) := by decide +kernel
theorem zd_MO_real_376 : decode prog_8_method_21_code 376 = .ok (.lload 11, 2) := by decide +kernel
theorem zd_MO_real_378 : decode prog_8_method_21_code 378 = .ok (.ldc2_w 144, 3) := by decide +kernel
theorem zd_MO_real_381 : decode prog_8_method_21_code 381 = .ok (.ldiv, 1) := by decide +kernel
theorem zd_MO_real_382 : decode prog_8_method_21_code 382 = .ok (.iload 16, 2) := by decide +kernel
theorem zd_MO_real_384 : decode prog_8_method_21_code 384 = .ok (.ifCond .eq (7), 3) := by decide +kernel
theorem zd_MO_real_387 : decode prog_8_method_21_code 387 = .ok (.lconst 1, 1) := by decide +kernel
theorem zd_MO_real_388 : decode prog_8_method_21_code 388 = .ok (.goto (4), 3) := by decide +kernel
theorem zd_MO_real_391 : decode prog_8_method_21_code 391 = .ok (.lconst 0, 1) := by decide +kernel
theorem zd_MO_real_392 : decode prog_8_method_21_code 392 = .ok (.ladd, 1) := by decide +kernel
theorem zd_MO_real_393 : decode prog_8_method_21_code 393 = .ok (.ladd, 1) := by decide +kernel
theorem zd_MO_real_394 : decode prog_8_method_21_code 394 = .ok (.lstore 6, 2) := by decide +kernel
theorem zd_MO_real_396 : decode prog_8_method_21_code 396 = .ok (.lload 6, 2) := by decide +kernel
theorem zd_MO_real_398 : decode prog_8_method_21_code 398 = .ok (.ldc2_w 120, 3) := by decide +kernel
theorem zd_MO_real_401 : decode prog_8_method_21_code 401 = .ok (.lcmp, 1) := by decide +kernel
theorem zd_MO_real_402 : decode prog_8_method_21_code 402 = .ok (.ifCond .le (10), 3) := by decide +kernel
theorem zd_MO_real_405 : decode prog_8_method_21_code 405 = .ok (.aload_n 0, 1) := by decide +kernel
theorem zd_MO_real_406 : decode prog_8_method_21_code 406 = .ok (.iconst 5, 1) := by decide +kernel
theorem zd_MO_real_407 : decode prog_8_method_21_code 407 = .ok (.iload_n 1, 1) := by decide +kernel
theorem zd_MO_real_408 : decode prog_8_method_21_code 408 = .ok (.invokevirtual 80, 3) := by decide +kernel
theorem zd_MO_real_411 : decode prog_8_method_21_code 411 = .ok (.ireturn, 1) := by decide +kernel
theorem zd_MO_real_412 : decode prog_8_method_21_code 412 = .ok (.aload_n 0, 1) := by decide +kernel
theorem zd_MO_real_413 : decode prog_8_method_21_code 413 = .ok (.iconst 2, 1) := by decide +kernel
theorem zd_MO_real_414 : decode prog_8_method_21_code 414 = .ok (.iload 4, 2) := by decide +kernel
theorem zd_MO_real_416 : decode prog_8_method_21_code 416 = .ok (.ifCond .eq (9), 3) := by decide +kernel
theorem zd_MO_real_419 : decode prog_8_method_21_code 419 = .ok (.lload 6, 2) := by decide +kernel
theorem zd_MO_real_421 : decode prog_8_method_21_code 421 = .ok (.lneg, 1) := by decide +kernel
theorem zd_MO_real_422 : decode prog_8_method_21_code 422 = .ok (.goto (5), 3) := by decide +kernel
theorem zd_MO_real_425 : decode prog_8_method_21_code 425 = .ok (.lload 6, 2) := by decide +kernel
theorem zd_MO_real_427 : decode prog_8_method_21_code 427 = .ok (.l2i, 1) := by decide +kernel
theorem zd_MO_real_428 : decode prog_8_method_21_code 428 = .ok (.iload_n 1, 1) := by decide +kernel
theorem zd_MO_real_429 : decode prog_8_method_21_code 429 = .ok (.invokevirtual 110, 3) := by decide +kernel
theorem zd_MO_real_432 : decode prog_8_method_21_code 432 = .ok (.iload_n 3, 1) := by decide +kernel
theorem zd_MO_real_433 : decode prog_8_method_21_code 433 = .ok (.ireturn, 1) := by decide +kernel
theorem zd_MO_read_0 : decode prog_8_method_23_code 0 = .ok (.aload_n 0, 1) := by decide +kernel
theorem zd_MO_read_1 : decode prog_8_method_23_code 1 = .ok (.iconst 0, 1) := by decide +kernel
theorem zd_MO_read_2 : decode prog_8_method_23_code 2 = .ok (.putfield 136, 3) := by decide +kernel
theorem zd_MO_read_5 : decode prog_8_method_23_code 5 = .ok (.iload_n 1, 1) := by decide +kernel
theorem zd_MO_read_6 : decode prog_8_method_23_code 6 = .ok (.istore_n 3, 1) := by decide +kernel
theorem zd_MO_read_7 : decode prog_8_method_23_code 7 = .ok (.iconst 0, 1) := by decide +kernel
theorem zd_MO_read_8 : decode prog_8_method_23_code 8 = .ok (.istore 4, 2) := by decide +kernel
theorem zd_MO_read_10 : decode prog_8_method_23_code 10 = .ok (.iconst 0, 1) := by decide +kernel
theorem zd_MO_read_11 : decode prog_8_method_23_code 11 = .ok (.istore 5, 2) := by decide +kernel
theorem zd_MO_read_13 : decode prog_8_method_23_code 13 = .ok (.iload_n 3, 1) := by decide +kernel
theorem zd_MO_read_14 : decode prog_8_method_23_code 14 = .ok (.iload_n 2, 1) := by decide +kernel
theorem zd_MO_read_15 : decode prog_8_method_23_code 15 = .ok (.if_icmp .ge (88), 3) := by decide +kernel
theorem zd_MO_read_18 : decode prog_8_method_23_code 18 = .ok (.aload_n 0, 1) := by decide +kernel
theorem zd_MO_read_19 : decode prog_8_method_23_code 19 = .ok (.iload_n 3, 1) := by decide +kernel
theorem zd_MO_read_20 : decode prog_8_method_23_code 20 = .ok (.invokevirtual 51, 3) := by decide +kernel
theorem zd_MO_read_23 : decode prog_8_method_23_code 23 = .ok (.bipush (101), 2) := by decide +kernel
theorem zd_MO_read_25 : decode prog_8_method_23_code 25 = .ok (.if_icmp .eq (78), 3) := by decide +kernel
theorem zd_MO_read_28 : decode prog_8_method_23_code 28 = .ok (.aload_n 0, 1) := by decide +kernel
theorem zd_MO_read_29 : decode prog_8_method_23_code 29 = .ok (.iload_n 3, 1) := by decide +kernel
theorem zd_MO_read_30 : decode prog_8_method_23_code 30 = .ok (.invokevirtual 51, 3) := by decide +kernel
theorem zd_MO_read_33 : decode prog_8_method_23_code 33 = .ok (.bipush (69), 2) := by decide +kernel
theorem zd_MO_read_35 : decode prog_8_method_23_code 35 = .ok (.if_icmp .eq (68), 3) := by decide +kernel
theorem zd_MO_read_38 : decode prog_8_method_23_code 38 = .ok (.aload_n 0, 1) := by decide +kernel
theorem zd_MO_read_39 : decode prog_8_method_23_code 39 = .ok (.iload_n 3, 1) := by decide +kernel
theorem zd_MO_read_40 : decode prog_8_method_23_code 40 = .ok (.invokevirtual 51, 3) := by decide +kernel
theorem zd_MO_read_43 : decode prog_8_method_23_code 43 = .ok (.bipush (46), 2) := by decide +kernel
theorem zd_MO_read_45 : decode prog_8_method_23_code 45 = .ok (.if_icmp .ne (9), 3) := by decide +kernel
theorem zd_MO_read_48 : decode prog_8_method_23_code 48 = .ok (.iconst 1, 1) := by decide +kernel
theorem zd_MO_read_49 : decode prog_8_method_23_code 49 = .ok (.istore 4, 2) := by decide +kernel
theorem zd_MO_read_51 : decode prog_8_method_23_code 51 = .ok (.goto (46), 3) := by decide +kernel
theorem zd_MO_read_54 : decode prog_8_method_23_code 54 = .ok (.aload_n 0, 1) := by decide +kernel
theorem zd_MO_read_55 : decode prog_8_method_23_code 55 = .ok (.getfield 34, 3) := by decide +kernel
theorem zd_MO_read_58 : decode prog_8_method_23_code 58 = .ok (.aload_n 0, 1) := by decide +kernel
theorem zd_MO_read_59 : decode prog_8_method_23_code 59 = .ok (.getfield 136, 3) := by decide +kernel
theorem zd_MO_read_62 : decode prog_8_method_23_code 62 = .ok (.aload_n 0, 1) := by decide +kernel
theorem zd_MO_read_63 : decode prog_8_method_23_code 63 = .ok (.iload_n 3, 1) := by decide +kernel
theorem zd_MO_read_64 : decode prog_8_method_23_code 64 = .ok (.invokevirtual 51, 3) := by decide +kernel
theorem zd_MO_read_67 : decode prog_8_method_23_code 67 = .ok (.bipush (48), 2) := by decide +kernel
theorem zd_MO_read_69 : decode prog_8_method_23_code 69 = .ok (.isub, 1) := by decide +kernel
theorem zd_MO_read_70 : decode prog_8_method_23_code 70 = .ok (.i2b, 1) := by decide +kernel
theorem zd_MO_read_71 : decode prog_8_method_23_code 71 = .ok (.bastore, 1) := by decide +kernel
theorem zd_MO_read_72 : decode prog_8_method_23_code 72 = .ok (.aload_n 0, 1) := by decide +kernel
theorem zd_MO_read_73 : decode prog_8_method_23_code 73 = .ok (.dup, 1) := by decide +kernel
theorem zd_MO_read_74 : decode prog_8_method_23_code 74 = .ok (.getfield 136, 3) := by decide +kernel
theorem zd_MO_read_77 : decode prog_8_method_23_code 77 = .ok (.iconst 1, 1) := by decide +kernel
theorem zd_MO_read_78 : decode prog_8_method_23_code 78 = .ok (.iadd, 1) := by decide +kernel
theorem zd_MO_read_79 : decode prog_8_method_23_code 79 = .ok (.putfield 136, 3) := by decide +kernel
theorem zd_MO_read_82 : decode prog_8_method_23_code 82 = .ok (.iload 5, 2) := by decide +kernel
theorem zd_MO_read_84 : decode prog_8_method_23_code 84 = .ok (.iload 4, 2) := by decide +kernel
theorem zd_MO_read_86 : decode prog_8_method_23_code 86 = .ok (.ifCond .eq (7), 3) := by decide +kernel
theorem zd_MO_read_89 : decode prog_8_method_23_code 89 = .ok (.iconst 0, 1) := by decide +kernel
theorem zd_MO_read_90 : decode prog_8_method_23_code 90 = .ok (.goto (4), 3) := by decide +kernel
theorem zd_MO_read_93 : decode prog_8_method_23_code 93 = .ok (.iconst 1, 1) := by decide +kernel
theorem zd_MO_read_94 : decode prog_8_method_23_code 94 = .ok (.iadd, 1) := by decide +kernel
theorem zd_MO_read_95 : decode prog_8_method_23_code 95 = .ok (.istore 5, 2) := by decide +kernel
theorem zd_MO_read_97 : decode prog_8_method_23_code 97 = .ok (.iinc 3 (1), 3) := by decide +kernel
theorem zd_MO_read_100 : decode prog_8_method_23_code 100 = .ok (.goto (-87), 3) := by decide +kernel
theorem zd_MO_read_103 : decode prog_8_method_23_code 103 = .ok (.iconst 0, 1) := by decide +kernel
theorem zd_MO_read_104 : decode prog_8_method_23_code 104 = .ok (.istore 6, 2) := by decide +kernel
theorem zd_MO_read_106 : decode prog_8_method_23_code 106 = .ok (.iload_n 3, 1) := by decide +kernel
theorem zd_MO_read_107 : decode prog_8_method_23_code 107 = .ok (.iload_n 2, 1) := by decide +kernel
theorem zd_MO_read_108 : decode prog_8_method_23_code 108 = .ok (.if_icmp .ge (19), 3) := by decide +kernel
theorem zd_MO_read_111 : decode prog_8_method_23_code 111 = .ok (.aload_n 0, 1) := by decide +kernel
theorem zd_MO_read_112 : decode prog_8_method_23_code 112 = .ok (.iload_n 3, 1) := by decide +kernel
theorem zd_MO_read_113 : decode prog_8_method_23_code 113 = .ok (.iconst 1, 1) := by decide +kernel
theorem zd_MO_read_114 : decode prog_8_method_23_code 114 = .ok (.iadd, 1) := by decide +kernel
theorem zd_MO_read_115 : decode prog_8_method_23_code 115 = .ok (.invokevirtual 51, 3) := by decide +kernel
theorem zd_MO_read_118 : decode prog_8_method_23_code 118 = .ok (.bipush (45), 2) := by decide +kernel
theorem zd_MO_read_120 : decode prog_8_method_23_code 120 = .ok (.if_icmp .ne (7), 3) := by decide +kernel
theorem zd_MO_read_123 : decode prog_8_method_23_code 123 = .ok (.iconst 1, 1) := by decide +kernel
theorem zd_MO_read_124 : decode prog_8_method_23_code 124 = .ok (.goto (4), 3) := by decide +kernel
theorem zd_MO_read_127 : decode prog_8_method_23_code 127 = .ok (.iconst 0, 1) := by decide +kernel
theorem zd_MO_read_128 : decode prog_8_method_23_code 128 = .ok (.istore 7, 2) := by decide +kernel
theorem zd_MO_read_130 : decode prog_8_method_23_code 130 = .ok (.iload_n 3, 1) := by decide +kernel
theorem zd_MO_read_131 : decode prog_8_method_23_code 131 = .ok (.iconst 1, 1) := by decide +kernel
theorem zd_MO_read_132 : decode prog_8_method_23_code 132 = .ok (.iadd, 1) := by decide +kernel
theorem zd_MO_read_133 : decode prog_8_method_23_code 133 = .ok (.istore 8, 2) := by decide +kernel
theorem zd_MO_read_135 : decode prog_8_method_23_code 135 = .ok (.iload 8, 2) := by decide +kernel
theorem zd_MO_read_137 : decode prog_8_method_23_code 137 = .ok (.iload_n 2, 1) := by decide +kernel
theorem zd_MO_read_138 : decode prog_8_method_23_code 138 = .ok (.if_icmp .ge (45), 3) := by decide +kernel
theorem zd_MO_read_141 : decode prog_8_method_23_code 141 = .ok (.aload_n 0, 1) := by decide +kernel
theorem zd_MO_read_142 : decode prog_8_method_23_code 142 = .ok (.iload 8, 2) := by decide +kernel
theorem zd_MO_read_144 : decode prog_8_method_23_code 144 = .ok (.invokevirtual 51, 3) := by decide +kernel
theorem zd_MO_read_147 : decode prog_8_method_23_code 147 = .ok (.invokestatic 48, 3) := by decide +kernel
theorem zd_MO_read_150 : decode prog_8_method_23_code 150 = .ok (.ifCond .eq (27), 3) := by decide +kernel
theorem zd_MO_read_153 : decode prog_8_method_23_code 153 = .ok (.iload 6, 2) := by decide +kernel
theorem zd_MO_read_155 : decode prog_8_method_23_code 155 = .ok (.ldc 149, 2) := by decide +kernel
theorem zd_MO_read_157 : decode prog_8_method_23_code 157 = .ok (.if_icmp .ge (20), 3) := by decide +kernel
theorem zd_MO_read_160 : decode prog_8_method_23_code 160 = .ok (.bipush (10), 2) := by decide +kernel
theorem zd_MO_read_162 : decode prog_8_method_23_code 162 = .ok (.iload 6, 2) := by decide +kernel
theorem zd_MO_read_164 : decode prog_8_method_23_code 164 = .ok (.imul, 1) := by decide +kernel
theorem zd_MO_read_165 : decode prog_8_method_23_code 165 = .ok (.aload_n 0, 1) := by decide +kernel
theorem zd_MO_read_166 : decode prog_8_method_23_code 166 = .ok (.iload 8, 2) := by decide +kernel
theorem zd_MO_read_168 : decode prog_8_method_23_code 168 = .ok (.invokevirtual 51, 3) := by decide +kernel
theorem zd_MO_read_171 : decode prog_8_method_23_code 171 = .ok (.iadd, 1) := by decide +kernel
theorem zd_MO_read_172 : decode prog_8_method_23_code 172 = .ok (.bipush (48), 2) := by decide +kernel
theorem zd_MO_read_174 : decode prog_8_method_23_code 174 = .ok (.isub, 1) := by decide +kernel
theorem zd_MO_read_175 : decode prog_8_method_23_code 175 = .ok (.istore 6, 2) := by decide +kernel
theorem zd_MO_read_177 : decode prog_8_method_23_code 177 = .ok (.iinc 8 (1), 3) := by decide +kernel
theorem zd_MO_read_180 : decode prog_8_method_23_code 180 = .ok (.goto (-45), 3) := by decide +kernel
theorem zd_MO_read_183 : decode prog_8_method_23_code 183 = .ok (.aload_n 0, 1) := by decide +kernel
theorem zd_MO_read_184 : decode prog_8_method_23_code 184 = .ok (.iload 5, 2) := by decide +kernel
theorem zd_MO_read_186 : decode prog_8_method_23_code 186 = .ok (.iload 7, 2) := by decide +kernel
theorem zd_MO_read_188 : decode prog_8_method_23_code 188 = .ok (.ifCond .eq (9), 3) := by decide +kernel
theorem zd_MO_read_191 : decode prog_8_method_23_code 191 = .ok (.iload 6, 2) := by decide +kernel
theorem zd_MO_read_193 : decode prog_8_method_23_code 193 = .ok (.ineg, 1) := by decide +kernel
theorem zd_MO_read_194 : decode prog_8_method_23_code 194 = .ok (.goto (5), 3) := by decide +kernel
theorem zd_MO_read_197 : decode prog_8_method_23_code 197 = .ok (.iload 6, 2) := by decide +kernel
theorem zd_MO_read_199 : decode prog_8_method_23_code 199 = .ok (.iadd, 1) := by decide +kernel
theorem zd_MO_read_200 : decode prog_8_method_23_code 200 = .ok (.putfield 139, 3) := by decide +kernel
theorem zd_MO_read_203 : decode prog_8_method_23_code 203 = .ok (.return_, 1) := by decide +kernel
theorem zd_MO_twice_0 : decode prog_8_method_22_code 0 = .ok (.iconst 0, 1) := by decide +kernel
theorem zd_MO_twice_1 : decode prog_8_method_22_code 1 = .ok (.istore_n 2, 1) := by decide +kernel
theorem zd_MO_twice_2 : decode prog_8_method_22_code 2 = .ok (.iload_n 1, 1) := by decide +kernel
theorem zd_MO_twice_3 : decode prog_8_method_22_code 3 = .ok (.iconst 1, 1) := by decide +kernel
theorem zd_MO_twice_4 : decode prog_8_method_22_code 4 = .ok (.isub, 1) := by decide +kernel
theorem zd_MO_twice_5 : decode prog_8_method_22_code 5 = .ok (.istore_n 3, 1) := by decide +kernel
theorem zd_MO_twice_6 : decode prog_8_method_22_code 6 = .ok (.iload_n 3, 1) := by decide +kernel
theorem zd_MO_twice_7 : decode prog_8_method_22_code 7 = .ok (.ifCond .lt (39), 3) := by decide +kernel
theorem zd_MO_twice_10 : decode prog_8_method_22_code 10 = .ok (.iconst 2, 1) := by decide +kernel
theorem zd_MO_twice_11 : decode prog_8_method_22_code 11 = .ok (.aload_n 0, 1) := by decide +kernel
theorem zd_MO_twice_12 : decode prog_8_method_22_code 12 = .ok (.getfield 37, 3) := by decide +kernel
theorem zd_MO_twice_15 : decode prog_8_method_22_code 15 = .ok (.iload_n 3, 1) := by decide +kernel
theorem zd_MO_twice_16 : decode prog_8_method_22_code 16 = .ok (.baload, 1) := by decide +kernel
theorem zd_MO_twice_17 : decode prog_8_method_22_code 17 = .ok (.imul, 1) := by decide +kernel
theorem zd_MO_twice_18 : decode prog_8_method_22_code 18 = .ok (.iload_n 2, 1) := by decide +kernel
theorem zd_MO_twice_19 : decode prog_8_method_22_code 19 = .ok (.iadd, 1) := by decide +kernel
theorem zd_MO_twice_20 : decode prog_8_method_22_code 20 = .ok (.istore 4, 2) := by decide +kernel
theorem zd_MO_twice_22 : decode prog_8_method_22_code 22 = .ok (.aload_n 0, 1) := by decide +kernel
theorem zd_MO_twice_23 : decode prog_8_method_22_code 23 = .ok (.getfield 37, 3) := by decide +kernel
theorem zd_MO_twice_26 : decode prog_8_method_22_code 26 = .ok (.iload_n 3, 1) := by decide +kernel
theorem zd_MO_twice_27 : decode prog_8_method_22_code 27 = .ok (.iload 4, 2) := by decide +kernel
theorem zd_MO_twice_29 : decode prog_8_method_22_code 29 = .ok (.bipush (10), 2) := by decide +kernel
theorem zd_MO_twice_31 : decode prog_8_method_22_code 31 = .ok (.irem, 1) := by decide +kernel
theorem zd_MO_twice_32 : decode prog_8_method_22_code 32 = .ok (.i2b, 1) := by decide +kernel
theorem zd_MO_twice_33 : decode prog_8_method_22_code 33 = .ok (.bastore, 1) := by decide +kernel
theorem zd_MO_twice_34 : decode prog_8_method_22_code 34 = .ok (.iload 4, 2) := by decide +kernel
theorem zd_MO_twice_36 : decode prog_8_method_22_code 36 = .ok (.bipush (10), 2) := by decide +kernel
theorem zd_MO_twice_38 : decode prog_8_method_22_code 38 = .ok (.idiv, 1) := by decide +kernel
theorem zd_MO_twice_39 : decode prog_8_method_22_code 39 = .ok (.istore_n 2, 1) := by decide +kernel
theorem zd_MO_twice_40 : decode prog_8_method_22_code 40 = .ok (.iinc 3 (-1), 3) := by decide +kernel
theorem zd_MO_twice_43 : decode prog_8_method_22_code 43 = .ok (.goto (-37), 3) := by decide +kernel
theorem zd_MO_twice_46 : decode prog_8_method_22_code 46 = .ok (.iload_n 2, 1) := by decide +kernel
theorem zd_MO_twice_47 : decode prog_8_method_22_code 47 = .ok (.ireturn, 1) := by decide +kernel
theorem zd_MO_place_0 : decode prog_8_method_33_code 0 = .ok (.aload_n 0, 1) := by decide +kernel
theorem zd_MO_place_1 : decode prog_8_method_33_code 1 = .ok (.getfield 58, 3) := by decide +kernel
theorem zd_MO_place_4 : decode prog_8_method_33_code 4 = .ok (.ireturn, 1) := by decide +kernel
theorem zd_MO_words_0 : decode prog_8_method_34_code 0 = .ok (.aload_n 0, 1) := by decide +kernel
theorem zd_MO_words_1 : decode prog_8_method_34_code 1 = .ok (.getfield 61, 3) := by decide +kernel
theorem zd_MO_words_4 : decode prog_8_method_34_code 4 = .ok (.ireturn, 1) := by decide +kernel
theorem zd_MO_kind_0 : decode prog_8_method_36_code 0 = .ok (.aload_n 0, 1) := by decide +kernel
theorem zd_MO_kind_1 : decode prog_8_method_36_code 1 = .ok (.iload_n 1, 1) := by decide +kernel
theorem zd_MO_kind_2 : decode prog_8_method_36_code 2 = .ok (.invokevirtual 183, 3) := by decide +kernel
theorem zd_MO_kind_5 : decode prog_8_method_36_code 5 = .ok (.ifCond .eq (12), 3) := by decide +kernel
theorem zd_MO_kind_8 : decode prog_8_method_36_code 8 = .ok (.aload_n 0, 1) := by decide +kernel
theorem zd_MO_kind_9 : decode prog_8_method_36_code 9 = .ok (.getfield 14, 3) := by decide +kernel
theorem zd_MO_kind_12 : decode prog_8_method_36_code 12 = .ok (.iload_n 1, 1) := by decide +kernel
theorem zd_MO_kind_13 : decode prog_8_method_36_code 13 = .ok (.baload, 1) := by decide +kernel
theorem zd_MO_kind_14 : decode prog_8_method_36_code 14 = .ok (.goto (4), 3) := by decide +kernel
theorem zd_MO_kind_17 : decode prog_8_method_36_code 17 = .ok (.iconst (-1), 1) := by decide +kernel
theorem zd_MO_kind_18 : decode prog_8_method_36_code 18 = .ok (.ireturn, 1) := by decide +kernel
theorem zd_MO_isWord_0 : decode prog_8_method_35_code 0 = .ok (.iload_n 1, 1) := by decide +kernel
theorem zd_MO_isWord_1 : decode prog_8_method_35_code 1 = .ok (.ifCond .lt (15), 3) := by decide +kernel
theorem zd_MO_isWord_4 : decode prog_8_method_35_code 4 = .ok (.iload_n 1, 1) := by decide +kernel
theorem zd_MO_isWord_5 : decode prog_8_method_35_code 5 = .ok (.aload_n 0, 1) := by decide +kernel
theorem zd_MO_isWord_6 : decode prog_8_method_35_code 6 = .ok (.getfield 61, 3) := by decide +kernel
theorem zd_MO_isWord_9 : decode prog_8_method_35_code 9 = .ok (.if_icmp .ge (7), 3) := by decide +kernel
theorem zd_MO_isWord_12 : decode prog_8_method_35_code 12 = .ok (.iconst 1, 1) := by decide +kernel
theorem zd_MO_isWord_13 : decode prog_8_method_35_code 13 = .ok (.goto (4), 3) := by decide +kernel
theorem zd_MO_isWord_16 : decode prog_8_method_35_code 16 = .ok (.iconst 0, 1) := by decide +kernel
theorem zd_MO_isWord_17 : decode prog_8_method_35_code 17 = .ok (.ireturn, 1) := by decide +kernel
theorem zd_MO_number_0 : decode prog_8_method_37_code 0 = .ok (.aload_n 0, 1) := by decide +kernel
theorem zd_MO_number_1 : decode prog_8_method_37_code 1 = .ok (.iload_n 1, 1) := by decide +kernel
theorem zd_MO_number_2 : decode prog_8_method_37_code 2 = .ok (.invokevirtual 183, 3) := by decide +kernel
theorem zd_MO_number_5 : decode prog_8_method_37_code 5 = .ok (.ifCond .eq (12), 3) := by decide +kernel
theorem zd_MO_number_8 : decode prog_8_method_37_code 8 = .ok (.aload_n 0, 1) := by decide +kernel
theorem zd_MO_number_9 : decode prog_8_method_37_code 9 = .ok (.getfield 17, 3) := by decide +kernel
theorem zd_MO_number_12 : decode prog_8_method_37_code 12 = .ok (.iload_n 1, 1) := by decide +kernel
theorem zd_MO_number_13 : decode prog_8_method_37_code 13 = .ok (.iaload, 1) := by decide +kernel
theorem zd_MO_number_14 : decode prog_8_method_37_code 14 = .ok (.goto (4), 3) := by decide +kernel
theorem zd_MO_number_17 : decode prog_8_method_37_code 17 = .ok (.iconst (-1), 1) := by decide +kernel
theorem zd_MO_number_18 : decode prog_8_method_37_code 18 = .ok (.ireturn, 1) := by decide +kernel
theorem zd_MO_begin_0 : decode prog_8_method_38_code 0 = .ok (.aload_n 0, 1) := by decide +kernel
theorem zd_MO_begin_1 : decode prog_8_method_38_code 1 = .ok (.iload_n 1, 1) := by decide +kernel
theorem zd_MO_begin_2 : decode prog_8_method_38_code 2 = .ok (.invokevirtual 183, 3) := by decide +kernel
theorem zd_MO_begin_5 : decode prog_8_method_38_code 5 = .ok (.ifCond .eq (12), 3) := by decide +kernel
theorem zd_MO_begin_8 : decode prog_8_method_38_code 8 = .ok (.aload_n 0, 1) := by decide +kernel
theorem zd_MO_begin_9 : decode prog_8_method_38_code 9 = .ok (.getfield 21, 3) := by decide +kernel
theorem zd_MO_begin_12 : decode prog_8_method_38_code 12 = .ok (.iload_n 1, 1) := by decide +kernel
theorem zd_MO_begin_13 : decode prog_8_method_38_code 13 = .ok (.iaload, 1) := by decide +kernel
theorem zd_MO_begin_14 : decode prog_8_method_38_code 14 = .ok (.goto (4), 3) := by decide +kernel
theorem zd_MO_begin_17 : decode prog_8_method_38_code 17 = .ok (.iconst (-1), 1) := by decide +kernel
theorem zd_MO_begin_18 : decode prog_8_method_38_code 18 = .ok (.ireturn, 1) := by decide +kernel
theorem zd_MO_texts_0 : decode prog_8_method_39_code 0 = .ok (.aload_n 0, 1) := by decide +kernel
theorem zd_MO_texts_1 : decode prog_8_method_39_code 1 = .ok (.getfield 67, 3) := by decide +kernel
theorem zd_MO_texts_4 : decode prog_8_method_39_code 4 = .ok (.ireturn, 1) := by decide +kernel
theorem zd_MO_at_0 : decode prog_8_method_41_code 0 = .ok (.iload_n 1, 1) := by decide +kernel
theorem zd_MO_at_1 : decode prog_8_method_41_code 1 = .ok (.ifCond .lt (44), 3) := by decide +kernel
theorem zd_MO_at_4 : decode prog_8_method_41_code 4 = .ok (.iload_n 1, 1) := by decide +kernel
theorem zd_MO_at_5 : decode prog_8_method_41_code 5 = .ok (.aload_n 0, 1) := by decide +kernel
theorem zd_MO_at_6 : decode prog_8_method_41_code 6 = .ok (.getfield 67, 3) := by decide +kernel
theorem zd_MO_at_9 : decode prog_8_method_41_code 9 = .ok (.if_icmp .ge (36), 3) := by decide +kernel
theorem zd_MO_at_12 : decode prog_8_method_41_code 12 = .ok (.iload_n 2, 1) := by decide +kernel
theorem zd_MO_at_13 : decode prog_8_method_41_code 13 = .ok (.ifCond .lt (32), 3) := by decide +kernel
theorem zd_MO_at_16 : decode prog_8_method_41_code 16 = .ok (.iload_n 2, 1) := by decide +kernel
theorem zd_MO_at_17 : decode prog_8_method_41_code 17 = .ok (.aload_n 0, 1) := by decide +kernel
theorem zd_MO_at_18 : decode prog_8_method_41_code 18 = .ok (.iload_n 1, 1) := by decide +kernel
theorem zd_MO_at_19 : decode prog_8_method_41_code 19 = .ok (.invokevirtual 70, 3) := by decide +kernel
theorem zd_MO_at_22 : decode prog_8_method_41_code 22 = .ok (.if_icmp .ge (23), 3) := by decide +kernel
theorem zd_MO_at_25 : decode prog_8_method_41_code 25 = .ok (.aload_n 0, 1) := by decide +kernel
theorem zd_MO_at_26 : decode prog_8_method_41_code 26 = .ok (.getfield 28, 3) := by decide +kernel
theorem zd_MO_at_29 : decode prog_8_method_41_code 29 = .ok (.aload_n 0, 1) := by decide +kernel
theorem zd_MO_at_30 : decode prog_8_method_41_code 30 = .ok (.getfield 31, 3) := by decide +kernel
theorem zd_MO_at_33 : decode prog_8_method_41_code 33 = .ok (.iload_n 1, 1) := by decide +kernel
theorem zd_MO_at_34 : decode prog_8_method_41_code 34 = .ok (.iaload, 1) := by decide +kernel
theorem zd_MO_at_35 : decode prog_8_method_41_code 35 = .ok (.iload_n 2, 1) := by decide +kernel
theorem zd_MO_at_36 : decode prog_8_method_41_code 36 = .ok (.iadd, 1) := by decide +kernel
theorem zd_MO_at_37 : decode prog_8_method_41_code 37 = .ok (.baload, 1) := by decide +kernel
theorem zd_MO_at_38 : decode prog_8_method_41_code 38 = .ok (.sipush (255), 3) := by decide +kernel
theorem zd_MO_at_41 : decode prog_8_method_41_code 41 = .ok (.iand, 1) := by decide +kernel
theorem zd_MO_at_42 : decode prog_8_method_41_code 42 = .ok (.goto (4), 3) := by decide +kernel
theorem zd_MO_at_45 : decode prog_8_method_41_code 45 = .ok (.iconst (-1), 1) := by decide +kernel
theorem zd_MO_at_46 : decode prog_8_method_41_code 46 = .ok (.ireturn, 1) := by decide +kernel
