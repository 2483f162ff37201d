theorem zd_BR_new_0 : decode prog_2_method_1_code 0 = .ok (.aload_n 0, 1) := by decide +kernel
theorem zd_BR_new_1 : decode prog_2_method_1_code 1 = .ok (.invokespecial 3, 3) := by decide +kernel
theorem zd_BR_new_4 : decode prog_2_method_1_code 4 = .ok (.aload_n 0, 1) := by decide +kernel
theorem zd_BR_new_5 : decode prog_2_method_1_code 5 = .ok (.sipush (512), 3) := by decide +kernel
theorem zd_BR_new_8 : decode prog_2_method_1_code 8 = .ok (.newarray .byte, 2) := by decide +kernel
theorem zd_BR_new_10 : decode prog_2_method_1_code 10 = .ok (.putfield 11, 3) := by decide +kernel
theorem zd_BR_new_13 : decode prog_2_method_1_code 13 = .ok (.aload_n 0, 1) := by decide +kernel
theorem zd_BR_new_14 : decode prog_2_method_1_code 14 = .ok (.iconst 0, 1) := by decide +kernel
theorem zd_BR_new_15 : decode prog_2_method_1_code 15 = .ok (.putfield 15, 3) := by decide +kernel
theorem zd_BR_new_18 : decode prog_2_method_1_code 18 = .ok (.return_, 1) := by decide +kernel
theorem zd_BR_count_0 : decode prog_2_method_2_code 0 = .ok (.aload_n 0, 1) := by decide +kernel
theorem zd_BR_count_1 : decode prog_2_method_2_code 1 = .ok (.getfield 15, 3) := by decide +kernel
theorem zd_BR_count_4 : decode prog_2_method_2_code 4 = .ok (.ireturn, 1) := by decide +kernel
theorem zd_BR_add_0 : decode prog_2_method_3_code 0 = .ok (.aload_n 0, 1) := by decide +kernel
theorem zd_BR_add_1 : decode prog_2_method_3_code 1 = .ok (.getfield 15, 3) := by decide +kernel
theorem zd_BR_add_4 : decode prog_2_method_3_code 4 = .ok (.ldc 19, 2) := by decide +kernel
theorem zd_BR_add_6 : decode prog_2_method_3_code 6 = .ok (.if_icmp .lt (4), 3) := by decide +kernel
theorem zd_BR_add_9 : decode prog_2_method_3_code 9 = .ok (.return_, 1) := by decide +kernel
theorem zd_BR_add_10 : decode prog_2_method_3_code 10 = .ok (.aload_n 0, 1) := by decide +kernel
theorem zd_BR_add_11 : decode prog_2_method_3_code 11 = .ok (.getfield 15, 3) := by decide +kernel
theorem zd_BR_add_14 : decode prog_2_method_3_code 14 = .ok (.aload_n 0, 1) := by decide +kernel
theorem zd_BR_add_15 : decode prog_2_method_3_code 15 = .ok (.getfield 11, 3) := by decide +kernel
theorem zd_BR_add_18 : decode prog_2_method_3_code 18 = .ok (.arraylength, 1) := by decide +kernel
theorem zd_BR_add_19 : decode prog_2_method_3_code 19 = .ok (.if_icmp .lt (21), 3) := by decide +kernel
theorem zd_BR_add_22 : decode prog_2_method_3_code 22 = .ok (.aload_n 0, 1) := by decide +kernel
theorem zd_BR_add_23 : decode prog_2_method_3_code 23 = .ok (.aload_n 0, 1) := by decide +kernel
theorem zd_BR_add_24 : decode prog_2_method_3_code 24 = .ok (.getfield 11, 3) := by decide +kernel
theorem zd_BR_add_27 : decode prog_2_method_3_code 27 = .ok (.iconst 2, 1) := by decide +kernel
theorem zd_BR_add_28 : decode prog_2_method_3_code 28 = .ok (.aload_n 0, 1) := by decide +kernel
theorem zd_BR_add_29 : decode prog_2_method_3_code 29 = .ok (.getfield 11, 3) := by decide +kernel
theorem zd_BR_add_32 : decode prog_2_method_3_code 32 = .ok (.arraylength, 1) := by decide +kernel
theorem zd_BR_add_33 : decode prog_2_method_3_code 33 = .ok (.imul, 1) := by decide +kernel
theorem zd_BR_add_34 : decode prog_2_method_3_code 34 = .ok (.invokestatic 20, 3) := by decide +kernel
theorem zd_BR_add_37 : decode prog_2_method_3_code 37 = .ok (.putfield 11, 3) := by decide +kernel
theorem zd_BR_add_40 : decode prog_2_method_3_code 40 = .ok (.aload_n 0, 1) := by decide +kernel
theorem zd_BR_add_41 : decode prog_2_method_3_code 41 = .ok (.getfield 11, 3) := by decide +kernel
theorem zd_BR_add_44 : decode prog_2_method_3_code 44 = .ok (.aload_n 0, 1) := by decide +kernel
theorem zd_BR_add_45 : decode prog_2_method_3_code 45 = .ok (.getfield 15, 3) := by decide +kernel
theorem zd_BR_add_48 : decode prog_2_method_3_code 48 = .ok (.iload_n 1, 1) := by decide +kernel
theorem zd_BR_add_49 : decode prog_2_method_3_code 49 = .ok (.i2b, 1) := by decide +kernel
theorem zd_BR_add_50 : decode prog_2_method_3_code 50 = .ok (.bastore, 1) := by decide +kernel
theorem zd_BR_add_51 : decode prog_2_method_3_code 51 = .ok (.aload_n 0, 1) := by decide +kernel
theorem zd_BR_add_52 : decode prog_2_method_3_code 52 = .ok (.dup, 1) := by decide +kernel
theorem zd_BR_add_53 : decode prog_2_method_3_code 53 = .ok (.getfield 15, 3) := by decide +kernel
theorem zd_BR_add_56 : decode prog_2_method_3_code 56 = .ok (.iconst 1, 1) := by decide +kernel
theorem zd_BR_add_57 : decode prog_2_method_3_code 57 = .ok (.iadd, 1) := by decide +kernel
theorem zd_BR_add_58 : decode prog_2_method_3_code 58 = .ok (.putfield 15, 3) := by decide +kernel
theorem zd_BR_add_61 : decode prog_2_method_3_code 61 = .ok (.return_, 1) := by decide +kernel
theorem zd_BR_shorten_0 : decode prog_2_method_5_code 0 = .ok (.iload_n 1, 1) := by decide +kernel
theorem zd_BR_shorten_1 : decode prog_2_method_5_code 1 = .ok (.ifCond .lt (16), 3) := by decide +kernel
theorem zd_BR_shorten_4 : decode prog_2_method_5_code 4 = .ok (.iload_n 1, 1) := by decide +kernel
theorem zd_BR_shorten_5 : decode prog_2_method_5_code 5 = .ok (.aload_n 0, 1) := by decide +kernel
theorem zd_BR_shorten_6 : decode prog_2_method_5_code 6 = .ok (.getfield 15, 3) := by decide +kernel
theorem zd_BR_shorten_9 : decode prog_2_method_5_code 9 = .ok (.if_icmp .ge (8), 3) := by decide +kernel
theorem zd_BR_shorten_12 : decode prog_2_method_5_code 12 = .ok (.aload_n 0, 1) := by decide +kernel
theorem zd_BR_shorten_13 : decode prog_2_method_5_code 13 = .ok (.iload_n 1, 1) := by decide +kernel
theorem zd_BR_shorten_14 : decode prog_2_method_5_code 14 = .ok (.putfield 15, 3) := by decide +kernel
theorem zd_BR_shorten_17 : decode prog_2_method_5_code 17 = .ok (.return_, 1) := by decide +kernel
theorem zd_BR_get_0 : decode prog_2_method_4_code 0 = .ok (.iload_n 1, 1) := by decide +kernel
theorem zd_BR_get_1 : decode prog_2_method_4_code 1 = .ok (.ifCond .lt (24), 3) := by decide +kernel
theorem zd_BR_get_4 : decode prog_2_method_4_code 4 = .ok (.iload_n 1, 1) := by decide +kernel
theorem zd_BR_get_5 : decode prog_2_method_4_code 5 = .ok (.aload_n 0, 1) := by decide +kernel
theorem zd_BR_get_6 : decode prog_2_method_4_code 6 = .ok (.getfield 15, 3) := by decide +kernel
theorem zd_BR_get_9 : decode prog_2_method_4_code 9 = .ok (.if_icmp .ge (16), 3) := by decide +kernel
theorem zd_BR_get_12 : decode prog_2_method_4_code 12 = .ok (.aload_n 0, 1) := by decide +kernel
theorem zd_BR_get_13 : decode prog_2_method_4_code 13 = .ok (.getfield 11, 3) := by decide +kernel
theorem zd_BR_get_16 : decode prog_2_method_4_code 16 = .ok (.iload_n 1, 1) := by decide +kernel
theorem zd_BR_get_17 : decode prog_2_method_4_code 17 = .ok (.baload, 1) := by decide +kernel
theorem zd_BR_get_18 : decode prog_2_method_4_code 18 = .ok (.sipush (255), 3) := by decide +kernel
theorem zd_BR_get_21 : decode prog_2_method_4_code 21 = .ok (.iand, 1) := by decide +kernel
theorem zd_BR_get_22 : decode prog_2_method_4_code 22 = .ok (.goto (4), 3) := by decide +kernel
theorem zd_BR_get_25 : decode prog_2_method_4_code 25 = .ok (.iconst (-1), 1) := by decide +kernel
theorem zd_BR_get_26 : decode prog_2_method_4_code 26 = .ok (.ireturn, 1) := by decide +kernel
theorem zd_IR_new_0 : decode prog_3_method_1_code 0 = .ok (.aload_n 0, 1) := by decide +kernel
theorem zd_IR_new_1 : decode prog_3_method_1_code 1 = .ok (.invokespecial 3, 3) := by decide +kernel
theorem zd_IR_new_4 : decode prog_3_method_1_code 4 = .ok (.aload_n 0, 1) := by decide +kernel
theorem zd_IR_new_5 : decode prog_3_method_1_code 5 = .ok (.iload_n 1, 1) := by decide +kernel
theorem zd_IR_new_6 : decode prog_3_method_1_code 6 = .ok (.putfield 9, 3) := by decide +kernel
theorem zd_IR_new_9 : decode prog_3_method_1_code 9 = .ok (.aload_n 0, 1) := by decide +kernel
theorem zd_IR_new_10 : decode prog_3_method_1_code 10 = .ok (.bipush (64), 2) := by decide +kernel
theorem zd_IR_new_12 : decode prog_3_method_1_code 12 = .ok (.newarray .int, 2) := by decide +kernel
theorem zd_IR_new_14 : decode prog_3_method_1_code 14 = .ok (.putfield 15, 3) := by decide +kernel
theorem zd_IR_new_17 : decode prog_3_method_1_code 17 = .ok (.aload_n 0, 1) := by decide +kernel
theorem zd_IR_new_18 : decode prog_3_method_1_code 18 = .ok (.iconst 0, 1) := by decide +kernel
theorem zd_IR_new_19 : decode prog_3_method_1_code 19 = .ok (.putfield 19, 3) := by decide +kernel
theorem zd_IR_new_22 : decode prog_3_method_1_code 22 = .ok (.return_, 1) := by decide +kernel
theorem zd_IR_shorten_0 : decode prog_3_method_6_code 0 = .ok (.iload_n 1, 1) := by decide +kernel
theorem zd_IR_shorten_1 : decode prog_3_method_6_code 1 = .ok (.ifCond .lt (16), 3) := by decide +kernel
theorem zd_IR_shorten_4 : decode prog_3_method_6_code 4 = .ok (.iload_n 1, 1) := by decide +kernel
theorem zd_IR_shorten_5 : decode prog_3_method_6_code 5 = .ok (.aload_n 0, 1) := by decide +kernel
theorem zd_IR_shorten_6 : decode prog_3_method_6_code 6 = .ok (.getfield 19, 3) := by decide +kernel
theorem zd_IR_shorten_9 : decode prog_3_method_6_code 9 = .ok (.if_icmp .ge (8), 3) := by decide +kernel
theorem zd_IR_shorten_12 : decode prog_3_method_6_code 12 = .ok (.aload_n 0, 1) := by decide +kernel
theorem zd_IR_shorten_13 : decode prog_3_method_6_code 13 = .ok (.iload_n 1, 1) := by decide +kernel
theorem zd_IR_shorten_14 : decode prog_3_method_6_code 14 = .ok (.putfield 19, 3) := by decide +kernel
theorem zd_IR_shorten_17 : decode prog_3_method_6_code 17 = .ok (.return_, 1) := by decide +kernel
theorem zd_IR_count_0 : decode prog_3_method_2_code 0 = .ok (.aload_n 0, 1) := by decide +kernel
theorem zd_IR_count_1 : decode prog_3_method_2_code 1 = .ok (.getfield 19, 3) := by decide +kernel
theorem zd_IR_count_4 : decode prog_3_method_2_code 4 = .ok (.ireturn, 1) := by decide +kernel
theorem zd_IR_get_0 : decode prog_3_method_4_code 0 = .ok (.iload_n 1, 1) := by decide +kernel
theorem zd_IR_get_1 : decode prog_3_method_4_code 1 = .ok (.ifCond .lt (20), 3) := by decide +kernel
theorem zd_IR_get_4 : decode prog_3_method_4_code 4 = .ok (.iload_n 1, 1) := by decide +kernel
theorem zd_IR_get_5 : decode prog_3_method_4_code 5 = .ok (.aload_n 0, 1) := by decide +kernel
theorem zd_IR_get_6 : decode prog_3_method_4_code 6 = .ok (.getfield 19, 3) := by decide +kernel
theorem zd_IR_get_9 : decode prog_3_method_4_code 9 = .ok (.if_icmp .ge (12), 3) := by decide +kernel
theorem zd_IR_get_12 : decode prog_3_method_4_code 12 = .ok (.aload_n 0, 1) := by decide +kernel
theorem zd_IR_get_13 : decode prog_3_method_4_code 13 = .ok (.getfield 15, 3) := by decide +kernel
theorem zd_IR_get_16 : decode prog_3_method_4_code 16 = .ok (.iload_n 1, 1) := by decide +kernel
theorem zd_IR_get_17 : decode prog_3_method_4_code 17 = .ok (.iaload, 1) := by decide +kernel
theorem zd_IR_get_18 : decode prog_3_method_4_code 18 = .ok (.goto (4), 3) := by decide +kernel
theorem zd_IR_get_21 : decode prog_3_method_4_code 21 = .ok (.iconst (-1), 1) := by decide +kernel
theorem zd_IR_get_22 : decode prog_3_method_4_code 22 = .ok (.ireturn, 1) := by decide +kernel
theorem zd_IR_add_0 : decode prog_3_method_3_code 0 = .ok (.aload_n 0, 1) := by decide +kernel
theorem zd_IR_add_1 : decode prog_3_method_3_code 1 = .ok (.getfield 19, 3) := by decide +kernel
theorem zd_IR_add_4 : decode prog_3_method_3_code 4 = .ok (.aload_n 0, 1) := by decide +kernel
theorem zd_IR_add_5 : decode prog_3_method_3_code 5 = .ok (.getfield 9, 3) := by decide +kernel
theorem zd_IR_add_8 : decode prog_3_method_3_code 8 = .ok (.if_icmp .lt (4), 3) := by decide +kernel
theorem zd_IR_add_11 : decode prog_3_method_3_code 11 = .ok (.return_, 1) := by decide +kernel
theorem zd_IR_add_12 : decode prog_3_method_3_code 12 = .ok (.aload_n 0, 1) := by decide +kernel
theorem zd_IR_add_13 : decode prog_3_method_3_code 13 = .ok (.getfield 19, 3) := by decide +kernel
theorem zd_IR_add_16 : decode prog_3_method_3_code 16 = .ok (.aload_n 0, 1) := by decide +kernel
theorem zd_IR_add_17 : decode prog_3_method_3_code 17 = .ok (.getfield 15, 3) := by decide +kernel
theorem zd_IR_add_20 : decode prog_3_method_3_code 20 = .ok (.arraylength, 1) := by decide +kernel
theorem zd_IR_add_21 : decode prog_3_method_3_code 21 = .ok (.if_icmp .lt (21), 3) := by decide +kernel
theorem zd_IR_add_24 : decode prog_3_method_3_code 24 = .ok (.aload_n 0, 1) := by decide +kernel
theorem zd_IR_add_25 : decode prog_3_method_3_code 25 = .ok (.aload_n 0, 1) := by decide +kernel
theorem zd_IR_add_26 : decode prog_3_method_3_code 26 = .ok (.getfield 15, 3) := by decide +kernel
theorem zd_IR_add_29 : decode prog_3_method_3_code 29 = .ok (.iconst 2, 1) := by decide +kernel
theorem zd_IR_add_30 : decode prog_3_method_3_code 30 = .ok (.aload_n 0, 1) := by decide +kernel
theorem zd_IR_add_31 : decode prog_3_method_3_code 31 = .ok (.getfield 15, 3) := by decide +kernel
theorem zd_IR_add_34 : decode prog_3_method_3_code 34 = .ok (.arraylength, 1) := by decide +kernel
theorem zd_IR_add_35 : decode prog_3_method_3_code 35 = .ok (.imul, 1) := by decide +kernel
theorem zd_IR_add_36 : decode prog_3_method_3_code 36 = .ok (.invokestatic 22, 3) := by decide +kernel
theorem zd_IR_add_39 : decode prog_3_method_3_code 39 = .ok (.putfield 15, 3) := by decide +kernel
theorem zd_IR_add_42 : decode prog_3_method_3_code 42 = .ok (.aload_n 0, 1) := by decide +kernel
theorem zd_IR_add_43 : decode prog_3_method_3_code 43 = .ok (.getfield 15, 3) := by decide +kernel
theorem zd_IR_add_46 : decode prog_3_method_3_code 46 = .ok (.aload_n 0, 1) := by decide +kernel
theorem zd_IR_add_47 : decode prog_3_method_3_code 47 = .ok (.getfield 19, 3) := by decide +kernel
theorem zd_IR_add_50 : decode prog_3_method_3_code 50 = .ok (.iload_n 1, 1) := by decide +kernel
theorem zd_IR_add_51 : decode prog_3_method_3_code 51 = .ok (.iastore, 1) := by decide +kernel
theorem zd_IR_add_52 : decode prog_3_method_3_code 52 = .ok (.aload_n 0, 1) := by decide +kernel
theorem zd_IR_add_53 : decode prog_3_method_3_code 53 = .ok (.dup, 1) := by decide +kernel
theorem zd_IR_add_54 : decode prog_3_method_3_code 54 = .ok (.getfield 19, 3) := by decide +kernel
theorem zd_IR_add_57 : decode prog_3_method_3_code 57 = .ok (.iconst 1, 1) := by decide +kernel
theorem zd_IR_add_58 : decode prog_3_method_3_code 58 = .ok (.iadd, 1) := by decide +kernel
theorem zd_IR_add_59 : decode prog_3_method_3_code 59 = .ok (.putfield 19, 3) := by decide +kernel
theorem zd_IR_add_62 : decode prog_3_method_3_code 62 = .ok (.return_, 1) := by decide +kernel
theorem zd_IR_set_0 : decode prog_3_method_5_code 0 = .ok (.iload_n 1, 1) := by decide +kernel
theorem zd_IR_set_1 : decode prog_3_method_5_code 1 = .ok (.ifCond .lt (18), 3) := by decide +kernel
theorem zd_IR_set_4 : decode prog_3_method_5_code 4 = .ok (.iload_n 1, 1) := by decide +kernel
theorem zd_IR_set_5 : decode prog_3_method_5_code 5 = .ok (.aload_n 0, 1) := by decide +kernel
theorem zd_IR_set_6 : decode prog_3_method_5_code 6 = .ok (.getfield 19, 3) := by decide +kernel
theorem zd_IR_set_9 : decode prog_3_method_5_code 9 = .ok (.if_icmp .ge (10), 3) := by decide +kernel
theorem zd_IR_set_12 : decode prog_3_method_5_code 12 = .ok (.aload_n 0, 1) := by decide +kernel
theorem zd_IR_set_13 : decode prog_3_method_5_code 13 = .ok (.getfield 15, 3) := by decide +kernel
theorem zd_IR_set_16 : decode prog_3_method_5_code 16 = .ok (.iload_n 1, 1) := by decide +kernel
theorem zd_IR_set_17 : decode prog_3_method_5_code 17 = .ok (.iload_n 2, 1) := by decide +kernel
theorem zd_IR_set_18 : decode prog_3_method_5_code 18 = .ok (.iastore, 1) := by decide +kernel
theorem zd_IR_set_19 : decode prog_3_method_5_code 19 = .ok (.return_, 1) := by decide +kernel
theorem zd_AR_fill_0 : decode prog_13_method_103_code 0 = .ok (.iconst 0, 1) := by decide +kernel
theorem zd_AR_fill_1 : decode prog_13_method_103_code 1 = .ok (.istore_n 2, 1) := by decide +kernel
theorem zd_AR_fill_2 : decode prog_13_method_103_code 2 = .ok (.aload_n 0, 1) := by decide +kernel
theorem zd_AR_fill_3 : decode prog_13_method_103_code 3 = .ok (.arraylength, 1) := by decide +kernel
theorem zd_AR_fill_4 : decode prog_13_method_103_code 4 = .ok (.istore_n 3, 1) := by decide +kernel
theorem zd_AR_fill_5 : decode prog_13_method_103_code 5 = .ok (.iload_n 2, 1) := by decide +kernel
theorem zd_AR_fill_6 : decode prog_13_method_103_code 6 = .ok (.iload_n 3, 1) := by decide +kernel
theorem zd_AR_fill_7 : decode prog_13_method_103_code 7 = .ok (.if_icmp .ge (13), 3) := by decide +kernel
theorem zd_AR_fill_10 : decode prog_13_method_103_code 10 = .ok (.aload_n 0, 1) := by decide +kernel
theorem zd_AR_fill_11 : decode prog_13_method_103_code 11 = .ok (.iload_n 2, 1) := by decide +kernel
theorem zd_AR_fill_12 : decode prog_13_method_103_code 12 = .ok (.iload_n 1, 1) := by decide +kernel
theorem zd_AR_fill_13 : decode prog_13_method_103_code 13 = .ok (.iastore, 1) := by decide +kernel
theorem zd_AR_fill_14 : decode prog_13_method_103_code 14 = .ok (.iinc 2 (1), 3) := by decide +kernel
theorem zd_AR_fill_17 : decode prog_13_method_103_code 17 = .ok (.goto (-12), 3) := by decide +kernel
theorem zd_AR_fill_20 : decode prog_13_method_103_code 20 = .ok (.return_, 1) := by decide +kernel
theorem zd_AR_copyOfB_0 : decode prog_13_method_121_code 0 = .ok (.iload_n 1, 1) := by decide +kernel
theorem zd_AR_copyOfB_1 : decode prog_13_method_121_code 1 = .ok (.aload_n 0, 1) := by decide +kernel
theorem zd_AR_copyOfB_2 : decode prog_13_method_121_code 2 = .ok (.arraylength, 1) := by decide +kernel
theorem zd_AR_copyOfB_3 : decode prog_13_method_121_code 3 = .ok (.if_icmp .ne (11), 3) := by decide +kernel
theorem zd_AR_copyOfB_6 : decode prog_13_method_121_code 6 = .ok (.aload_n 0, 1) := by decide +kernel
theorem zd_AR_copyOfB_7 : decode prog_13_method_121_code 7 = .ok (.invokevirtual 310, 3) := by decide +kernel
theorem zd_AR_copyOfB_10 : decode prog_13_method_121_code 10 = .ok (.checkcast 311, 3) := by decide +kernel
theorem zd_AR_copyOfB_13 : decode prog_13_method_121_code 13 = .ok (.areturn, 1) := by decide +kernel
theorem zd_AR_copyOfB_14 : decode prog_13_method_121_code 14 = .ok (.iload_n 1, 1) := by decide +kernel
theorem zd_AR_copyOfB_15 : decode prog_13_method_121_code 15 = .ok (.newarray .byte, 2) := by decide +kernel
theorem zd_AR_copyOfB_17 : decode prog_13_method_121_code 17 = .ok (.astore_n 2, 1) := by decide +kernel
theorem zd_AR_copyOfB_18 : decode prog_13_method_121_code 18 = .ok (.aload_n 0, 1) := by decide +kernel
theorem zd_AR_copyOfB_19 : decode prog_13_method_121_code 19 = .ok (.iconst 0, 1) := by decide +kernel
theorem zd_AR_copyOfB_20 : decode prog_13_method_121_code 20 = .ok (.aload_n 2, 1) := by decide +kernel
theorem zd_AR_copyOfB_21 : decode prog_13_method_121_code 21 = .ok (.iconst 0, 1) := by decide +kernel
theorem zd_AR_copyOfB_22 : decode prog_13_method_121_code 22 = .ok (.aload_n 0, 1) := by decide +kernel
theorem zd_AR_copyOfB_23 : decode prog_13_method_121_code 23 = .ok (.arraylength, 1) := by decide +kernel
theorem zd_AR_copyOfB_24 : decode prog_13_method_121_code 24 = .ok (.iload_n 1, 1) := by decide +kernel
theorem zd_AR_copyOfB_25 : decode prog_13_method_121_code 25 = .ok (.invokestatic 304, 3) := by decide +kernel
theorem zd_AR_copyOfB_28 : decode prog_13_method_121_code 28 = .ok (.invokestatic 150, 3) := by decide +kernel
theorem zd_AR_copyOfB_31 : decode prog_13_method_121_code 31 = .ok (.aload_n 2, 1) := by decide +kernel
theorem zd_AR_copyOfB_32 : decode prog_13_method_121_code 32 = .ok (.areturn, 1) := by decide +kernel
theorem zd_AR_copyOfI_0 : decode prog_13_method_123_code 0 = .ok (.iload_n 1, 1) := by decide +kernel
theorem zd_AR_copyOfI_1 : decode prog_13_method_123_code 1 = .ok (.aload_n 0, 1) := by decide +kernel
theorem zd_AR_copyOfI_2 : decode prog_13_method_123_code 2 = .ok (.arraylength, 1) := by decide +kernel
theorem zd_AR_copyOfI_3 : decode prog_13_method_123_code 3 = .ok (.if_icmp .ne (11), 3) := by decide +kernel
theorem zd_AR_copyOfI_6 : decode prog_13_method_123_code 6 = .ok (.aload_n 0, 1) := by decide +kernel
theorem zd_AR_copyOfI_7 : decode prog_13_method_123_code 7 = .ok (.invokevirtual 316, 3) := by decide +kernel
theorem zd_AR_copyOfI_10 : decode prog_13_method_123_code 10 = .ok (.checkcast 317, 3) := by decide +kernel
theorem zd_AR_copyOfI_13 : decode prog_13_method_123_code 13 = .ok (.areturn, 1) := by decide +kernel
theorem zd_AR_copyOfI_14 : decode prog_13_method_123_code 14 = .ok (.iload_n 1, 1) := by decide +kernel
theorem zd_AR_copyOfI_15 : decode prog_13_method_123_code 15 = .ok (.newarray .int, 2) := by decide +kernel
theorem zd_AR_copyOfI_17 : decode prog_13_method_123_code 17 = .ok (.astore_n 2, 1) := by decide +kernel
theorem zd_AR_copyOfI_18 : decode prog_13_method_123_code 18 = .ok (.aload_n 0, 1) := by decide +kernel
theorem zd_AR_copyOfI_19 : decode prog_13_method_123_code 19 = .ok (.iconst 0, 1) := by decide +kernel
theorem zd_AR_copyOfI_20 : decode prog_13_method_123_code 20 = .ok (.aload_n 2, 1) := by decide +kernel
theorem zd_AR_copyOfI_21 : decode prog_13_method_123_code 21 = .ok (.iconst 0, 1) := by decide +kernel
theorem zd_AR_copyOfI_22 : decode prog_13_method_123_code 22 = .ok (.aload_n 0, 1) := by decide +kernel
theorem zd_AR_copyOfI_23 : decode prog_13_method_123_code 23 = .ok (.arraylength, 1) := by decide +kernel
theorem zd_AR_copyOfI_24 : decode prog_13_method_123_code 24 = .ok (.iload_n 1, 1) := by decide +kernel
theorem zd_AR_copyOfI_25 : decode prog_13_method_123_code 25 = .ok (.invokestatic 304, 3) := by decide +kernel
theorem zd_AR_copyOfI_28 : decode prog_13_method_123_code 28 = .ok (.invokestatic 150, 3) := by decide +kernel
theorem zd_AR_copyOfI_31 : decode prog_13_method_123_code 31 = .ok (.aload_n 2, 1) := by decide +kernel
theorem zd_AR_copyOfI_32 : decode prog_13_method_123_code 32 = .ok (.areturn, 1) := by decide +kernel
theorem zd_IG_compare_0 : decode prog_10_method_40_code 0 = .ok (.iload_n 0, 1) := by decide +kernel
theorem zd_IG_compare_1 : decode prog_10_method_40_code 1 = .ok (.iload_n 1, 1) := by decide +kernel
theorem zd_IG_compare_2 : decode prog_10_method_40_code 2 = .ok (.if_icmp .ge (7), 3) := by decide +kernel
theorem zd_IG_compare_5 : decode prog_10_method_40_code 5 = .ok (.iconst (-1), 1) := by decide +kernel
theorem zd_IG_compare_6 : decode prog_10_method_40_code 6 = .ok (.goto (13), 3) := by decide +kernel
theorem zd_IG_compare_9 : decode prog_10_method_40_code 9 = .ok (.iload_n 0, 1) := by decide +kernel
theorem zd_IG_compare_10 : decode prog_10_method_40_code 10 = .ok (.iload_n 1, 1) := by decide +kernel
theorem zd_IG_compare_11 : decode prog_10_method_40_code 11 = .ok (.if_icmp .ne (7), 3) := by decide +kernel
theorem zd_IG_compare_14 : decode prog_10_method_40_code 14 = .ok (.iconst 0, 1) := by decide +kernel
theorem zd_IG_compare_15 : decode prog_10_method_40_code 15 = .ok (.goto (4), 3) := by decide +kernel
theorem zd_IG_compare_18 : decode prog_10_method_40_code 18 = .ok (.iconst 1, 1) := by decide +kernel
theorem zd_IG_compare_19 : decode prog_10_method_40_code 19 = .ok (.ireturn, 1) := by decide +kernel
theorem zd_WL_new_0 : decode prog_6_method_1_code 0 = .ok (.aload_n 0, 1) := by decide +kernel
theorem zd_WL_new_1 : decode prog_6_method_1_code 1 = .ok (.invokespecial 3, 3) := by decide +kernel
theorem zd_WL_new_4 : decode prog_6_method_1_code 4 = .ok (.aload_n 0, 1) := by decide +kernel
theorem zd_WL_new_5 : decode prog_6_method_1_code 5 = .ok (.new 9, 3) := by decide +kernel
theorem zd_WL_new_8 : decode prog_6_method_1_code 8 = .ok (.dup, 1) := by decide +kernel
theorem zd_WL_new_9 : decode prog_6_method_1_code 9 = .ok (.sipush (16384), 3) := by decide +kernel
theorem zd_WL_new_12 : decode prog_6_method_1_code 12 = .ok (.invokespecial 11, 3) := by decide +kernel
theorem zd_WL_new_15 : decode prog_6_method_1_code 15 = .ok (.putfield 14, 3) := by decide +kernel
theorem zd_WL_new_18 : decode prog_6_method_1_code 18 = .ok (.aload_n 0, 1) := by decide +kernel
theorem zd_WL_new_19 : decode prog_6_method_1_code 19 = .ok (.new 9, 3) := by decide +kernel
theorem zd_WL_new_22 : decode prog_6_method_1_code 22 = .ok (.dup, 1) := by decide +kernel
theorem zd_WL_new_23 : decode prog_6_method_1_code 23 = .ok (.sipush (16384), 3) := by decide +kernel
theorem zd_WL_new_26 : decode prog_6_method_1_code 26 = .ok (.invokespecial 11, 3) := by decide +kernel
theorem zd_WL_new_29 : decode prog_6_method_1_code 29 = .ok (.putfield 20, 3) := by decide +kernel
theorem zd_WL_new_32 : decode prog_6_method_1_code 32 = .ok (.aload_n 0, 1) := by decide +kernel
theorem zd_WL_new_33 : decode prog_6_method_1_code 33 = .ok (.new 9, 3) := by decide +kernel
theorem zd_WL_new_36 : decode prog_6_method_1_code 36 = .ok (.dup, 1) := by decide +kernel
theorem zd_WL_new_37 : decode prog_6_method_1_code 37 = .ok (.sipush (16384), 3) := by decide +kernel
theorem zd_WL_new_40 : decode prog_6_method_1_code 40 = .ok (.invokespecial 11, 3) := by decide +kernel
theorem zd_WL_new_43 : decode prog_6_method_1_code 43 = .ok (.putfield 23, 3) := by decide +kernel
theorem zd_WL_new_46 : decode prog_6_method_1_code 46 = .ok (.return_, 1) := by decide +kernel
theorem zd_WL_forget_0 : decode prog_6_method_3_code 0 = .ok (.aload_n 0, 1) := by decide +kernel
theorem zd_WL_forget_1 : decode prog_6_method_3_code 1 = .ok (.getfield 14, 3) := by decide +kernel
theorem zd_WL_forget_4 : decode prog_6_method_3_code 4 = .ok (.iconst 0, 1) := by decide +kernel
theorem zd_WL_forget_5 : decode prog_6_method_3_code 5 = .ok (.invokevirtual 30, 3) := by decide +kernel
theorem zd_WL_forget_8 : decode prog_6_method_3_code 8 = .ok (.aload_n 0, 1) := by decide +kernel
theorem zd_WL_forget_9 : decode prog_6_method_3_code 9 = .ok (.getfield 20, 3) := by decide +kernel
theorem zd_WL_forget_12 : decode prog_6_method_3_code 12 = .ok (.iconst 0, 1) := by decide +kernel
theorem zd_WL_forget_13 : decode prog_6_method_3_code 13 = .ok (.invokevirtual 30, 3) := by decide +kernel
theorem zd_WL_forget_16 : decode prog_6_method_3_code 16 = .ok (.aload_n 0, 1) := by decide +kernel
theorem zd_WL_forget_17 : decode prog_6_method_3_code 17 = .ok (.getfield 23, 3) := by decide +kernel
theorem zd_WL_forget_20 : decode prog_6_method_3_code 20 = .ok (.iconst 0, 1) := by decide +kernel
theorem zd_WL_forget_21 : decode prog_6_method_3_code 21 = .ok (.invokevirtual 30, 3) := by decide +kernel
theorem zd_WL_forget_24 : decode prog_6_method_3_code 24 = .ok (.return_, 1) := by decide +kernel
theorem zd_WL_count_0 : decode prog_6_method_2_code 0 = .ok (.aload_n 0, 1) := by decide +kernel
theorem zd_WL_count_1 : decode prog_6_method_2_code 1 = .ok (.getfield 14, 3) := by decide +kernel
theorem zd_WL_count_4 : decode prog_6_method_2_code 4 = .ok (.invokevirtual 26, 3) := by decide +kernel
theorem zd_WL_count_7 : decode prog_6_method_2_code 7 = .ok (.ireturn, 1) := by decide +kernel
theorem zd_WL_add_0 : decode prog_6_method_4_code 0 = .ok (.aload_n 0, 1) := by decide +kernel
theorem zd_WL_add_1 : decode prog_6_method_4_code 1 = .ok (.getfield 14, 3) := by decide +kernel
theorem zd_WL_add_4 : decode prog_6_method_4_code 4 = .ok (.iload_n 1, 1) := by decide +kernel
theorem zd_WL_add_5 : decode prog_6_method_4_code 5 = .ok (.invokevirtual 33, 3) := by decide +kernel
theorem zd_WL_add_8 : decode prog_6_method_4_code 8 = .ok (.aload_n 0, 1) := by decide +kernel
theorem zd_WL_add_9 : decode prog_6_method_4_code 9 = .ok (.getfield 20, 3) := by decide +kernel
theorem zd_WL_add_12 : decode prog_6_method_4_code 12 = .ok (.iload_n 2, 1) := by decide +kernel
theorem zd_WL_add_13 : decode prog_6_method_4_code 13 = .ok (.invokevirtual 33, 3) := by decide +kernel
theorem zd_WL_add_16 : decode prog_6_method_4_code 16 = .ok (.aload_n 0, 1) := by decide +kernel
theorem zd_WL_add_17 : decode prog_6_method_4_code 17 = .ok (.getfield 23, 3) := by decide +kernel
theorem zd_WL_add_20 : decode prog_6_method_4_code 20 = .ok (.iload_n 3, 1) := by decide +kernel
theorem zd_WL_add_21 : decode prog_6_method_4_code 21 = .ok (.invokevirtual 33, 3) := by decide +kernel
theorem zd_WL_add_24 : decode prog_6_method_4_code 24 = .ok (.return_, 1) := by decide +kernel
theorem zd_WL_setNumber_0 : decode prog_6_method_7_code 0 = .ok (.aload_n 0, 1) := by decide +kernel
theorem zd_WL_setNumber_1 : decode prog_6_method_7_code 1 = .ok (.getfield 20, 3) := by decide +kernel
theorem zd_WL_setNumber_4 : decode prog_6_method_7_code 4 = .ok (.iload_n 1, 1) := by decide +kernel
theorem zd_WL_setNumber_5 : decode prog_6_method_7_code 5 = .ok (.iload_n 2, 1) := by decide +kernel
theorem zd_WL_setNumber_6 : decode prog_6_method_7_code 6 = .ok (.invokevirtual 40, 3) := by decide +kernel
theorem zd_WL_setNumber_9 : decode prog_6_method_7_code 9 = .ok (.return_, 1) := by decide +kernel
theorem zd_WL_kindOf_0 : decode prog_6_method_5_code 0 = .ok (.aload_n 0, 1) := by decide +kernel
theorem zd_WL_kindOf_1 : decode prog_6_method_5_code 1 = .ok (.getfield 14, 3) := by decide +kernel
theorem zd_WL_kindOf_4 : decode prog_6_method_5_code 4 = .ok (.iload_n 1, 1) := by decide +kernel
theorem zd_WL_kindOf_5 : decode prog_6_method_5_code 5 = .ok (.invokevirtual 36, 3) := by decide +kernel
theorem zd_WL_kindOf_8 : decode prog_6_method_5_code 8 = .ok (.ireturn, 1) := by decide +kernel
theorem zd_WL_numberOf_0 : decode prog_6_method_6_code 0 = .ok (.aload_n 0, 1) := by decide +kernel
theorem zd_WL_numberOf_1 : decode prog_6_method_6_code 1 = .ok (.getfield 20, 3) := by decide +kernel
theorem zd_WL_numberOf_4 : decode prog_6_method_6_code 4 = .ok (.iload_n 1, 1) := by decide +kernel
theorem zd_WL_numberOf_5 : decode prog_6_method_6_code 5 = .ok (.invokevirtual 36, 3) := by decide +kernel
theorem zd_WL_numberOf_8 : decode prog_6_method_6_code 8 = .ok (.ireturn, 1) := by decide +kernel
theorem zd_WL_beginOf_0 : decode prog_6_method_8_code 0 = .ok (.aload_n 0, 1) := by decide +kernel
theorem zd_WL_beginOf_1 : decode prog_6_method_8_code 1 = .ok (.getfield 23, 3) := by decide +kernel
theorem zd_WL_beginOf_4 : decode prog_6_method_8_code 4 = .ok (.iload_n 1, 1) := by decide +kernel
theorem zd_WL_beginOf_5 : decode prog_6_method_8_code 5 = .ok (.invokevirtual 36, 3) := by decide +kernel
theorem zd_WL_beginOf_8 : decode prog_6_method_8_code 8 = .ok (.ireturn, 1) := by decide +kernel
theorem zd_TS_new_0 : decode prog_5_method_1_code 0 = .ok (.aload_n 0, 1) := by decide +kernel
theorem zd_TS_new_1 : decode prog_5_method_1_code 1 = .ok (.invokespecial 3, 3) := by decide +kernel
theorem zd_TS_new_4 : decode prog_5_method_1_code 4 = .ok (.aload_n 0, 1) := by decide +kernel
theorem zd_TS_new_5 : decode prog_5_method_1_code 5 = .ok (.new 9, 3) := by decide +kernel
theorem zd_TS_new_8 : decode prog_5_method_1_code 8 = .ok (.dup, 1) := by decide +kernel
theorem zd_TS_new_9 : decode prog_5_method_1_code 9 = .ok (.invokespecial 11, 3) := by decide +kernel
theorem zd_TS_new_12 : decode prog_5_method_1_code 12 = .ok (.putfield 12, 3) := by decide +kernel
theorem zd_TS_new_15 : decode prog_5_method_1_code 15 = .ok (.aload_n 0, 1) := by decide +kernel
theorem zd_TS_new_16 : decode prog_5_method_1_code 16 = .ok (.new 18, 3) := by decide +kernel
theorem zd_TS_new_19 : decode prog_5_method_1_code 19 = .ok (.dup, 1) := by decide +kernel
theorem zd_TS_new_20 : decode prog_5_method_1_code 20 = .ok (.sipush (16384), 3) := by decide +kernel
theorem zd_TS_new_23 : decode prog_5_method_1_code 23 = .ok (.invokespecial 20, 3) := by decide +kernel
theorem zd_TS_new_26 : decode prog_5_method_1_code 26 = .ok (.putfield 23, 3) := by decide +kernel
theorem zd_TS_new_29 : decode prog_5_method_1_code 29 = .ok (.aload_n 0, 1) := by decide +kernel
theorem zd_TS_new_30 : decode prog_5_method_1_code 30 = .ok (.new 18, 3) := by decide +kernel
theorem zd_TS_new_33 : decode prog_5_method_1_code 33 = .ok (.dup, 1) := by decide +kernel
theorem zd_TS_new_34 : decode prog_5_method_1_code 34 = .ok (.sipush (16384), 3) := by decide +kernel
theorem zd_TS_new_37 : decode prog_5_method_1_code 37 = .ok (.invokespecial 20, 3) := by decide +kernel
theorem zd_TS_new_40 : decode prog_5_method_1_code 40 = .ok (.putfield 27, 3) := by decide +kernel
theorem zd_TS_new_43 : decode prog_5_method_1_code 43 = .ok (.aload_n 0, 1) := by decide +kernel
theorem zd_TS_new_44 : decode prog_5_method_1_code 44 = .ok (.new 18, 3) := by decide +kernel
theorem zd_TS_new_47 : decode prog_5_method_1_code 47 = .ok (.dup, 1) := by decide +kernel
theorem zd_TS_new_48 : decode prog_5_method_1_code 48 = .ok (.sipush (16384), 3) := by decide +kernel
theorem zd_TS_new_51 : decode prog_5_method_1_code 51 = .ok (.invokespecial 20, 3) := by decide +kernel
theorem zd_TS_new_54 : decode prog_5_method_1_code 54 = .ok (.putfield 30, 3) := by decide +kernel
theorem zd_TS_new_57 : decode prog_5_method_1_code 57 = .ok (.aload_n 0, 1) := by decide +kernel
theorem zd_TS_new_58 : decode prog_5_method_1_code 58 = .ok (.new 18, 3) := by decide +kernel
theorem zd_TS_new_61 : decode prog_5_method_1_code 61 = .ok (.dup, 1) := by decide +kernel
theorem zd_TS_new_62 : decode prog_5_method_1_code 62 = .ok (.sipush (16384), 3) := by decide +kernel
theorem zd_TS_new_65 : decode prog_5_method_1_code 65 = .ok (.invokespecial 20, 3) := by decide +kernel
theorem zd_TS_new_68 : decode prog_5_method_1_code 68 = .ok (.putfield 33, 3) := by decide +kernel
theorem zd_TS_new_71 : decode prog_5_method_1_code 71 = .ok (.aload_n 0, 1) := by decide +kernel
theorem zd_TS_new_72 : decode prog_5_method_1_code 72 = .ok (.sipush (1024), 3) := by decide +kernel
theorem zd_TS_new_75 : decode prog_5_method_1_code 75 = .ok (.newarray .int, 2) := by decide +kernel
theorem zd_TS_new_77 : decode prog_5_method_1_code 77 = .ok (.putfield 36, 3) := by decide +kernel
theorem zd_TS_new_80 : decode prog_5_method_1_code 80 = .ok (.aload_n 0, 1) := by decide +kernel
theorem zd_TS_new_81 : decode prog_5_method_1_code 81 = .ok (.getfield 36, 3) := by decide +kernel
theorem zd_TS_new_84 : decode prog_5_method_1_code 84 = .ok (.iconst (-1), 1) := by decide +kernel
theorem zd_TS_new_85 : decode prog_5_method_1_code 85 = .ok (.invokestatic 40, 3) := by decide +kernel
theorem zd_TS_new_88 : decode prog_5_method_1_code 88 = .ok (.aload_n 0, 1) := by decide +kernel
theorem zd_TS_new_89 : decode prog_5_method_1_code 89 = .ok (.iconst 0, 1) := by decide +kernel
theorem zd_TS_new_90 : decode prog_5_method_1_code 90 = .ok (.putfield 46, 3) := by decide +kernel
theorem zd_TS_new_93 : decode prog_5_method_1_code 93 = .ok (.return_, 1) := by decide +kernel
theorem zd_TS_forget_0 : decode prog_5_method_5_code 0 = .ok (.iconst 0, 1) := by decide +kernel
theorem zd_TS_forget_1 : decode prog_5_method_5_code 1 = .ok (.istore_n 1, 1) := by decide +kernel
theorem zd_TS_forget_2 : decode prog_5_method_5_code 2 = .ok (.iload_n 1, 1) := by decide +kernel
theorem zd_TS_forget_3 : decode prog_5_method_5_code 3 = .ok (.aload_n 0, 1) := by decide +kernel
theorem zd_TS_forget_4 : decode prog_5_method_5_code 4 = .ok (.invokevirtual 59, 3) := by decide +kernel
theorem zd_TS_forget_7 : decode prog_5_method_5_code 7 = .ok (.if_icmp .ge (26), 3) := by decide +kernel
theorem zd_TS_forget_10 : decode prog_5_method_5_code 10 = .ok (.aload_n 0, 1) := by decide +kernel
theorem zd_TS_forget_11 : decode prog_5_method_5_code 11 = .ok (.getfield 36, 3) := by decide +kernel
theorem zd_TS_forget_14 : decode prog_5_method_5_code 14 = .ok (.aload_n 0, 1) := by decide +kernel
theorem zd_TS_forget_15 : decode prog_5_method_5_code 15 = .ok (.getfield 30, 3) := by decide +kernel
theorem zd_TS_forget_18 : decode prog_5_method_5_code 18 = .ok (.iload_n 1, 1) := by decide +kernel
theorem zd_TS_forget_19 : decode prog_5_method_5_code 19 = .ok (.invokevirtual 54, 3) := by decide +kernel
theorem zd_TS_forget_22 : decode prog_5_method_5_code 22 = .ok (.invokestatic 60, 3) := by decide +kernel
theorem zd_TS_forget_25 : decode prog_5_method_5_code 25 = .ok (.iconst (-1), 1) := by decide +kernel
theorem zd_TS_forget_26 : decode prog_5_method_5_code 26 = .ok (.iastore, 1) := by decide +kernel
theorem zd_TS_forget_27 : decode prog_5_method_5_code 27 = .ok (.iinc 1 (1), 3) := by decide +kernel
theorem zd_TS_forget_30 : decode prog_5_method_5_code 30 = .ok (.goto (-28), 3) := by decide +kernel
theorem zd_TS_forget_33 : decode prog_5_method_5_code 33 = .ok (.aload_n 0, 1) := by decide +kernel
theorem zd_TS_forget_34 : decode prog_5_method_5_code 34 = .ok (.getfield 12, 3) := by decide +kernel
theorem zd_TS_forget_37 : decode prog_5_method_5_code 37 = .ok (.iconst 0, 1) := by decide +kernel
theorem zd_TS_forget_38 : decode prog_5_method_5_code 38 = .ok (.invokevirtual 63, 3) := by decide +kernel
theorem zd_TS_forget_41 : decode prog_5_method_5_code 41 = .ok (.aload_n 0, 1) := by decide +kernel
theorem zd_TS_forget_42 : decode prog_5_method_5_code 42 = .ok (.getfield 23, 3) := by decide +kernel
theorem zd_TS_forget_45 : decode prog_5_method_5_code 45 = .ok (.iconst 0, 1) := by decide +kernel
theorem zd_TS_forget_46 : decode prog_5_method_5_code 46 = .ok (.invokevirtual 66, 3) := by decide +kernel
theorem zd_TS_forget_49 : decode prog_5_method_5_code 49 = .ok (.aload_n 0, 1) := by decide +kernel
theorem zd_TS_forget_50 : decode prog_5_method_5_code 50 = .ok (.getfield 27, 3) := by decide +kernel
theorem zd_TS_forget_53 : decode prog_5_method_5_code 53 = .ok (.iconst 0, 1) := by decide +kernel
theorem zd_TS_forget_54 : decode prog_5_method_5_code 54 = .ok (.invokevirtual 66, 3) := by decide +kernel
theorem zd_TS_forget_57 : decode prog_5_method_5_code 57 = .ok (.aload_n 0, 1) := by decide +kernel
theorem zd_TS_forget_58 : decode prog_5_method_5_code 58 = .ok (.getfield 30, 3) := by decide +kernel
theorem zd_TS_forget_61 : decode prog_5_method_5_code 61 = .ok (.iconst 0, 1) := by decide +kernel
theorem zd_TS_forget_62 : decode prog_5_method_5_code 62 = .ok (.invokevirtual 66, 3) := by decide +kernel
theorem zd_TS_forget_65 : decode prog_5_method_5_code 65 = .ok (.aload_n 0, 1) := by decide +kernel
theorem zd_TS_forget_66 : decode prog_5_method_5_code 66 = .ok (.getfield 33, 3) := by decide +kernel
theorem zd_TS_forget_69 : decode prog_5_method_5_code 69 = .ok (.iconst 0, 1) := by decide +kernel
theorem zd_TS_forget_70 : decode prog_5_method_5_code 70 = .ok (.invokevirtual 66, 3) := by decide +kernel
theorem zd_TS_forget_73 : decode prog_5_method_5_code 73 = .ok (.aload_n 0, 1) := by decide +kernel
theorem zd_TS_forget_74 : decode prog_5_method_5_code 74 = .ok (.iconst 0, 1) := by decide +kernel
theorem zd_TS_forget_75 : decode prog_5_method_5_code 75 = .ok (.putfield 46, 3) := by decide +kernel
theorem zd_TS_forget_78 : decode prog_5_method_5_code 78 = .ok (.return_, 1) := by decide +kernel
theorem zd_TS_count_0 : decode prog_5_method_2_code 0 = .ok (.aload_n 0, 1) := by decide +kernel
theorem zd_TS_count_1 : decode prog_5_method_2_code 1 = .ok (.getfield 23, 3) := by decide +kernel
theorem zd_TS_count_4 : decode prog_5_method_2_code 4 = .ok (.invokevirtual 50, 3) := by decide +kernel
theorem zd_TS_count_7 : decode prog_5_method_2_code 7 = .ok (.ireturn, 1) := by decide +kernel
theorem zd_TS_bucketOf_0 : decode prog_5_method_10_code 0 = .ok (.iload_n 0, 1) := by decide +kernel
theorem zd_TS_bucketOf_1 : decode prog_5_method_10_code 1 = .ok (.iload_n 0, 1) := by decide +kernel
theorem zd_TS_bucketOf_2 : decode prog_5_method_10_code 2 = .ok (.bipush (15), 2) := by decide +kernel
theorem zd_TS_bucketOf_4 : decode prog_5_method_10_code 4 = .ok (.iushr, 1) := by decide +kernel
theorem zd_TS_bucketOf_5 : decode prog_5_method_10_code 5 = .ok (.ixor, 1) := by decide +kernel
theorem zd_TS_bucketOf_6 : decode prog_5_method_10_code 6 = .ok (.sipush (1023), 3) := by decide +kernel
theorem zd_TS_bucketOf_9 : decode prog_5_method_10_code 9 = .ok (.iand, 1) := by decide +kernel
theorem zd_TS_bucketOf_10 : decode prog_5_method_10_code 10 = .ok (.ireturn, 1) := by decide +kernel
theorem zd_TS_put_0 : decode prog_5_method_6_code 0 = .ok (.aload_n 0, 1) := by decide +kernel
theorem zd_TS_put_1 : decode prog_5_method_6_code 1 = .ok (.getfield 12, 3) := by decide +kernel
theorem zd_TS_put_4 : decode prog_5_method_6_code 4 = .ok (.iload_n 1, 1) := by decide +kernel
theorem zd_TS_put_5 : decode prog_5_method_6_code 5 = .ok (.invokevirtual 67, 3) := by decide +kernel
theorem zd_TS_put_8 : decode prog_5_method_6_code 8 = .ok (.return_, 1) := by decide +kernel
theorem zd_TS_keep_0 : decode prog_5_method_7_code 0 = .ok (.aload_n 0, 1) := by decide +kernel
theorem zd_TS_keep_1 : decode prog_5_method_7_code 1 = .ok (.invokevirtual 70, 3) := by decide +kernel
theorem zd_TS_keep_4 : decode prog_5_method_7_code 4 = .ok (.istore_n 1, 1) := by decide +kernel
theorem zd_TS_keep_5 : decode prog_5_method_7_code 5 = .ok (.iload_n 1, 1) := by decide +kernel
theorem zd_TS_keep_6 : decode prog_5_method_7_code 6 = .ok (.invokestatic 60, 3) := by decide +kernel
theorem zd_TS_keep_9 : decode prog_5_method_7_code 9 = .ok (.istore_n 2, 1) := by decide +kernel
theorem zd_TS_keep_10 : decode prog_5_method_7_code 10 = .ok (.aload_n 0, 1) := by decide +kernel
theorem zd_TS_keep_11 : decode prog_5_method_7_code 11 = .ok (.getfield 36, 3) := by decide +kernel
theorem zd_TS_keep_14 : decode prog_5_method_7_code 14 = .ok (.iload_n 2, 1) := by decide +kernel
theorem zd_TS_keep_15 : decode prog_5_method_7_code 15 = .ok (.iaload, 1) := by decide +kernel
theorem zd_TS_keep_16 : decode prog_5_method_7_code 16 = .ok (.istore_n 3, 1) := by decide +kernel
theorem zd_TS_keep_17 : decode prog_5_method_7_code 17 = .ok (.iconst 0, 1) := by decide +kernel
theorem zd_TS_keep_18 : decode prog_5_method_7_code 18 = .ok (.istore 4, 2) := by decide +kernel
theorem zd_TS_keep_20 : decode prog_5_method_7_code 20 = .ok (.iload 4, 2) := by decide +kernel
theorem zd_TS_keep_22 : decode prog_5_method_7_code 22 = .ok (.aload_n 0, 1) := by decide +kernel
theorem zd_TS_keep_23 : decode prog_5_method_7_code 23 = .ok (.invokevirtual 59, 3) := by decide +kernel
theorem zd_TS_keep_26 : decode prog_5_method_7_code 26 = .ok (.if_icmp .ge (56), 3) := by decide +kernel
theorem zd_TS_keep_29 : decode prog_5_method_7_code 29 = .ok (.iload_n 3, 1) := by decide +kernel
theorem zd_TS_keep_30 : decode prog_5_method_7_code 30 = .ok (.iconst (-1), 1) := by decide +kernel
theorem zd_TS_keep_31 : decode prog_5_method_7_code 31 = .ok (.if_icmp .eq (51), 3) := by decide +kernel
theorem zd_TS_keep_34 : decode prog_5_method_7_code 34 = .ok (.aload_n 0, 1) := by decide +kernel
theorem zd_TS_keep_35 : decode prog_5_method_7_code 35 = .ok (.getfield 30, 3) := by decide +kernel
theorem zd_TS_keep_38 : decode prog_5_method_7_code 38 = .ok (.iload_n 3, 1) := by decide +kernel
theorem zd_TS_keep_39 : decode prog_5_method_7_code 39 = .ok (.invokevirtual 54, 3) := by decide +kernel
theorem zd_TS_keep_42 : decode prog_5_method_7_code 42 = .ok (.iload_n 1, 1) := by decide +kernel
theorem zd_TS_keep_43 : decode prog_5_method_7_code 43 = .ok (.if_icmp .ne (24), 3) := by decide +kernel
theorem zd_TS_keep_46 : decode prog_5_method_7_code 46 = .ok (.aload_n 0, 1) := by decide +kernel
theorem zd_TS_keep_47 : decode prog_5_method_7_code 47 = .ok (.iload_n 3, 1) := by decide +kernel
theorem zd_TS_keep_48 : decode prog_5_method_7_code 48 = .ok (.invokevirtual 73, 3) := by decide +kernel
theorem zd_TS_keep_51 : decode prog_5_method_7_code 51 = .ok (.ifCond .eq (16), 3) := by decide +kernel
theorem zd_TS_keep_54 : decode prog_5_method_7_code 54 = .ok (.aload_n 0, 1) := by decide +kernel
theorem zd_TS_keep_55 : decode prog_5_method_7_code 55 = .ok (.getfield 12, 3) := by decide +kernel
theorem zd_TS_keep_58 : decode prog_5_method_7_code 58 = .ok (.aload_n 0, 1) := by decide +kernel
theorem zd_TS_keep_59 : decode prog_5_method_7_code 59 = .ok (.getfield 46, 3) := by decide +kernel
theorem zd_TS_keep_62 : decode prog_5_method_7_code 62 = .ok (.invokevirtual 63, 3) := by decide +kernel
theorem zd_TS_keep_65 : decode prog_5_method_7_code 65 = .ok (.iload_n 3, 1) := by decide +kernel
theorem zd_TS_keep_66 : decode prog_5_method_7_code 66 = .ok (.ireturn, 1) := by decide +kernel
theorem zd_TS_keep_67 : decode prog_5_method_7_code 67 = .ok (.aload_n 0, 1) := by decide +kernel
theorem zd_TS_keep_68 : decode prog_5_method_7_code 68 = .ok (.getfield 33, 3) := by decide +kernel
theorem zd_TS_keep_71 : decode prog_5_method_7_code 71 = .ok (.iload_n 3, 1) := by decide +kernel
theorem zd_TS_keep_72 : decode prog_5_method_7_code 72 = .ok (.invokevirtual 54, 3) := by decide +kernel
theorem zd_TS_keep_75 : decode prog_5_method_7_code 75 = .ok (.istore_n 3, 1) := by decide +kernel
theorem zd_TS_keep_76 : decode prog_5_method_7_code 76 = .ok (.iinc 4 (1), 3) := by decide +kernel
theorem zd_TS_keep_79 : decode prog_5_method_7_code 79 = .ok (.goto (-59), 3) := by decide +kernel
theorem zd_TS_keep_82 : decode prog_5_method_7_code 82 = .ok (.aload_n 0, 1) := by decide +kernel
theorem zd_TS_keep_83 : decode prog_5_method_7_code 83 = .ok (.invokevirtual 59, 3) := by decide +kernel
theorem zd_TS_keep_86 : decode prog_5_method_7_code 86 = .ok (.istore 4, 2) := by decide +kernel
theorem zd_TS_keep_88 : decode prog_5_method_7_code 88 = .ok (.aload_n 0, 1) := by decide +kernel
theorem zd_TS_keep_89 : decode prog_5_method_7_code 89 = .ok (.getfield 23, 3) := by decide +kernel
theorem zd_TS_keep_92 : decode prog_5_method_7_code 92 = .ok (.aload_n 0, 1) := by decide +kernel
theorem zd_TS_keep_93 : decode prog_5_method_7_code 93 = .ok (.getfield 46, 3) := by decide +kernel
theorem zd_TS_keep_96 : decode prog_5_method_7_code 96 = .ok (.invokevirtual 77, 3) := by decide +kernel
theorem zd_TS_keep_99 : decode prog_5_method_7_code 99 = .ok (.aload_n 0, 1) := by decide +kernel
theorem zd_TS_keep_100 : decode prog_5_method_7_code 100 = .ok (.getfield 27, 3) := by decide +kernel
theorem zd_TS_keep_103 : decode prog_5_method_7_code 103 = .ok (.aload_n 0, 1) := by decide +kernel
theorem zd_TS_keep_104 : decode prog_5_method_7_code 104 = .ok (.getfield 12, 3) := by decide +kernel
theorem zd_TS_keep_107 : decode prog_5_method_7_code 107 = .ok (.invokevirtual 78, 3) := by decide +kernel
theorem zd_TS_keep_110 : decode prog_5_method_7_code 110 = .ok (.aload_n 0, 1) := by decide +kernel
theorem zd_TS_keep_111 : decode prog_5_method_7_code 111 = .ok (.getfield 46, 3) := by decide +kernel
theorem zd_TS_keep_114 : decode prog_5_method_7_code 114 = .ok (.isub, 1) := by decide +kernel
theorem zd_TS_keep_115 : decode prog_5_method_7_code 115 = .ok (.invokevirtual 77, 3) := by decide +kernel
theorem zd_TS_keep_118 : decode prog_5_method_7_code 118 = .ok (.aload_n 0, 1) := by decide +kernel
theorem zd_TS_keep_119 : decode prog_5_method_7_code 119 = .ok (.getfield 30, 3) := by decide +kernel
theorem zd_TS_keep_122 : decode prog_5_method_7_code 122 = .ok (.iload_n 1, 1) := by decide +kernel
theorem zd_TS_keep_123 : decode prog_5_method_7_code 123 = .ok (.invokevirtual 77, 3) := by decide +kernel
theorem zd_TS_keep_126 : decode prog_5_method_7_code 126 = .ok (.aload_n 0, 1) := by decide +kernel
theorem zd_TS_keep_127 : decode prog_5_method_7_code 127 = .ok (.getfield 33, 3) := by decide +kernel
theorem zd_TS_keep_130 : decode prog_5_method_7_code 130 = .ok (.aload_n 0, 1) := by decide +kernel
theorem zd_TS_keep_131 : decode prog_5_method_7_code 131 = .ok (.getfield 36, 3) := by decide +kernel
theorem zd_TS_keep_134 : decode prog_5_method_7_code 134 = .ok (.iload_n 2, 1) := by decide +kernel
theorem zd_TS_keep_135 : decode prog_5_method_7_code 135 = .ok (.iaload, 1) := by decide +kernel
theorem zd_TS_keep_136 : decode prog_5_method_7_code 136 = .ok (.invokevirtual 77, 3) := by decide +kernel
theorem zd_TS_keep_139 : decode prog_5_method_7_code 139 = .ok (.aload_n 0, 1) := by decide +kernel
theorem zd_TS_keep_140 : decode prog_5_method_7_code 140 = .ok (.getfield 36, 3) := by decide +kernel
theorem zd_TS_keep_143 : decode prog_5_method_7_code 143 = .ok (.iload_n 2, 1) := by decide +kernel
theorem zd_TS_keep_144 : decode prog_5_method_7_code 144 = .ok (.iload 4, 2) := by decide +kernel
theorem zd_TS_keep_146 : decode prog_5_method_7_code 146 = .ok (.iastore, 1) := by decide +kernel
theorem zd_TS_keep_147 : decode prog_5_method_7_code 147 = .ok (.aload_n 0, 1) := by decide +kernel
theorem zd_TS_keep_148 : decode prog_5_method_7_code 148 = .ok (.aload_n 0, 1) := by decide +kernel
theorem zd_TS_keep_149 : decode prog_5_method_7_code 149 = .ok (.getfield 12, 3) := by decide +kernel
theorem zd_TS_keep_152 : decode prog_5_method_7_code 152 = .ok (.invokevirtual 78, 3) := by decide +kernel
theorem zd_TS_keep_155 : decode prog_5_method_7_code 155 = .ok (.putfield 46, 3) := by decide +kernel
theorem zd_TS_keep_158 : decode prog_5_method_7_code 158 = .ok (.iload 4, 2) := by decide +kernel
theorem zd_TS_keep_160 : decode prog_5_method_7_code 160 = .ok (.ireturn, 1) := by decide +kernel
theorem zd_TS_hashOfNew_0 : decode prog_5_method_8_code 0 = .ok (.iconst 0, 1) := by decide +kernel
theorem zd_TS_hashOfNew_1 : decode prog_5_method_8_code 1 = .ok (.istore_n 1, 1) := by decide +kernel
theorem zd_TS_hashOfNew_2 : decode prog_5_method_8_code 2 = .ok (.aload_n 0, 1) := by decide +kernel
theorem zd_TS_hashOfNew_3 : decode prog_5_method_8_code 3 = .ok (.getfield 46, 3) := by decide +kernel
theorem zd_TS_hashOfNew_6 : decode prog_5_method_8_code 6 = .ok (.istore_n 2, 1) := by decide +kernel
theorem zd_TS_hashOfNew_7 : decode prog_5_method_8_code 7 = .ok (.iload_n 2, 1) := by decide +kernel
theorem zd_TS_hashOfNew_8 : decode prog_5_method_8_code 8 = .ok (.aload_n 0, 1) := by decide +kernel
theorem zd_TS_hashOfNew_9 : decode prog_5_method_8_code 9 = .ok (.getfield 12, 3) := by decide +kernel
theorem zd_TS_hashOfNew_12 : decode prog_5_method_8_code 12 = .ok (.invokevirtual 78, 3) := by decide +kernel
theorem zd_TS_hashOfNew_15 : decode prog_5_method_8_code 15 = .ok (.if_icmp .ge (25), 3) := by decide +kernel
theorem zd_TS_hashOfNew_18 : decode prog_5_method_8_code 18 = .ok (.bipush (31), 2) := by decide +kernel
theorem zd_TS_hashOfNew_20 : decode prog_5_method_8_code 20 = .ok (.iload_n 1, 1) := by decide +kernel
theorem zd_TS_hashOfNew_21 : decode prog_5_method_8_code 21 = .ok (.imul, 1) := by decide +kernel
theorem zd_TS_hashOfNew_22 : decode prog_5_method_8_code 22 = .ok (.aload_n 0, 1) := by decide +kernel
theorem zd_TS_hashOfNew_23 : decode prog_5_method_8_code 23 = .ok (.getfield 12, 3) := by decide +kernel
theorem zd_TS_hashOfNew_26 : decode prog_5_method_8_code 26 = .ok (.iload_n 2, 1) := by decide +kernel
theorem zd_TS_hashOfNew_27 : decode prog_5_method_8_code 27 = .ok (.invokevirtual 58, 3) := by decide +kernel
theorem zd_TS_hashOfNew_30 : decode prog_5_method_8_code 30 = .ok (.iadd, 1) := by decide +kernel
theorem zd_TS_hashOfNew_31 : decode prog_5_method_8_code 31 = .ok (.iconst 1, 1) := by decide +kernel
theorem zd_TS_hashOfNew_32 : decode prog_5_method_8_code 32 = .ok (.iadd, 1) := by decide +kernel
theorem zd_TS_hashOfNew_33 : decode prog_5_method_8_code 33 = .ok (.istore_n 1, 1) := by decide +kernel
theorem zd_TS_hashOfNew_34 : decode prog_5_method_8_code 34 = .ok (.iinc 2 (1), 3) := by decide +kernel
theorem zd_TS_hashOfNew_37 : decode prog_5_method_8_code 37 = .ok (.goto (-30), 3) := by decide +kernel
theorem zd_TS_hashOfNew_40 : decode prog_5_method_8_code 40 = .ok (.iload_n 1, 1) := by decide +kernel
theorem zd_TS_hashOfNew_41 : decode prog_5_method_8_code 41 = .ok (.ireturn, 1) := by decide +kernel
theorem zd_TS_equalsNew_0 : decode prog_5_method_9_code 0 = .ok (.aload_n 0, 1) := by decide +kernel
theorem zd_TS_equalsNew_1 : decode prog_5_method_9_code 1 = .ok (.getfield 27, 3) := by decide +kernel
theorem zd_TS_equalsNew_4 : decode prog_5_method_9_code 4 = .ok (.iload_n 1, 1) := by decide +kernel
theorem zd_TS_equalsNew_5 : decode prog_5_method_9_code 5 = .ok (.invokevirtual 54, 3) := by decide +kernel
theorem zd_TS_equalsNew_8 : decode prog_5_method_9_code 8 = .ok (.istore_n 2, 1) := by decide +kernel
theorem zd_TS_equalsNew_9 : decode prog_5_method_9_code 9 = .ok (.iload_n 2, 1) := by decide +kernel
theorem zd_TS_equalsNew_10 : decode prog_5_method_9_code 10 = .ok (.aload_n 0, 1) := by decide +kernel
theorem zd_TS_equalsNew_11 : decode prog_5_method_9_code 11 = .ok (.getfield 12, 3) := by decide +kernel
theorem zd_TS_equalsNew_14 : decode prog_5_method_9_code 14 = .ok (.invokevirtual 78, 3) := by decide +kernel
theorem zd_TS_equalsNew_17 : decode prog_5_method_9_code 17 = .ok (.aload_n 0, 1) := by decide +kernel
theorem zd_TS_equalsNew_18 : decode prog_5_method_9_code 18 = .ok (.getfield 46, 3) := by decide +kernel
theorem zd_TS_equalsNew_21 : decode prog_5_method_9_code 21 = .ok (.isub, 1) := by decide +kernel
theorem zd_TS_equalsNew_22 : decode prog_5_method_9_code 22 = .ok (.if_icmp .eq (5), 3) := by decide +kernel
theorem zd_TS_equalsNew_25 : decode prog_5_method_9_code 25 = .ok (.iconst 0, 1) := by decide +kernel
theorem zd_TS_equalsNew_26 : decode prog_5_method_9_code 26 = .ok (.ireturn, 1) := by decide +kernel
theorem zd_TS_equalsNew_27 : decode prog_5_method_9_code 27 = .ok (.aload_n 0, 1) := by decide +kernel
theorem zd_TS_equalsNew_28 : decode prog_5_method_9_code 28 = .ok (.getfield 23, 3) := by decide +kernel
theorem zd_TS_equalsNew_31 : decode prog_5_method_9_code 31 = .ok (.iload_n 1, 1) := by decide +kernel
theorem zd_TS_equalsNew_32 : decode prog_5_method_9_code 32 = .ok (.invokevirtual 54, 3) := by decide +kernel
theorem zd_TS_equalsNew_35 : decode prog_5_method_9_code 35 = .ok (.istore_n 3, 1) := by decide +kernel
theorem zd_TS_equalsNew_36 : decode prog_5_method_9_code 36 = .ok (.iconst 0, 1) := by decide +kernel
theorem zd_TS_equalsNew_37 : decode prog_5_method_9_code 37 = .ok (.istore 4, 2) := by decide +kernel
theorem zd_TS_equalsNew_39 : decode prog_5_method_9_code 39 = .ok (.iload 4, 2) := by decide +kernel
theorem zd_TS_equalsNew_41 : decode prog_5_method_9_code 41 = .ok (.iload_n 2, 1) := by decide +kernel
theorem zd_TS_equalsNew_42 : decode prog_5_method_9_code 42 = .ok (.if_icmp .ge (39), 3) := by decide +kernel
theorem zd_TS_equalsNew_45 : decode prog_5_method_9_code 45 = .ok (.aload_n 0, 1) := by decide +kernel
theorem zd_TS_equalsNew_46 : decode prog_5_method_9_code 46 = .ok (.getfield 12, 3) := by decide +kernel
theorem zd_TS_equalsNew_49 : decode prog_5_method_9_code 49 = .ok (.iload_n 3, 1) := by decide +kernel
theorem zd_TS_equalsNew_50 : decode prog_5_method_9_code 50 = .ok (.iload 4, 2) := by decide +kernel
theorem zd_TS_equalsNew_52 : decode prog_5_method_9_code 52 = .ok (.iadd, 1) := by decide +kernel
theorem zd_TS_equalsNew_53 : decode prog_5_method_9_code 53 = .ok (.invokevirtual 58, 3) := by decide +kernel
theorem zd_TS_equalsNew_56 : decode prog_5_method_9_code 56 = .ok (.aload_n 0, 1) := by decide +kernel
theorem zd_TS_equalsNew_57 : decode prog_5_method_9_code 57 = .ok (.getfield 12, 3) := by decide +kernel
theorem zd_TS_equalsNew_60 : decode prog_5_method_9_code 60 = .ok (.aload_n 0, 1) := by decide +kernel
theorem zd_TS_equalsNew_61 : decode prog_5_method_9_code 61 = .ok (.getfield 46, 3) := by decide +kernel
theorem zd_TS_equalsNew_64 : decode prog_5_method_9_code 64 = .ok (.iload 4, 2) := by decide +kernel
theorem zd_TS_equalsNew_66 : decode prog_5_method_9_code 66 = .ok (.iadd, 1) := by decide +kernel
theorem zd_TS_equalsNew_67 : decode prog_5_method_9_code 67 = .ok (.invokevirtual 58, 3) := by decide +kernel
theorem zd_TS_equalsNew_70 : decode prog_5_method_9_code 70 = .ok (.if_icmp .eq (5), 3) := by decide +kernel
theorem zd_TS_equalsNew_73 : decode prog_5_method_9_code 73 = .ok (.iconst 0, 1) := by decide +kernel
theorem zd_TS_equalsNew_74 : decode prog_5_method_9_code 74 = .ok (.ireturn, 1) := by decide +kernel
theorem zd_TS_equalsNew_75 : decode prog_5_method_9_code 75 = .ok (.iinc 4 (1), 3) := by decide +kernel
theorem zd_TS_equalsNew_78 : decode prog_5_method_9_code 78 = .ok (.goto (-39), 3) := by decide +kernel
theorem zd_TS_equalsNew_81 : decode prog_5_method_9_code 81 = .ok (.iconst 1, 1) := by decide +kernel
theorem zd_TS_equalsNew_82 : decode prog_5_method_9_code 82 = .ok (.ireturn, 1) := by decide +kernel
theorem zd_TS_sizeOf_0 : decode prog_5_method_3_code 0 = .ok (.aload_n 0, 1) := by decide +kernel
theorem zd_TS_sizeOf_1 : decode prog_5_method_3_code 1 = .ok (.getfield 27, 3) := by decide +kernel
theorem zd_TS_sizeOf_4 : decode prog_5_method_3_code 4 = .ok (.iload_n 1, 1) := by decide +kernel
theorem zd_TS_sizeOf_5 : decode prog_5_method_3_code 5 = .ok (.invokevirtual 54, 3) := by decide +kernel
theorem zd_TS_sizeOf_8 : decode prog_5_method_3_code 8 = .ok (.ireturn, 1) := by decide +kernel
theorem zd_TS_byteOf_0 : decode prog_5_method_4_code 0 = .ok (.iload_n 2, 1) := by decide +kernel
theorem zd_TS_byteOf_1 : decode prog_5_method_4_code 1 = .ok (.ifCond .lt (15), 3) := by decide +kernel
theorem zd_TS_byteOf_4 : decode prog_5_method_4_code 4 = .ok (.iload_n 2, 1) := by decide +kernel
theorem zd_TS_byteOf_5 : decode prog_5_method_4_code 5 = .ok (.aload_n 0, 1) := by decide +kernel
theorem zd_TS_byteOf_6 : decode prog_5_method_4_code 6 = .ok (.getfield 27, 3) := by decide +kernel
theorem zd_TS_byteOf_9 : decode prog_5_method_4_code 9 = .ok (.iload_n 1, 1) := by decide +kernel
theorem zd_TS_byteOf_10 : decode prog_5_method_4_code 10 = .ok (.invokevirtual 54, 3) := by decide +kernel
theorem zd_TS_byteOf_13 : decode prog_5_method_4_code 13 = .ok (.if_icmp .lt (5), 3) := by decide +kernel
theorem zd_TS_byteOf_16 : decode prog_5_method_4_code 16 = .ok (.iconst (-1), 1) := by decide +kernel
theorem zd_TS_byteOf_17 : decode prog_5_method_4_code 17 = .ok (.ireturn, 1) := by decide +kernel
theorem zd_TS_byteOf_18 : decode prog_5_method_4_code 18 = .ok (.aload_n 0, 1) := by decide +kernel
theorem zd_TS_byteOf_19 : decode prog_5_method_4_code 19 = .ok (.getfield 12, 3) := by decide +kernel
theorem zd_TS_byteOf_22 : decode prog_5_method_4_code 22 = .ok (.aload_n 0, 1) := by decide +kernel
theorem zd_TS_byteOf_23 : decode prog_5_method_4_code 23 = .ok (.getfield 23, 3) := by decide +kernel
theorem zd_TS_byteOf_26 : decode prog_5_method_4_code 26 = .ok (.iload_n 1, 1) := by decide +kernel
theorem zd_TS_byteOf_27 : decode prog_5_method_4_code 27 = .ok (.invokevirtual 54, 3) := by decide +kernel
theorem zd_TS_byteOf_30 : decode prog_5_method_4_code 30 = .ok (.iload_n 2, 1) := by decide +kernel
theorem zd_TS_byteOf_31 : decode prog_5_method_4_code 31 = .ok (.iadd, 1) := by decide +kernel
theorem zd_TS_byteOf_32 : decode prog_5_method_4_code 32 = .ok (.invokevirtual 58, 3) := by decide +kernel
theorem zd_TS_byteOf_35 : decode prog_5_method_4_code 35 = .ok (.ireturn, 1) := by decide +kernel
