theorem d_Md_look_8 : decode prog_13_method_20_code 8 = .ok (.if_icmp .ge (30), 3) := by decide +kernel
theorem d_Md_look_11 : decode prog_13_method_20_code 11 = .ok (.aload_n 0, 1) := by decide +kernel
theorem d_Md_look_12 : decode prog_13_method_20_code 12 = .ok (.getfield 7, 3) := by decide +kernel
theorem d_Md_look_15 : decode prog_13_method_20_code 15 = .ok (.aload_n 0, 1) := by decide +kernel
theorem d_Md_look_16 : decode prog_13_method_20_code 16 = .ok (.getfield 202, 3) := by decide +kernel
theorem d_Md_look_19 : decode prog_13_method_20_code 19 = .ok (.iaload, 1) := by decide +kernel
theorem d_Md_look_20 : decode prog_13_method_20_code 20 = .ok (.bipush (32), 2) := by decide +kernel
theorem d_Md_look_22 : decode prog_13_method_20_code 22 = .ok (.if_icmp .ne (16), 3) := by decide +kernel
theorem d_Md_look_25 : decode prog_13_method_20_code 25 = .ok (.aload_n 0, 1) := by decide +kernel
theorem d_Md_look_26 : decode prog_13_method_20_code 26 = .ok (.aload_n 0, 1) := by decide +kernel
theorem d_Md_look_27 : decode prog_13_method_20_code 27 = .ok (.getfield 202, 3) := by decide +kernel
theorem d_Md_look_30 : decode prog_13_method_20_code 30 = .ok (.iconst (1), 1) := by decide +kernel
theorem d_Md_look_31 : decode prog_13_method_20_code 31 = .ok (.iadd, 1) := by decide +kernel
theorem d_Md_look_32 : decode prog_13_method_20_code 32 = .ok (.putfield 202, 3) := by decide +kernel
theorem d_Md_look_35 : decode prog_13_method_20_code 35 = .ok (.goto (-35), 3) := by decide +kernel
theorem d_Md_look_38 : decode prog_13_method_20_code 38 = .ok (.aload_n 0, 1) := by decide +kernel
theorem d_Md_look_39 : decode prog_13_method_20_code 39 = .ok (.getfield 202, 3) := by decide +kernel
theorem d_Md_look_42 : decode prog_13_method_20_code 42 = .ok (.aload_n 0, 1) := by decide +kernel
theorem d_Md_look_43 : decode prog_13_method_20_code 43 = .ok (.getfield 205, 3) := by decide +kernel
theorem d_Md_look_46 : decode prog_13_method_20_code 46 = .ok (.if_icmp .ge (15), 3) := by decide +kernel
theorem d_Md_look_49 : decode prog_13_method_20_code 49 = .ok (.aload_n 0, 1) := by decide +kernel
theorem d_Md_look_50 : decode prog_13_method_20_code 50 = .ok (.getfield 7, 3) := by decide +kernel
theorem d_Md_look_53 : decode prog_13_method_20_code 53 = .ok (.aload_n 0, 1) := by decide +kernel
theorem d_Md_look_54 : decode prog_13_method_20_code 54 = .ok (.getfield 202, 3) := by decide +kernel
theorem d_Md_look_57 : decode prog_13_method_20_code 57 = .ok (.iaload, 1) := by decide +kernel
theorem d_Md_look_58 : decode prog_13_method_20_code 58 = .ok (.goto (4), 3) := by decide +kernel
theorem d_Md_look_61 : decode prog_13_method_20_code 61 = .ok (.iconst (-1), 1) := by decide +kernel
theorem d_Md_look_62 : decode prog_13_method_20_code 62 = .ok (.ireturn, 1) := by decide +kernel
theorem d_Md_fail_0 : decode prog_13_method_21_code 0 = .ok (.aload_n 0, 1) := by decide +kernel
theorem d_Md_fail_1 : decode prog_13_method_21_code 1 = .ok (.invokevirtual 208, 3) := by decide +kernel
theorem d_Md_fail_4 : decode prog_13_method_21_code 4 = .ok (.pop, 1) := by decide +kernel
theorem d_Md_fail_5 : decode prog_13_method_21_code 5 = .ok (.aload_n 0, 1) := by decide +kernel
theorem d_Md_fail_6 : decode prog_13_method_21_code 6 = .ok (.aload_n 0, 1) := by decide +kernel
theorem d_Md_fail_7 : decode prog_13_method_21_code 7 = .ok (.getfield 212, 3) := by decide +kernel
theorem d_Md_fail_10 : decode prog_13_method_21_code 10 = .ok (.ifCond .ge (10), 3) := by decide +kernel
theorem d_Md_fail_13 : decode prog_13_method_21_code 13 = .ok (.aload_n 0, 1) := by decide +kernel
theorem d_Md_fail_14 : decode prog_13_method_21_code 14 = .ok (.getfield 202, 3) := by decide +kernel
theorem d_Md_fail_17 : decode prog_13_method_21_code 17 = .ok (.goto (7), 3) := by decide +kernel
theorem d_Md_fail_20 : decode prog_13_method_21_code 20 = .ok (.aload_n 0, 1) := by decide +kernel
theorem d_Md_fail_21 : decode prog_13_method_21_code 21 = .ok (.getfield 212, 3) := by decide +kernel
theorem d_Md_fail_24 : decode prog_13_method_21_code 24 = .ok (.putfield 212, 3) := by decide +kernel
theorem d_Md_fail_27 : decode prog_13_method_21_code 27 = .ok (.return_, 1) := by decide +kernel
theorem d_Md_readLetter_0 : decode prog_13_method_25_code 0 = .ok (.aload_n 0, 1) := by decide +kernel
theorem d_Md_readLetter_1 : decode prog_13_method_25_code 1 = .ok (.invokevirtual 208, 3) := by decide +kernel
theorem d_Md_readLetter_4 : decode prog_13_method_25_code 4 = .ok (.istore_n 3, 1) := by decide +kernel
theorem d_Md_readLetter_5 : decode prog_13_method_25_code 5 = .ok (.iload_n 3, 1) := by decide +kernel
theorem d_Md_readLetter_6 : decode prog_13_method_25_code 6 = .ok (.iload_n 1, 1) := by decide +kernel
theorem d_Md_readLetter_7 : decode prog_13_method_25_code 7 = .ok (.iload_n 2, 1) := by decide +kernel
theorem d_Md_readLetter_8 : decode prog_13_method_25_code 8 = .ok (.invokestatic 147, 3) := by decide +kernel
theorem d_Md_readLetter_11 : decode prog_13_method_25_code 11 = .ok (.ifCond .ne (7), 3) := by decide +kernel
theorem d_Md_readLetter_14 : decode prog_13_method_25_code 14 = .ok (.aload_n 0, 1) := by decide +kernel
theorem d_Md_readLetter_15 : decode prog_13_method_25_code 15 = .ok (.invokevirtual 215, 3) := by decide +kernel
theorem d_Md_readLetter_18 : decode prog_13_method_25_code 18 = .ok (.aload_n 0, 1) := by decide +kernel
theorem d_Md_readLetter_19 : decode prog_13_method_25_code 19 = .ok (.aload_n 0, 1) := by decide +kernel
theorem d_Md_readLetter_20 : decode prog_13_method_25_code 20 = .ok (.getfield 202, 3) := by decide +kernel
theorem d_Md_readLetter_23 : decode prog_13_method_25_code 23 = .ok (.iconst (1), 1) := by decide +kernel
theorem d_Md_readLetter_24 : decode prog_13_method_25_code 24 = .ok (.iadd, 1) := by decide +kernel
theorem d_Md_readLetter_25 : decode prog_13_method_25_code 25 = .ok (.putfield 202, 3) := by decide +kernel
theorem d_Md_readLetter_28 : decode prog_13_method_25_code 28 = .ok (.aload_n 0, 1) := by decide +kernel
theorem d_Md_readLetter_29 : decode prog_13_method_25_code 29 = .ok (.getfield 212, 3) := by decide +kernel
theorem d_Md_readLetter_32 : decode prog_13_method_25_code 32 = .ok (.ifCond .ge (9), 3) := by decide +kernel
theorem d_Md_readLetter_35 : decode prog_13_method_25_code 35 = .ok (.iload_n 3, 1) := by decide +kernel
theorem d_Md_readLetter_36 : decode prog_13_method_25_code 36 = .ok (.iload_n 1, 1) := by decide +kernel
theorem d_Md_readLetter_37 : decode prog_13_method_25_code 37 = .ok (.isub, 1) := by decide +kernel
theorem d_Md_readLetter_38 : decode prog_13_method_25_code 38 = .ok (.goto (4), 3) := by decide +kernel
theorem d_Md_readLetter_41 : decode prog_13_method_25_code 41 = .ok (.iconst (0), 1) := by decide +kernel
theorem d_Md_readLetter_42 : decode prog_13_method_25_code 42 = .ok (.ireturn, 1) := by decide +kernel
theorem d_Md_open_0 : decode prog_13_method_23_code 0 = .ok (.aload_n 0, 1) := by decide +kernel
theorem d_Md_open_1 : decode prog_13_method_23_code 1 = .ok (.invokevirtual 208, 3) := by decide +kernel
theorem d_Md_open_4 : decode prog_13_method_23_code 4 = .ok (.iload_n 1, 1) := by decide +kernel
theorem d_Md_open_5 : decode prog_13_method_23_code 5 = .ok (.if_icmp .ne (12), 3) := by decide +kernel
theorem d_Md_open_8 : decode prog_13_method_23_code 8 = .ok (.aload_n 0, 1) := by decide +kernel
theorem d_Md_open_9 : decode prog_13_method_23_code 9 = .ok (.getfield 218, 3) := by decide +kernel
theorem d_Md_open_12 : decode prog_13_method_23_code 12 = .ok (.bipush (8), 2) := by decide +kernel
theorem d_Md_open_14 : decode prog_13_method_23_code 14 = .ok (.if_icmp .ne (7), 3) := by decide +kernel
theorem d_Md_open_17 : decode prog_13_method_23_code 17 = .ok (.aload_n 0, 1) := by decide +kernel
theorem d_Md_open_18 : decode prog_13_method_23_code 18 = .ok (.invokevirtual 215, 3) := by decide +kernel
theorem d_Md_open_21 : decode prog_13_method_23_code 21 = .ok (.aload_n 0, 1) := by decide +kernel
theorem d_Md_open_22 : decode prog_13_method_23_code 22 = .ok (.aload_n 0, 1) := by decide +kernel
theorem d_Md_open_23 : decode prog_13_method_23_code 23 = .ok (.getfield 202, 3) := by decide +kernel
theorem d_Md_open_26 : decode prog_13_method_23_code 26 = .ok (.iconst (1), 1) := by decide +kernel
theorem d_Md_open_27 : decode prog_13_method_23_code 27 = .ok (.iadd, 1) := by decide +kernel
theorem d_Md_open_28 : decode prog_13_method_23_code 28 = .ok (.putfield 202, 3) := by decide +kernel
theorem d_Md_open_31 : decode prog_13_method_23_code 31 = .ok (.aload_n 0, 1) := by decide +kernel
theorem d_Md_open_32 : decode prog_13_method_23_code 32 = .ok (.aload_n 0, 1) := by decide +kernel
theorem d_Md_open_33 : decode prog_13_method_23_code 33 = .ok (.getfield 218, 3) := by decide +kernel
theorem d_Md_open_36 : decode prog_13_method_23_code 36 = .ok (.iconst (1), 1) := by decide +kernel
theorem d_Md_open_37 : decode prog_13_method_23_code 37 = .ok (.iadd, 1) := by decide +kernel
theorem d_Md_open_38 : decode prog_13_method_23_code 38 = .ok (.putfield 218, 3) := by decide +kernel
theorem d_Md_open_41 : decode prog_13_method_23_code 41 = .ok (.return_, 1) := by decide +kernel
theorem d_Md_expect_0 : decode prog_13_method_22_code 0 = .ok (.aload_n 0, 1) := by decide +kernel
theorem d_Md_expect_1 : decode prog_13_method_22_code 1 = .ok (.invokevirtual 208, 3) := by decide +kernel
theorem d_Md_expect_4 : decode prog_13_method_22_code 4 = .ok (.iload_n 1, 1) := by decide +kernel
theorem d_Md_expect_5 : decode prog_13_method_22_code 5 = .ok (.if_icmp .eq (7), 3) := by decide +kernel
theorem d_Md_expect_8 : decode prog_13_method_22_code 8 = .ok (.aload_n 0, 1) := by decide +kernel
theorem d_Md_expect_9 : decode prog_13_method_22_code 9 = .ok (.invokevirtual 215, 3) := by decide +kernel
theorem d_Md_expect_12 : decode prog_13_method_22_code 12 = .ok (.aload_n 0, 1) := by decide +kernel
theorem d_Md_expect_13 : decode prog_13_method_22_code 13 = .ok (.aload_n 0, 1) := by decide +kernel
theorem d_Md_expect_14 : decode prog_13_method_22_code 14 = .ok (.getfield 202, 3) := by decide +kernel
theorem d_Md_expect_17 : decode prog_13_method_22_code 17 = .ok (.iconst (1), 1) := by decide +kernel
theorem d_Md_expect_18 : decode prog_13_method_22_code 18 = .ok (.iadd, 1) := by decide +kernel
theorem d_Md_expect_19 : decode prog_13_method_22_code 19 = .ok (.putfield 202, 3) := by decide +kernel
theorem d_Md_expect_22 : decode prog_13_method_22_code 22 = .ok (.return_, 1) := by decide +kernel
theorem d_Md_close_0 : decode prog_13_method_24_code 0 = .ok (.aload_n 0, 1) := by decide +kernel
theorem d_Md_close_1 : decode prog_13_method_24_code 1 = .ok (.invokevirtual 208, 3) := by decide +kernel
theorem d_Md_close_4 : decode prog_13_method_24_code 4 = .ok (.iload_n 1, 1) := by decide +kernel
theorem d_Md_close_5 : decode prog_13_method_24_code 5 = .ok (.if_icmp .eq (7), 3) := by decide +kernel
theorem d_Md_close_8 : decode prog_13_method_24_code 8 = .ok (.aload_n 0, 1) := by decide +kernel
theorem d_Md_close_9 : decode prog_13_method_24_code 9 = .ok (.invokevirtual 215, 3) := by decide +kernel
theorem d_Md_close_12 : decode prog_13_method_24_code 12 = .ok (.aload_n 0, 1) := by decide +kernel
theorem d_Md_close_13 : decode prog_13_method_24_code 13 = .ok (.aload_n 0, 1) := by decide +kernel
theorem d_Md_close_14 : decode prog_13_method_24_code 14 = .ok (.getfield 202, 3) := by decide +kernel
theorem d_Md_close_17 : decode prog_13_method_24_code 17 = .ok (.iconst (1), 1) := by decide +kernel
theorem d_Md_close_18 : decode prog_13_method_24_code 18 = .ok (.iadd, 1) := by decide +kernel
theorem d_Md_close_19 : decode prog_13_method_24_code 19 = .ok (.putfield 202, 3) := by decide +kernel
theorem d_Md_close_22 : decode prog_13_method_24_code 22 = .ok (.aload_n 0, 1) := by decide +kernel
theorem d_Md_close_23 : decode prog_13_method_24_code 23 = .ok (.aload_n 0, 1) := by decide +kernel
theorem d_Md_close_24 : decode prog_13_method_24_code 24 = .ok (.getfield 218, 3) := by decide +kernel
theorem d_Md_close_27 : decode prog_13_method_24_code 27 = .ok (.iconst (1), 1) := by decide +kernel
theorem d_Md_close_28 : decode prog_13_method_24_code 28 = .ok (.isub, 1) := by decide +kernel
theorem d_Md_close_29 : decode prog_13_method_24_code 29 = .ok (.putfield 218, 3) := by decide +kernel
theorem d_Md_close_32 : decode prog_13_method_24_code 32 = .ok (.return_, 1) := by decide +kernel
theorem d_Md_readType_0 : decode prog_13_method_26_code 0 = .ok (.iconst (0), 1) := by decide +kernel
theorem d_Md_readType_1 : decode prog_13_method_26_code 1 = .ok (.istore_n 2, 1) := by decide +kernel
theorem d_Md_readType_2 : decode prog_13_method_26_code 2 = .ok (.iconst (0), 1) := by decide +kernel
theorem d_Md_readType_3 : decode prog_13_method_26_code 3 = .ok (.istore_n 3, 1) := by decide +kernel
theorem d_Md_readType_4 : decode prog_13_method_26_code 4 = .ok (.iconst (0), 1) := by decide +kernel
theorem d_Md_readType_5 : decode prog_13_method_26_code 5 = .ok (.istore 4, 2) := by decide +kernel
theorem d_Md_readType_7 : decode prog_13_method_26_code 7 = .ok (.aload_n 0, 1) := by decide +kernel
theorem d_Md_readType_8 : decode prog_13_method_26_code 8 = .ok (.getfield 212, 3) := by decide +kernel
theorem d_Md_readType_11 : decode prog_13_method_26_code 11 = .ok (.ifCond .ge (252), 3) := by decide +kernel
theorem d_Md_readType_14 : decode prog_13_method_26_code 14 = .ok (.iload 4, 2) := by decide +kernel
theorem d_Md_readType_16 : decode prog_13_method_26_code 16 = .ok (.ifCond .ne (247), 3) := by decide +kernel
theorem d_Md_readType_19 : decode prog_13_method_26_code 19 = .ok (.iconst (0), 1) := by decide +kernel
theorem d_Md_readType_20 : decode prog_13_method_26_code 20 = .ok (.istore 5, 2) := by decide +kernel
theorem d_Md_readType_22 : decode prog_13_method_26_code 22 = .ok (.aload_n 0, 1) := by decide +kernel
theorem d_Md_readType_23 : decode prog_13_method_26_code 23 = .ok (.invokevirtual 208, 3) := by decide +kernel
theorem d_Md_readType_26 : decode prog_13_method_26_code 26 = .ok (.istore 6, 2) := by decide +kernel
theorem d_Md_readType_28 : decode prog_13_method_26_code 28 = .ok (.iload 6, 2) := by decide +kernel
theorem d_Md_readType_30 : decode prog_13_method_26_code 30 = .ok (.bipush (83), 2) := by decide +kernel
theorem d_Md_readType_32 : decode prog_13_method_26_code 32 = .ok (.bipush (90), 2) := by decide +kernel
theorem d_Md_readType_34 : decode prog_13_method_26_code 34 = .ok (.invokestatic 147, 3) := by decide +kernel
theorem d_Md_readType_37 : decode prog_13_method_26_code 37 = .ok (.ifCond .eq (23), 3) := by decide +kernel
theorem d_Md_readType_40 : decode prog_13_method_26_code 40 = .ok (.iload_n 2, 1) := by decide +kernel
theorem d_Md_readType_41 : decode prog_13_method_26_code 41 = .ok (.ifCond .gt (7), 3) := by decide +kernel
theorem d_Md_readType_44 : decode prog_13_method_26_code 44 = .ok (.iload_n 1, 1) := by decide +kernel
theorem d_Md_readType_45 : decode prog_13_method_26_code 45 = .ok (.ifCond .ne (15), 3) := by decide +kernel
theorem d_Md_readType_48 : decode prog_13_method_26_code 48 = .ok (.aload_n 0, 1) := by decide +kernel
theorem d_Md_readType_49 : decode prog_13_method_26_code 49 = .ok (.bipush (83), 2) := by decide +kernel
theorem d_Md_readType_51 : decode prog_13_method_26_code 51 = .ok (.bipush (90), 2) := by decide +kernel
theorem d_Md_readType_53 : decode prog_13_method_26_code 53 = .ok (.invokevirtual 221, 3) := by decide +kernel
theorem d_Md_readType_56 : decode prog_13_method_26_code 56 = .ok (.istore_n 3, 1) := by decide +kernel
theorem d_Md_readType_57 : decode prog_13_method_26_code 57 = .ok (.goto (87), 3) := by decide +kernel
theorem d_Md_readType_60 : decode prog_13_method_26_code 60 = .ok (.aload_n 0, 1) := by decide +kernel
theorem d_Md_readType_61 : decode prog_13_method_26_code 61 = .ok (.bipush (65), 2) := by decide +kernel
theorem d_Md_readType_63 : decode prog_13_method_26_code 63 = .ok (.bipush (72), 2) := by decide +kernel
theorem d_Md_readType_65 : decode prog_13_method_26_code 65 = .ok (.invokevirtual 221, 3) := by decide +kernel
theorem d_Md_readType_68 : decode prog_13_method_26_code 68 = .ok (.istore 7, 2) := by decide +kernel
theorem d_Md_readType_70 : decode prog_13_method_26_code 70 = .ok (.aload_n 0, 1) := by decide +kernel
theorem d_Md_readType_71 : decode prog_13_method_26_code 71 = .ok (.getfield 212, 3) := by decide +kernel
theorem d_Md_readType_74 : decode prog_13_method_26_code 74 = .ok (.ifCond .ge (16), 3) := by decide +kernel
theorem d_Md_readType_77 : decode prog_13_method_26_code 77 = .ok (.aload_n 0, 1) := by decide +kernel
theorem d_Md_readType_78 : decode prog_13_method_26_code 78 = .ok (.invokevirtual 208, 3) := by decide +kernel
theorem d_Md_readType_81 : decode prog_13_method_26_code 81 = .ok (.bipush (91), 2) := by decide +kernel
theorem d_Md_readType_83 : decode prog_13_method_26_code 83 = .ok (.if_icmp .ne (7), 3) := by decide +kernel
theorem d_Md_readType_86 : decode prog_13_method_26_code 86 = .ok (.iconst (1), 1) := by decide +kernel
theorem d_Md_readType_87 : decode prog_13_method_26_code 87 = .ok (.goto (4), 3) := by decide +kernel
theorem d_Md_readType_90 : decode prog_13_method_26_code 90 = .ok (.iconst (0), 1) := by decide +kernel
theorem d_Md_readType_91 : decode prog_13_method_26_code 91 = .ok (.istore 5, 2) := by decide +kernel
theorem d_Md_readType_93 : decode prog_13_method_26_code 93 = .ok (.iload 5, 2) := by decide +kernel
theorem d_Md_readType_95 : decode prog_13_method_26_code 95 = .ok (.ifCond .eq (29), 3) := by decide +kernel
theorem d_Md_readType_98 : decode prog_13_method_26_code 98 = .ok (.aload_n 0, 1) := by decide +kernel
theorem d_Md_readType_99 : decode prog_13_method_26_code 99 = .ok (.bipush (91), 2) := by decide +kernel
theorem d_Md_readType_101 : decode prog_13_method_26_code 101 = .ok (.invokevirtual 224, 3) := by decide +kernel
theorem d_Md_readType_104 : decode prog_13_method_26_code 104 = .ok (.aload_n 0, 1) := by decide +kernel
theorem d_Md_readType_105 : decode prog_13_method_26_code 105 = .ok (.getfield 25, 3) := by decide +kernel
theorem d_Md_readType_108 : decode prog_13_method_26_code 108 = .ok (.iconst (4), 1) := by decide +kernel
theorem d_Md_readType_109 : decode prog_13_method_26_code 109 = .ok (.iload_n 2, 1) := by decide +kernel
theorem d_Md_readType_110 : decode prog_13_method_26_code 110 = .ok (.imul, 1) := by decide +kernel
theorem d_Md_readType_111 : decode prog_13_method_26_code 111 = .ok (.bipush (100), 2) := by decide +kernel
theorem d_Md_readType_113 : decode prog_13_method_26_code 113 = .ok (.iload 7, 2) := by decide +kernel
theorem d_Md_readType_115 : decode prog_13_method_26_code 115 = .ok (.imul, 1) := by decide +kernel
theorem d_Md_readType_116 : decode prog_13_method_26_code 116 = .ok (.iastore, 1) := by decide +kernel
theorem d_Md_readType_117 : decode prog_13_method_26_code 117 = .ok (.iload_n 2, 1) := by decide +kernel
theorem d_Md_readType_118 : decode prog_13_method_26_code 118 = .ok (.iconst (1), 1) := by decide +kernel
theorem d_Md_readType_119 : decode prog_13_method_26_code 119 = .ok (.iadd, 1) := by decide +kernel
theorem d_Md_readType_120 : decode prog_13_method_26_code 120 = .ok (.istore_n 2, 1) := by decide +kernel
theorem d_Md_readType_121 : decode prog_13_method_26_code 121 = .ok (.goto (23), 3) := by decide +kernel
theorem d_Md_readType_124 : decode prog_13_method_26_code 124 = .ok (.aload_n 0, 1) := by decide +kernel
theorem d_Md_readType_125 : decode prog_13_method_26_code 125 = .ok (.getfield 212, 3) := by decide +kernel
theorem d_Md_readType_128 : decode prog_13_method_26_code 128 = .ok (.ifCond .ge (16), 3) := by decide +kernel
theorem d_Md_readType_131 : decode prog_13_method_26_code 131 = .ok (.aload_n 0, 1) := by decide +kernel
theorem d_Md_readType_132 : decode prog_13_method_26_code 132 = .ok (.bipush (8), 2) := by decide +kernel
theorem d_Md_readType_134 : decode prog_13_method_26_code 134 = .ok (.iload 7, 2) := by decide +kernel
theorem d_Md_readType_136 : decode prog_13_method_26_code 136 = .ok (.iadd, 1) := by decide +kernel
theorem d_Md_readType_137 : decode prog_13_method_26_code 137 = .ok (.iconst (-1), 1) := by decide +kernel
theorem d_Md_readType_138 : decode prog_13_method_26_code 138 = .ok (.iconst (-1), 1) := by decide +kernel
theorem d_Md_readType_139 : decode prog_13_method_26_code 139 = .ok (.iconst (-1), 1) := by decide +kernel
theorem d_Md_readType_144 : decode prog_13_method_26_code 144 = .ok (.iload 5, 2) := by decide +kernel
theorem d_Md_readType_146 : decode prog_13_method_26_code 146 = .ok (.istore 7, 2) := by decide +kernel
theorem d_Md_readType_148 : decode prog_13_method_26_code 148 = .ok (.aload_n 0, 1) := by decide +kernel
theorem d_Md_readType_149 : decode prog_13_method_26_code 149 = .ok (.getfield 212, 3) := by decide +kernel
theorem d_Md_readType_152 : decode prog_13_method_26_code 152 = .ok (.ifCond .ge (92), 3) := by decide +kernel
theorem d_Md_readType_155 : decode prog_13_method_26_code 155 = .ok (.iload 7, 2) := by decide +kernel
theorem d_Md_readType_157 : decode prog_13_method_26_code 157 = .ok (.ifCond .ne (87), 3) := by decide +kernel
theorem d_Md_readType_160 : decode prog_13_method_26_code 160 = .ok (.iload_n 2, 1) := by decide +kernel
theorem d_Md_readType_161 : decode prog_13_method_26_code 161 = .ok (.ifCond .le (83), 3) := by decide +kernel
theorem d_Md_readType_164 : decode prog_13_method_26_code 164 = .ok (.aload_n 0, 1) := by decide +kernel
theorem d_Md_readType_165 : decode prog_13_method_26_code 165 = .ok (.iload_n 2, 1) := by decide +kernel
theorem d_Md_readType_166 : decode prog_13_method_26_code 166 = .ok (.iconst (1), 1) := by decide +kernel
theorem d_Md_readType_167 : decode prog_13_method_26_code 167 = .ok (.isub, 1) := by decide +kernel
theorem d_Md_readType_168 : decode prog_13_method_26_code 168 = .ok (.iload_n 3, 1) := by decide +kernel
theorem d_Md_readType_214 : decode prog_13_method_26_code 214 = .ok (.aload_n 0, 1) := by decide +kernel
theorem d_Md_readType_215 : decode prog_13_method_26_code 215 = .ok (.bipush (93), 2) := by decide +kernel
theorem d_Md_readType_217 : decode prog_13_method_26_code 217 = .ok (.invokevirtual 231, 3) := by decide +kernel
theorem d_Md_readType_220 : decode prog_13_method_26_code 220 = .ok (.iload_n 2, 1) := by decide +kernel
theorem d_Md_readType_221 : decode prog_13_method_26_code 221 = .ok (.iconst (1), 1) := by decide +kernel
theorem d_Md_readType_222 : decode prog_13_method_26_code 222 = .ok (.isub, 1) := by decide +kernel
theorem d_Md_readType_223 : decode prog_13_method_26_code 223 = .ok (.istore_n 2, 1) := by decide +kernel
theorem d_Md_readType_224 : decode prog_13_method_26_code 224 = .ok (.aload_n 0, 1) := by decide +kernel
theorem d_Md_readType_225 : decode prog_13_method_26_code 225 = .ok (.getfield 212, 3) := by decide +kernel
theorem d_Md_readType_228 : decode prog_13_method_26_code 228 = .ok (.ifCond .ge (11), 3) := by decide +kernel
theorem d_Md_readType_231 : decode prog_13_method_26_code 231 = .ok (.aload_n 0, 1) := by decide +kernel
theorem d_Md_readType_232 : decode prog_13_method_26_code 232 = .ok (.iload_n 2, 1) := by decide +kernel
theorem d_Md_readType_239 : decode prog_13_method_26_code 239 = .ok (.iconst (0), 1) := by decide +kernel
theorem d_Md_readType_240 : decode prog_13_method_26_code 240 = .ok (.istore_n 3, 1) := by decide +kernel
theorem d_Md_readType_241 : decode prog_13_method_26_code 241 = .ok (.goto (-93), 3) := by decide +kernel
theorem d_Md_readType_244 : decode prog_13_method_26_code 244 = .ok (.iload 7, 2) := by decide +kernel
theorem d_Md_readType_246 : decode prog_13_method_26_code 246 = .ok (.ifCond .ne (11), 3) := by decide +kernel
theorem d_Md_readType_249 : decode prog_13_method_26_code 249 = .ok (.iload_n 2, 1) := by decide +kernel
theorem d_Md_readType_250 : decode prog_13_method_26_code 250 = .ok (.ifCond .ne (7), 3) := by decide +kernel
theorem d_Md_readType_253 : decode prog_13_method_26_code 253 = .ok (.iconst (1), 1) := by decide +kernel
theorem d_Md_readType_254 : decode prog_13_method_26_code 254 = .ok (.goto (4), 3) := by decide +kernel
theorem d_Md_readType_257 : decode prog_13_method_26_code 257 = .ok (.iconst (0), 1) := by decide +kernel
theorem d_Md_readType_258 : decode prog_13_method_26_code 258 = .ok (.istore 4, 2) := by decide +kernel
theorem d_Md_readType_260 : decode prog_13_method_26_code 260 = .ok (.goto (-253), 3) := by decide +kernel
theorem d_Md_readType_263 : decode prog_13_method_26_code 263 = .ok (.iload_n 3, 1) := by decide +kernel
theorem d_Md_readType_264 : decode prog_13_method_26_code 264 = .ok (.ireturn, 1) := by decide +kernel
theorem d_Md_readBounds_0 : decode prog_13_method_29_code 0 = .ok (.aload_n 0, 1) := by decide +kernel
theorem d_Md_readBounds_1 : decode prog_13_method_29_code 1 = .ok (.invokevirtual 208, 3) := by decide +kernel
theorem d_Md_readBounds_4 : decode prog_13_method_29_code 4 = .ok (.bipush (91), 2) := by decide +kernel
theorem d_Md_readBounds_6 : decode prog_13_method_29_code 6 = .ok (.if_icmp .eq (5), 3) := by decide +kernel
theorem d_Md_readBounds_9 : decode prog_13_method_29_code 9 = .ok (.iconst (0), 1) := by decide +kernel
theorem d_Md_readBounds_10 : decode prog_13_method_29_code 10 = .ok (.ireturn, 1) := by decide +kernel
theorem d_Md_readBounds_11 : decode prog_13_method_29_code 11 = .ok (.aload_n 0, 1) := by decide +kernel
theorem d_Md_readBounds_12 : decode prog_13_method_29_code 12 = .ok (.bipush (91), 2) := by decide +kernel
theorem d_Md_readBounds_14 : decode prog_13_method_29_code 14 = .ok (.invokevirtual 224, 3) := by decide +kernel
theorem d_Md_readBounds_17 : decode prog_13_method_29_code 17 = .ok (.iconst (0), 1) := by decide +kernel
theorem d_Md_readBounds_18 : decode prog_13_method_29_code 18 = .ok (.istore 4, 2) := by decide +kernel
theorem d_Md_readBounds_20 : decode prog_13_method_29_code 20 = .ok (.iconst (1), 1) := by decide +kernel
theorem d_Md_readBounds_21 : decode prog_13_method_29_code 21 = .ok (.istore 5, 2) := by decide +kernel
theorem d_Md_readBounds_23 : decode prog_13_method_29_code 23 = .ok (.iload 5, 2) := by decide +kernel
theorem d_Md_readBounds_25 : decode prog_13_method_29_code 25 = .ok (.ifCond .eq (94), 3) := by decide +kernel
theorem d_Md_readBounds_28 : decode prog_13_method_29_code 28 = .ok (.aload_n 0, 1) := by decide +kernel
theorem d_Md_readBounds_29 : decode prog_13_method_29_code 29 = .ok (.getfield 212, 3) := by decide +kernel
theorem d_Md_readBounds_32 : decode prog_13_method_29_code 32 = .ok (.ifCond .ge (87), 3) := by decide +kernel
theorem d_Md_readBounds_35 : decode prog_13_method_29_code 35 = .ok (.aload_n 1, 1) := by decide +kernel
theorem d_Md_readBounds_36 : decode prog_13_method_29_code 36 = .ok (.iload_n 3, 1) := by decide +kernel
theorem d_Md_readBounds_37 : decode prog_13_method_29_code 37 = .ok (.iload 4, 2) := by decide +kernel
theorem d_Md_readBounds_39 : decode prog_13_method_29_code 39 = .ok (.iadd, 1) := by decide +kernel
theorem d_Md_readBounds_40 : decode prog_13_method_29_code 40 = .ok (.aload_n 0, 1) := by decide +kernel
theorem d_Md_readBounds_41 : decode prog_13_method_29_code 41 = .ok (.bipush (83), 2) := by decide +kernel
theorem d_Md_readBounds_43 : decode prog_13_method_29_code 43 = .ok (.bipush (90), 2) := by decide +kernel
theorem d_Md_readBounds_45 : decode prog_13_method_29_code 45 = .ok (.invokevirtual 221, 3) := by decide +kernel
theorem d_Md_readBounds_48 : decode prog_13_method_29_code 48 = .ok (.iastore, 1) := by decide +kernel
theorem d_Md_readBounds_49 : decode prog_13_method_29_code 49 = .ok (.aload_n 0, 1) := by decide +kernel
theorem d_Md_readBounds_50 : decode prog_13_method_29_code 50 = .ok (.bipush (58), 2) := by decide +kernel
theorem d_Md_readBounds_52 : decode prog_13_method_29_code 52 = .ok (.invokevirtual 237, 3) := by decide +kernel
theorem d_Md_readBounds_55 : decode prog_13_method_29_code 55 = .ok (.aload_n 2, 1) := by decide +kernel
theorem d_Md_readBounds_56 : decode prog_13_method_29_code 56 = .ok (.iload_n 3, 1) := by decide +kernel
theorem d_Md_readBounds_57 : decode prog_13_method_29_code 57 = .ok (.iload 4, 2) := by decide +kernel
theorem d_Md_readBounds_59 : decode prog_13_method_29_code 59 = .ok (.iadd, 1) := by decide +kernel
theorem d_Md_readBounds_60 : decode prog_13_method_29_code 60 = .ok (.aload_n 0, 1) := by decide +kernel
theorem d_Md_readBounds_61 : decode prog_13_method_29_code 61 = .ok (.iconst (1), 1) := by decide +kernel
theorem d_Md_readBounds_62 : decode prog_13_method_29_code 62 = .ok (.invokevirtual 240, 3) := by decide +kernel
theorem d_Md_readBounds_65 : decode prog_13_method_29_code 65 = .ok (.iastore, 1) := by decide +kernel
theorem d_Md_readBounds_66 : decode prog_13_method_29_code 66 = .ok (.iload 4, 2) := by decide +kernel
theorem d_Md_readBounds_68 : decode prog_13_method_29_code 68 = .ok (.iconst (1), 1) := by decide +kernel
theorem d_Md_readBounds_69 : decode prog_13_method_29_code 69 = .ok (.iadd, 1) := by decide +kernel
theorem d_Md_readBounds_70 : decode prog_13_method_29_code 70 = .ok (.istore 4, 2) := by decide +kernel
theorem d_Md_readBounds_72 : decode prog_13_method_29_code 72 = .ok (.aload_n 0, 1) := by decide +kernel
theorem d_Md_readBounds_73 : decode prog_13_method_29_code 73 = .ok (.invokevirtual 208, 3) := by decide +kernel
theorem d_Md_readBounds_76 : decode prog_13_method_29_code 76 = .ok (.bipush (44), 2) := by decide +kernel
theorem d_Md_readBounds_78 : decode prog_13_method_29_code 78 = .ok (.if_icmp .ne (13), 3) := by decide +kernel
theorem d_Md_readBounds_81 : decode prog_13_method_29_code 81 = .ok (.iload 4, 2) := by decide +kernel
theorem d_Md_readBounds_83 : decode prog_13_method_29_code 83 = .ok (.iconst (3), 1) := by decide +kernel
theorem d_Md_readBounds_84 : decode prog_13_method_29_code 84 = .ok (.if_icmp .ge (7), 3) := by decide +kernel
theorem d_Md_readBounds_87 : decode prog_13_method_29_code 87 = .ok (.iconst (1), 1) := by decide +kernel
theorem d_Md_readBounds_88 : decode prog_13_method_29_code 88 = .ok (.goto (4), 3) := by decide +kernel
theorem d_Md_readBounds_91 : decode prog_13_method_29_code 91 = .ok (.iconst (0), 1) := by decide +kernel
theorem d_Md_readBounds_92 : decode prog_13_method_29_code 92 = .ok (.istore 5, 2) := by decide +kernel
theorem d_Md_readBounds_94 : decode prog_13_method_29_code 94 = .ok (.aload_n 0, 1) := by decide +kernel
theorem d_Md_readBounds_95 : decode prog_13_method_29_code 95 = .ok (.iload 5, 2) := by decide +kernel
theorem d_Md_readBounds_97 : decode prog_13_method_29_code 97 = .ok (.ifCond .eq (12), 3) := by decide +kernel
theorem d_Md_readBounds_100 : decode prog_13_method_29_code 100 = .ok (.aload_n 0, 1) := by decide +kernel
theorem d_Md_readBounds_101 : decode prog_13_method_29_code 101 = .ok (.getfield 202, 3) := by decide +kernel
theorem d_Md_readBounds_104 : decode prog_13_method_29_code 104 = .ok (.iconst (1), 1) := by decide +kernel
theorem d_Md_readBounds_105 : decode prog_13_method_29_code 105 = .ok (.iadd, 1) := by decide +kernel
theorem d_Md_readBounds_106 : decode prog_13_method_29_code 106 = .ok (.goto (7), 3) := by decide +kernel
theorem d_Md_readBounds_109 : decode prog_13_method_29_code 109 = .ok (.aload_n 0, 1) := by decide +kernel
