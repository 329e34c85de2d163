theorem d_Reader_readBounds_42 : decode prog_9_method_13_code 42 = .ok (.istore 4, 2) := by decide +kernel
theorem d_Reader_readBounds_44 : decode prog_9_method_13_code 44 = .ok (.aload_n 0, 1) := by decide +kernel
theorem d_Reader_readBounds_45 : decode prog_9_method_13_code 45 = .ok (.bipush (58), 2) := by decide +kernel
theorem d_Reader_readBounds_47 : decode prog_9_method_13_code 47 = .ok (.invokevirtual 48, 3) := by decide +kernel
theorem d_Reader_readBounds_50 : decode prog_9_method_13_code 50 = .ok (.aload_n 1, 1) := by decide +kernel
theorem d_Reader_readBounds_51 : decode prog_9_method_13_code 51 = .ok (.iload 4, 2) := by decide +kernel
theorem d_Reader_readBounds_53 : decode prog_9_method_13_code 53 = .ok (.aload_n 0, 1) := by decide +kernel
theorem d_Reader_readBounds_54 : decode prog_9_method_13_code 54 = .ok (.iconst (0), 1) := by decide +kernel
theorem d_Reader_readBounds_55 : decode prog_9_method_13_code 55 = .ok (.invokevirtual 52, 3) := by decide +kernel
theorem d_Reader_readBounds_84 : decode prog_9_method_13_code 84 = .ok (.aload_n 0, 1) := by decide +kernel
theorem d_Reader_readBounds_85 : decode prog_9_method_13_code 85 = .ok (.bipush (93), 2) := by decide +kernel
theorem d_Reader_readBounds_87 : decode prog_9_method_13_code 87 = .ok (.invokevirtual 88, 3) := by decide +kernel
theorem d_Reader_readBounds_90 : decode prog_9_method_13_code 90 = .ok (.return_, 1) := by decide +kernel
theorem d_Types_classOf_0 : decode prog_11_method_5_code 0 = .ok (.iload_n 1, 1) := by decide +kernel
theorem d_Types_classOf_1 : decode prog_11_method_5_code 1 = .ok (.ifCond .lt (20), 3) := by decide +kernel
theorem d_Types_classOf_4 : decode prog_11_method_5_code 4 = .ok (.iload_n 1, 1) := by decide +kernel
theorem d_Types_classOf_5 : decode prog_11_method_5_code 5 = .ok (.aload_n 0, 1) := by decide +kernel
theorem d_Types_classOf_6 : decode prog_11_method_5_code 6 = .ok (.getfield 30, 3) := by decide +kernel
theorem d_Types_classOf_9 : decode prog_11_method_5_code 9 = .ok (.if_icmp .ge (12), 3) := by decide +kernel
theorem d_Types_classOf_12 : decode prog_11_method_5_code 12 = .ok (.aload_n 0, 1) := by decide +kernel
theorem d_Types_classOf_13 : decode prog_11_method_5_code 13 = .ok (.getfield 11, 3) := by decide +kernel
theorem d_Types_classOf_16 : decode prog_11_method_5_code 16 = .ok (.iload_n 1, 1) := by decide +kernel
theorem d_Types_classOf_17 : decode prog_11_method_5_code 17 = .ok (.iaload, 1) := by decide +kernel
theorem d_Types_classOf_18 : decode prog_11_method_5_code 18 = .ok (.goto (4), 3) := by decide +kernel
theorem d_Types_classOf_21 : decode prog_11_method_5_code 21 = .ok (.iconst (-1), 1) := by decide +kernel
theorem d_Types_classOf_22 : decode prog_11_method_5_code 22 = .ok (.ireturn, 1) := by decide +kernel
theorem d_Reader_takeEnd_0 : decode prog_9_method_7_code 0 = .ok (.aload_n 0, 1) := by decide +kernel
theorem d_Reader_takeEnd_1 : decode prog_9_method_7_code 1 = .ok (.getfield 9, 3) := by decide +kernel
theorem d_Reader_takeEnd_4 : decode prog_9_method_7_code 4 = .ok (.aload_n 0, 1) := by decide +kernel
theorem d_Reader_takeEnd_5 : decode prog_9_method_7_code 5 = .ok (.getfield 70, 3) := by decide +kernel
theorem d_Reader_takeEnd_8 : decode prog_9_method_7_code 8 = .ok (.caload, 1) := by decide +kernel
theorem d_Reader_takeEnd_9 : decode prog_9_method_7_code 9 = .ok (.ifCond .eq (13), 3) := by decide +kernel
theorem d_Reader_takeEnd_12 : decode prog_9_method_7_code 12 = .ok (.aload_n 0, 1) := by decide +kernel
theorem d_Reader_takeEnd_13 : decode prog_9_method_7_code 13 = .ok (.getfield 9, 3) := by decide +kernel
theorem d_Reader_takeEnd_16 : decode prog_9_method_7_code 16 = .ok (.aload_n 0, 1) := by decide +kernel
theorem d_Reader_takeEnd_17 : decode prog_9_method_7_code 17 = .ok (.getfield 70, 3) := by decide +kernel
theorem d_Reader_takeEnd_20 : decode prog_9_method_7_code 20 = .ok (.iconst (1), 1) := by decide +kernel
theorem d_Reader_takeEnd_21 : decode prog_9_method_7_code 21 = .ok (.castore, 1) := by decide +kernel
theorem d_Reader_takeEnd_22 : decode prog_9_method_7_code 22 = .ok (.return_, 1) := by decide +kernel
theorem d_Reader_readDeclaration_0 : decode prog_9_method_2_code 0 = .ok (.aload_n 0, 1) := by decide +kernel
theorem d_Reader_readDeclaration_1 : decode prog_9_method_2_code 1 = .ok (.iload_n 1, 1) := by decide +kernel
theorem d_Reader_readDeclaration_2 : decode prog_9_method_2_code 2 = .ok (.invokevirtual 33, 3) := by decide +kernel
theorem d_Reader_readDeclaration_5 : decode prog_9_method_2_code 5 = .ok (.aload_n 0, 1) := by decide +kernel
theorem d_Reader_readDeclaration_6 : decode prog_9_method_2_code 6 = .ok (.bipush (65), 2) := by decide +kernel
theorem d_Reader_readDeclaration_8 : decode prog_9_method_2_code 8 = .ok (.bipush (72), 2) := by decide +kernel
theorem d_Reader_readDeclaration_10 : decode prog_9_method_2_code 10 = .ok (.invokevirtual 37, 3) := by decide +kernel
theorem d_Reader_readDeclaration_13 : decode prog_9_method_2_code 13 = .ok (.istore_n 2, 1) := by decide +kernel
theorem d_Reader_readDeclaration_14 : decode prog_9_method_2_code 14 = .ok (.new 41, 3) := by decide +kernel
theorem d_Reader_readDeclaration_17 : decode prog_9_method_2_code 17 = .ok (.dup, 1) := by decide +kernel
theorem d_Reader_readDeclaration_18 : decode prog_9_method_2_code 18 = .ok (.invokespecial 43, 3) := by decide +kernel
theorem d_Reader_readDeclaration_21 : decode prog_9_method_2_code 21 = .ok (.astore_n 3, 1) := by decide +kernel
theorem d_Reader_readDeclaration_22 : decode prog_9_method_2_code 22 = .ok (.aload_n 0, 1) := by decide +kernel
theorem d_Reader_readDeclaration_23 : decode prog_9_method_2_code 23 = .ok (.aload_n 3, 1) := by decide +kernel
theorem d_Reader_readDeclaration_24 : decode prog_9_method_2_code 24 = .ok (.invokevirtual 44, 3) := by decide +kernel
theorem d_Reader_readDeclaration_27 : decode prog_9_method_2_code 27 = .ok (.aload_n 0, 1) := by decide +kernel
theorem d_Reader_readDeclaration_28 : decode prog_9_method_2_code 28 = .ok (.bipush (58), 2) := by decide +kernel
theorem d_Reader_readDeclaration_30 : decode prog_9_method_2_code 30 = .ok (.invokevirtual 48, 3) := by decide +kernel
theorem d_Reader_readDeclaration_33 : decode prog_9_method_2_code 33 = .ok (.aload_n 0, 1) := by decide +kernel
theorem d_Reader_readDeclaration_34 : decode prog_9_method_2_code 34 = .ok (.iconst (0), 1) := by decide +kernel
theorem d_Reader_readDeclaration_35 : decode prog_9_method_2_code 35 = .ok (.invokevirtual 52, 3) := by decide +kernel
theorem d_Reader_readDeclaration_38 : decode prog_9_method_2_code 38 = .ok (.istore 4, 2) := by decide +kernel
theorem d_Reader_readDeclaration_40 : decode prog_9_method_2_code 40 = .ok (.new 56, 3) := by decide +kernel
theorem d_Reader_readDeclaration_43 : decode prog_9_method_2_code 43 = .ok (.dup, 1) := by decide +kernel
theorem d_Reader_readDeclaration_44 : decode prog_9_method_2_code 44 = .ok (.iload_n 2, 1) := by decide +kernel
theorem d_Reader_readDeclaration_45 : decode prog_9_method_2_code 45 = .ok (.aload_n 3, 1) := by decide +kernel
theorem d_Reader_readDeclaration_46 : decode prog_9_method_2_code 46 = .ok (.iload 4, 2) := by decide +kernel
theorem d_Reader_readDeclaration_48 : decode prog_9_method_2_code 48 = .ok (.aload_n 0, 1) := by decide +kernel
theorem d_Reader_readDeclaration_49 : decode prog_9_method_2_code 49 = .ok (.getfield 25, 3) := by decide +kernel
theorem d_Reader_readDeclaration_52 : decode prog_9_method_2_code 52 = .ok (.iload 4, 2) := by decide +kernel
theorem d_Reader_readDeclaration_54 : decode prog_9_method_2_code 54 = .ok (.invokevirtual 58, 3) := by decide +kernel
theorem d_Reader_readDeclaration_57 : decode prog_9_method_2_code 57 = .ok (.invokespecial 64, 3) := by decide +kernel
theorem d_Reader_readDeclaration_60 : decode prog_9_method_2_code 60 = .ok (.astore 5, 2) := by decide +kernel
theorem d_Reader_readDeclaration_62 : decode prog_9_method_2_code 62 = .ok (.aload_n 0, 1) := by decide +kernel
theorem d_Reader_readDeclaration_63 : decode prog_9_method_2_code 63 = .ok (.bipush (123), 2) := by decide +kernel
theorem d_Reader_readDeclaration_65 : decode prog_9_method_2_code 65 = .ok (.invokevirtual 67, 3) := by decide +kernel
theorem d_Reader_readDeclaration_68 : decode prog_9_method_2_code 68 = .ok (.iconst (0), 1) := by decide +kernel
theorem d_Reader_readDeclaration_69 : decode prog_9_method_2_code 69 = .ok (.istore 6, 2) := by decide +kernel
theorem d_Reader_readDeclaration_71 : decode prog_9_method_2_code 71 = .ok (.iload 6, 2) := by decide +kernel
theorem d_Reader_readDeclaration_73 : decode prog_9_method_2_code 73 = .ok (.sipush (140), 3) := by decide +kernel
theorem d_Reader_readDeclaration_76 : decode prog_9_method_2_code 76 = .ok (.if_icmp .ge (49), 3) := by decide +kernel
theorem d_Reader_readDeclaration_79 : decode prog_9_method_2_code 79 = .ok (.aload_n 0, 1) := by decide +kernel
theorem d_Reader_readDeclaration_80 : decode prog_9_method_2_code 80 = .ok (.getfield 9, 3) := by decide +kernel
theorem d_Reader_readDeclaration_83 : decode prog_9_method_2_code 83 = .ok (.aload_n 0, 1) := by decide +kernel
theorem d_Reader_readDeclaration_84 : decode prog_9_method_2_code 84 = .ok (.getfield 70, 3) := by decide +kernel
theorem d_Reader_readDeclaration_87 : decode prog_9_method_2_code 87 = .ok (.caload, 1) := by decide +kernel
theorem d_Reader_readDeclaration_88 : decode prog_9_method_2_code 88 = .ok (.bipush (125), 2) := by decide +kernel
theorem d_Reader_readDeclaration_90 : decode prog_9_method_2_code 90 = .ok (.if_icmp .eq (35), 3) := by decide +kernel
theorem d_Reader_readDeclaration_93 : decode prog_9_method_2_code 93 = .ok (.aload_n 0, 1) := by decide +kernel
theorem d_Reader_readDeclaration_94 : decode prog_9_method_2_code 94 = .ok (.getfield 9, 3) := by decide +kernel
theorem d_Reader_readDeclaration_97 : decode prog_9_method_2_code 97 = .ok (.aload_n 0, 1) := by decide +kernel
theorem d_Reader_readDeclaration_98 : decode prog_9_method_2_code 98 = .ok (.getfield 70, 3) := by decide +kernel
theorem d_Reader_readDeclaration_101 : decode prog_9_method_2_code 101 = .ok (.caload, 1) := by decide +kernel
theorem d_Reader_readDeclaration_102 : decode prog_9_method_2_code 102 = .ok (.iconst (1), 1) := by decide +kernel
theorem d_Reader_readDeclaration_103 : decode prog_9_method_2_code 103 = .ok (.if_icmp .eq (22), 3) := by decide +kernel
theorem d_Reader_readDeclaration_106 : decode prog_9_method_2_code 106 = .ok (.aload 5, 2) := by decide +kernel
theorem d_Reader_readDeclaration_108 : decode prog_9_method_2_code 108 = .ok (.getfield 74, 3) := by decide +kernel
theorem d_Reader_readDeclaration_111 : decode prog_9_method_2_code 111 = .ok (.aload_n 0, 1) := by decide +kernel
theorem d_Reader_readDeclaration_125 : decode prog_9_method_2_code 125 = .ok (.aload_n 0, 1) := by decide +kernel
theorem d_Reader_readDeclaration_126 : decode prog_9_method_2_code 126 = .ok (.bipush (125), 2) := by decide +kernel
theorem d_Reader_readDeclaration_128 : decode prog_9_method_2_code 128 = .ok (.invokevirtual 88, 3) := by decide +kernel
theorem d_Reader_readDeclaration_131 : decode prog_9_method_2_code 131 = .ok (.aload_n 0, 1) := by decide +kernel
theorem d_Reader_readDeclaration_132 : decode prog_9_method_2_code 132 = .ok (.invokevirtual 91, 3) := by decide +kernel
theorem d_Reader_readDeclaration_135 : decode prog_9_method_2_code 135 = .ok (.aload 5, 2) := by decide +kernel
theorem d_Reader_readDeclaration_137 : decode prog_9_method_2_code 137 = .ok (.areturn, 1) := by decide +kernel
theorem d_Reader_answerIfFaulty_0 : decode prog_9_method_4_code 0 = .ok (.aload_n 0, 1) := by decide +kernel
theorem d_Reader_answerIfFaulty_1 : decode prog_9_method_4_code 1 = .ok (.getfield 9, 3) := by decide +kernel
theorem d_Reader_answerIfFaulty_4 : decode prog_9_method_4_code 4 = .ok (.aload_n 0, 1) := by decide +kernel
theorem d_Reader_answerIfFaulty_5 : decode prog_9_method_4_code 5 = .ok (.getfield 70, 3) := by decide +kernel
theorem d_Reader_answerIfFaulty_8 : decode prog_9_method_4_code 8 = .ok (.caload, 1) := by decide +kernel
theorem d_Reader_answerIfFaulty_9 : decode prog_9_method_4_code 9 = .ok (.iconst (1), 1) := by decide +kernel
theorem d_Reader_answerIfFaulty_10 : decode prog_9_method_4_code 10 = .ok (.if_icmp .ne (17), 3) := by decide +kernel
theorem d_Reader_answerIfFaulty_13 : decode prog_9_method_4_code 13 = .ok (.iconst (-1), 1) := by decide +kernel
theorem d_Reader_answerIfFaulty_14 : decode prog_9_method_4_code 14 = .ok (.aload_n 0, 1) := by decide +kernel
theorem d_Reader_answerIfFaulty_15 : decode prog_9_method_4_code 15 = .ok (.getfield 15, 3) := by decide +kernel
theorem d_Reader_answerIfFaulty_18 : decode prog_9_method_4_code 18 = .ok (.aload_n 0, 1) := by decide +kernel
theorem d_Reader_answerIfFaulty_19 : decode prog_9_method_4_code 19 = .ok (.getfield 70, 3) := by decide +kernel
theorem d_Reader_answerIfFaulty_22 : decode prog_9_method_4_code 22 = .ok (.iaload, 1) := by decide +kernel
theorem d_Reader_answerIfFaulty_23 : decode prog_9_method_4_code 23 = .ok (.isub, 1) := by decide +kernel
theorem d_Reader_answerIfFaulty_24 : decode prog_9_method_4_code 24 = .ok (.goto (4), 3) := by decide +kernel
theorem d_Reader_answerIfFaulty_27 : decode prog_9_method_4_code 27 = .ok (.iconst (0), 1) := by decide +kernel
theorem d_Reader_answerIfFaulty_28 : decode prog_9_method_4_code 28 = .ok (.ireturn, 1) := by decide +kernel
theorem d_Rules_entryNamed_0 : decode prog_10_method_2_code 0 = .ok (.iload_n 1, 1) := by decide +kernel
theorem d_Rules_entryNamed_1 : decode prog_10_method_2_code 1 = .ok (.ifCond .lt (18), 3) := by decide +kernel
theorem d_Rules_entryNamed_4 : decode prog_10_method_2_code 4 = .ok (.iload_n 1, 1) := by decide +kernel
theorem d_Rules_entryNamed_5 : decode prog_10_method_2_code 5 = .ok (.bipush (8), 2) := by decide +kernel
theorem d_Rules_entryNamed_7 : decode prog_10_method_2_code 7 = .ok (.if_icmp .ge (12), 3) := by decide +kernel
theorem d_Rules_entryNamed_10 : decode prog_10_method_2_code 10 = .ok (.aload_n 0, 1) := by decide +kernel
theorem d_Rules_entryNamed_11 : decode prog_10_method_2_code 11 = .ok (.getfield 11, 3) := by decide +kernel
theorem d_Rules_entryNamed_14 : decode prog_10_method_2_code 14 = .ok (.iload_n 1, 1) := by decide +kernel
theorem d_Rules_entryNamed_15 : decode prog_10_method_2_code 15 = .ok (.aaload, 1) := by decide +kernel
theorem d_Rules_entryNamed_16 : decode prog_10_method_2_code 16 = .ok (.goto (4), 3) := by decide +kernel
theorem d_Rules_entryNamed_19 : decode prog_10_method_2_code 19 = .ok (.aconst_null, 1) := by decide +kernel
theorem d_Rules_entryNamed_20 : decode prog_10_method_2_code 20 = .ok (.areturn, 1) := by decide +kernel
theorem d_Rules_remove_0 : decode prog_10_method_5_code 0 = .ok (.aload_n 0, 1) := by decide +kernel
theorem d_Rules_remove_1 : decode prog_10_method_5_code 1 = .ok (.aload_n 1, 1) := by decide +kernel
theorem d_Rules_remove_2 : decode prog_10_method_5_code 2 = .ok (.getfield 50, 3) := by decide +kernel
theorem d_Rules_remove_5 : decode prog_10_method_5_code 5 = .ok (.invokevirtual 46, 3) := by decide +kernel
theorem d_Rules_remove_8 : decode prog_10_method_5_code 8 = .ok (.aload_n 1, 1) := by decide +kernel
theorem d_Rules_remove_9 : decode prog_10_method_5_code 9 = .ok (.if_acmp .ne (13), 3) := by decide +kernel
theorem d_Rules_remove_12 : decode prog_10_method_5_code 12 = .ok (.aload_n 0, 1) := by decide +kernel
theorem d_Rules_remove_13 : decode prog_10_method_5_code 13 = .ok (.getfield 11, 3) := by decide +kernel
theorem d_Rules_remove_16 : decode prog_10_method_5_code 16 = .ok (.aload_n 1, 1) := by decide +kernel
theorem d_Rules_remove_17 : decode prog_10_method_5_code 17 = .ok (.getfield 50, 3) := by decide +kernel
theorem d_Rules_remove_20 : decode prog_10_method_5_code 20 = .ok (.aconst_null, 1) := by decide +kernel
theorem d_Rules_remove_21 : decode prog_10_method_5_code 21 = .ok (.aastore, 1) := by decide +kernel
theorem d_Rules_remove_22 : decode prog_10_method_5_code 22 = .ok (.return_, 1) := by decide +kernel
theorem d_Types_forget_0 : decode prog_11_method_11_code 0 = .ok (.iload_n 1, 1) := by decide +kernel
theorem d_Types_forget_1 : decode prog_11_method_11_code 1 = .ok (.bipush (8), 2) := by decide +kernel
theorem d_Types_forget_3 : decode prog_11_method_11_code 3 = .ok (.invokestatic 48, 3) := by decide +kernel
theorem d_Types_forget_6 : decode prog_11_method_11_code 6 = .ok (.istore_n 2, 1) := by decide +kernel
theorem d_Types_forget_7 : decode prog_11_method_11_code 7 = .ok (.aload_n 0, 1) := by decide +kernel
theorem d_Types_forget_8 : decode prog_11_method_11_code 8 = .ok (.getfield 30, 3) := by decide +kernel
theorem d_Types_forget_11 : decode prog_11_method_11_code 11 = .ok (.iconst (1), 1) := by decide +kernel
theorem d_Types_forget_12 : decode prog_11_method_11_code 12 = .ok (.isub, 1) := by decide +kernel
theorem d_Types_forget_13 : decode prog_11_method_11_code 13 = .ok (.istore_n 3, 1) := by decide +kernel
theorem d_Types_forget_14 : decode prog_11_method_11_code 14 = .ok (.iload_n 3, 1) := by decide +kernel
theorem d_Types_forget_15 : decode prog_11_method_11_code 15 = .ok (.iload_n 2, 1) := by decide +kernel
theorem d_Types_forget_16 : decode prog_11_method_11_code 16 = .ok (.if_icmp .lt (26), 3) := by decide +kernel
theorem d_Types_forget_19 : decode prog_11_method_11_code 19 = .ok (.aload_n 0, 1) := by decide +kernel
theorem d_Types_forget_20 : decode prog_11_method_11_code 20 = .ok (.getfield 27, 3) := by decide +kernel
theorem d_Types_forget_23 : decode prog_11_method_11_code 23 = .ok (.aload_n 0, 1) := by decide +kernel
theorem d_Types_forget_24 : decode prog_11_method_11_code 24 = .ok (.getfield 21, 3) := by decide +kernel
theorem d_Types_forget_27 : decode prog_11_method_11_code 27 = .ok (.iload_n 3, 1) := by decide +kernel
theorem d_Types_forget_28 : decode prog_11_method_11_code 28 = .ok (.iaload, 1) := by decide +kernel
theorem d_Types_forget_29 : decode prog_11_method_11_code 29 = .ok (.aload_n 0, 1) := by decide +kernel
theorem d_Types_forget_30 : decode prog_11_method_11_code 30 = .ok (.getfield 24, 3) := by decide +kernel
theorem d_Types_forget_33 : decode prog_11_method_11_code 33 = .ok (.iload_n 3, 1) := by decide +kernel
theorem d_Types_forget_34 : decode prog_11_method_11_code 34 = .ok (.iaload, 1) := by decide +kernel
theorem d_Types_forget_35 : decode prog_11_method_11_code 35 = .ok (.iastore, 1) := by decide +kernel
theorem d_Types_forget_36 : decode prog_11_method_11_code 36 = .ok (.iinc 3 (-1), 3) := by decide +kernel
theorem d_Types_forget_39 : decode prog_11_method_11_code 39 = .ok (.goto (-25), 3) := by decide +kernel
theorem d_Types_forget_42 : decode prog_11_method_11_code 42 = .ok (.aload_n 0, 1) := by decide +kernel
theorem d_Types_forget_43 : decode prog_11_method_11_code 43 = .ok (.aload_n 0, 1) := by decide +kernel
theorem d_Types_forget_44 : decode prog_11_method_11_code 44 = .ok (.getfield 30, 3) := by decide +kernel
theorem d_Types_forget_47 : decode prog_11_method_11_code 47 = .ok (.iload_n 2, 1) := by decide +kernel
theorem d_Types_forget_48 : decode prog_11_method_11_code 48 = .ok (.invokestatic 53, 3) := by decide +kernel
theorem d_Types_forget_51 : decode prog_11_method_11_code 51 = .ok (.putfield 30, 3) := by decide +kernel
theorem d_Types_forget_54 : decode prog_11_method_11_code 54 = .ok (.return_, 1) := by decide +kernel
theorem d_Code_forget_0 : decode prog_3_method_4_code 0 = .ok (.aload_n 0, 1) := by decide +kernel
theorem d_Code_forget_1 : decode prog_3_method_4_code 1 = .ok (.iconst (0), 1) := by decide +kernel
theorem d_Code_forget_2 : decode prog_3_method_4_code 2 = .ok (.aload_n 0, 1) := by decide +kernel
theorem d_Code_forget_3 : decode prog_3_method_4_code 3 = .ok (.getfield 24, 3) := by decide +kernel
theorem d_Code_forget_6 : decode prog_3_method_4_code 6 = .ok (.iload_n 1, 1) := by decide +kernel
theorem d_Code_forget_7 : decode prog_3_method_4_code 7 = .ok (.invokestatic 28, 3) := by decide +kernel
theorem d_Code_forget_10 : decode prog_3_method_4_code 10 = .ok (.invokestatic 34, 3) := by decide +kernel
theorem d_Code_forget_13 : decode prog_3_method_4_code 13 = .ok (.putfield 24, 3) := by decide +kernel
theorem d_Code_forget_16 : decode prog_3_method_4_code 16 = .ok (.return_, 1) := by decide +kernel
theorem d_BT_declare_0 : decode prog_1_method_3_code 0 = .ok (.aload_n 0, 1) := by decide +kernel
theorem d_BT_declare_1 : decode prog_1_method_3_code 1 = .ok (.getfield 16, 3) := by decide +kernel
theorem d_BT_declare_4 : decode prog_1_method_3_code 4 = .ok (.getfield 82, 3) := by decide +kernel
theorem d_BT_declare_7 : decode prog_1_method_3_code 7 = .ok (.istore_n 1, 1) := by decide +kernel
theorem d_BT_declare_8 : decode prog_1_method_3_code 8 = .ok (.aload_n 0, 1) := by decide +kernel
theorem d_BT_declare_9 : decode prog_1_method_3_code 9 = .ok (.getfield 23, 3) := by decide +kernel
theorem d_BT_declare_12 : decode prog_1_method_3_code 12 = .ok (.getfield 85, 3) := by decide +kernel
theorem d_BT_declare_15 : decode prog_1_method_3_code 15 = .ok (.istore_n 2, 1) := by decide +kernel
theorem d_BT_declare_16 : decode prog_1_method_3_code 16 = .ok (.aload_n 0, 1) := by decide +kernel
theorem d_BT_declare_17 : decode prog_1_method_3_code 17 = .ok (.getfield 41, 3) := by decide +kernel
theorem d_BT_declare_20 : decode prog_1_method_3_code 20 = .ok (.aload_n 0, 1) := by decide +kernel
theorem d_BT_declare_21 : decode prog_1_method_3_code 21 = .ok (.getfield 70, 3) := by decide +kernel
theorem d_BT_declare_24 : decode prog_1_method_3_code 24 = .ok (.invokevirtual 86, 3) := by decide +kernel
theorem d_BT_declare_27 : decode prog_1_method_3_code 27 = .ok (.astore_n 3, 1) := by decide +kernel
theorem d_BT_declare_28 : decode prog_1_method_3_code 28 = .ok (.aload_n 0, 1) := by decide +kernel
theorem d_BT_declare_29 : decode prog_1_method_3_code 29 = .ok (.iconst (0), 1) := by decide +kernel
theorem d_BT_declare_30 : decode prog_1_method_3_code 30 = .ok (.putfield 70, 3) := by decide +kernel
theorem d_BT_declare_33 : decode prog_1_method_3_code 33 = .ok (.aload_n 0, 1) := by decide +kernel
theorem d_BT_declare_34 : decode prog_1_method_3_code 34 = .ok (.getfield 16, 3) := by decide +kernel
theorem d_BT_declare_37 : decode prog_1_method_3_code 37 = .ok (.getfield 82, 3) := by decide +kernel
theorem d_BT_declare_40 : decode prog_1_method_3_code 40 = .ok (.istore 4, 2) := by decide +kernel
theorem d_BT_declare_42 : decode prog_1_method_3_code 42 = .ok (.aload_n 0, 1) := by decide +kernel
theorem d_BT_declare_43 : decode prog_1_method_3_code 43 = .ok (.getfield 41, 3) := by decide +kernel
theorem d_BT_declare_46 : decode prog_1_method_3_code 46 = .ok (.invokevirtual 90, 3) := by decide +kernel
theorem d_BT_declare_49 : decode prog_1_method_3_code 49 = .ok (.istore 5, 2) := by decide +kernel
theorem d_BT_declare_51 : decode prog_1_method_3_code 51 = .ok (.iload 5, 2) := by decide +kernel
theorem d_BT_declare_53 : decode prog_1_method_3_code 53 = .ok (.ifCond .ne (17), 3) := by decide +kernel
theorem d_BT_declare_56 : decode prog_1_method_3_code 56 = .ok (.sipush (-1000), 3) := by decide +kernel
theorem d_BT_declare_59 : decode prog_1_method_3_code 59 = .ok (.aload_n 0, 1) := by decide +kernel
theorem d_BT_declare_60 : decode prog_1_method_3_code 60 = .ok (.getfield 59, 3) := by decide +kernel
theorem d_BT_declare_63 : decode prog_1_method_3_code 63 = .ok (.aload_n 3, 1) := by decide +kernel
theorem d_BT_declare_70 : decode prog_1_method_3_code 70 = .ok (.iload 5, 2) := by decide +kernel
theorem d_BT_declare_72 : decode prog_1_method_3_code 72 = .ok (.ifCond .ne (17), 3) := by decide +kernel
theorem d_BT_declare_75 : decode prog_1_method_3_code 75 = .ok (.sipush (-1000), 3) := by decide +kernel
theorem d_BT_declare_78 : decode prog_1_method_3_code 78 = .ok (.aload_n 0, 1) := by decide +kernel
theorem d_BT_declare_79 : decode prog_1_method_3_code 79 = .ok (.getfield 59, 3) := by decide +kernel
theorem d_BT_declare_82 : decode prog_1_method_3_code 82 = .ok (.aload_n 3, 1) := by decide +kernel
theorem d_BT_declare_89 : decode prog_1_method_3_code 89 = .ok (.iload 5, 2) := by decide +kernel
theorem d_BT_declare_91 : decode prog_1_method_3_code 91 = .ok (.ifCond .ne (17), 3) := by decide +kernel
theorem d_BT_declare_94 : decode prog_1_method_3_code 94 = .ok (.sipush (-1000), 3) := by decide +kernel
theorem d_BT_declare_97 : decode prog_1_method_3_code 97 = .ok (.aload_n 0, 1) := by decide +kernel
theorem d_BT_declare_98 : decode prog_1_method_3_code 98 = .ok (.getfield 59, 3) := by decide +kernel
theorem d_BT_declare_101 : decode prog_1_method_3_code 101 = .ok (.aload_n 3, 1) := by decide +kernel
theorem d_BT_declare_108 : decode prog_1_method_3_code 108 = .ok (.iload 5, 2) := by decide +kernel
theorem d_BT_declare_110 : decode prog_1_method_3_code 110 = .ok (.ifCond .ge (30), 3) := by decide +kernel
theorem d_BT_declare_113 : decode prog_1_method_3_code 113 = .ok (.aload_n 0, 1) := by decide +kernel
theorem d_BT_declare_114 : decode prog_1_method_3_code 114 = .ok (.getfield 32, 3) := by decide +kernel
theorem d_BT_declare_117 : decode prog_1_method_3_code 117 = .ok (.aload_n 3, 1) := by decide +kernel
theorem d_BT_declare_118 : decode prog_1_method_3_code 118 = .ok (.invokevirtual 104, 3) := by decide +kernel
theorem d_BT_declare_121 : decode prog_1_method_3_code 121 = .ok (.aload_n 0, 1) := by decide +kernel
theorem d_BT_declare_122 : decode prog_1_method_3_code 122 = .ok (.getfield 16, 3) := by decide +kernel
theorem d_BT_declare_125 : decode prog_1_method_3_code 125 = .ok (.iload_n 1, 1) := by decide +kernel
theorem d_BT_declare_126 : decode prog_1_method_3_code 126 = .ok (.invokevirtual 108, 3) := by decide +kernel
theorem d_BT_declare_129 : decode prog_1_method_3_code 129 = .ok (.aload_n 0, 1) := by decide +kernel
theorem d_BT_declare_130 : decode prog_1_method_3_code 130 = .ok (.getfield 23, 3) := by decide +kernel
theorem d_BT_declare_133 : decode prog_1_method_3_code 133 = .ok (.iload_n 2, 1) := by decide +kernel
theorem d_BT_declare_134 : decode prog_1_method_3_code 134 = .ok (.invokevirtual 112, 3) := by decide +kernel
theorem d_BT_declare_137 : decode prog_1_method_3_code 137 = .ok (.iload 5, 2) := by decide +kernel
theorem d_BT_declare_139 : decode prog_1_method_3_code 139 = .ok (.ireturn, 1) := by decide +kernel
theorem d_BT_declare_140 : decode prog_1_method_3_code 140 = .ok (.aload_n 0, 1) := by decide +kernel
theorem d_BT_declare_141 : decode prog_1_method_3_code 141 = .ok (.getfield 16, 3) := by decide +kernel
theorem d_BT_declare_144 : decode prog_1_method_3_code 144 = .ok (.iload 4, 2) := by decide +kernel
theorem d_BT_declare_146 : decode prog_1_method_3_code 146 = .ok (.invokevirtual 108, 3) := by decide +kernel
theorem d_BT_declare_149 : decode prog_1_method_3_code 149 = .ok (.aload_n 0, 1) := by decide +kernel
theorem d_BT_declare_150 : decode prog_1_method_3_code 150 = .ok (.getfield 32, 3) := by decide +kernel
theorem d_Reader_isAtCast_0 : decode prog_9_method_18_code 0 = .ok (.aload_n 0, 1) := by decide +kernel
theorem d_Reader_isAtCast_1 : decode prog_9_method_18_code 1 = .ok (.getfield 9, 3) := by decide +kernel
theorem d_Reader_isAtCast_4 : decode prog_9_method_18_code 4 = .ok (.aload_n 0, 1) := by decide +kernel
theorem d_Reader_isAtCast_5 : decode prog_9_method_18_code 5 = .ok (.getfield 70, 3) := by decide +kernel
theorem d_Reader_isAtCast_8 : decode prog_9_method_18_code 8 = .ok (.caload, 1) := by decide +kernel
theorem d_Reader_isAtCast_9 : decode prog_9_method_18_code 9 = .ok (.bipush (40), 2) := by decide +kernel
theorem d_Reader_isAtCast_11 : decode prog_9_method_18_code 11 = .ok (.if_icmp .ne (39), 3) := by decide +kernel
theorem d_Reader_isAtCast_14 : decode prog_9_method_18_code 14 = .ok (.aload_n 0, 1) := by decide +kernel
theorem d_Reader_isAtCast_15 : decode prog_9_method_18_code 15 = .ok (.getfield 9, 3) := by decide +kernel
theorem d_Reader_isAtCast_18 : decode prog_9_method_18_code 18 = .ok (.aload_n 0, 1) := by decide +kernel
theorem d_Reader_isAtCast_19 : decode prog_9_method_18_code 19 = .ok (.getfield 70, 3) := by decide +kernel
theorem d_Reader_isAtCast_22 : decode prog_9_method_18_code 22 = .ok (.iconst (1), 1) := by decide +kernel
theorem d_Reader_isAtCast_23 : decode prog_9_method_18_code 23 = .ok (.iadd, 1) := by decide +kernel
theorem d_Reader_isAtCast_24 : decode prog_9_method_18_code 24 = .ok (.caload, 1) := by decide +kernel
theorem d_Reader_isAtCast_25 : decode prog_9_method_18_code 25 = .ok (.bipush (65), 2) := by decide +kernel
theorem d_Reader_isAtCast_27 : decode prog_9_method_18_code 27 = .ok (.if_icmp .lt (23), 3) := by decide +kernel
theorem d_Reader_isAtCast_30 : decode prog_9_method_18_code 30 = .ok (.aload_n 0, 1) := by decide +kernel
theorem d_Reader_isAtCast_31 : decode prog_9_method_18_code 31 = .ok (.getfield 9, 3) := by decide +kernel
theorem d_Reader_isAtCast_34 : decode prog_9_method_18_code 34 = .ok (.aload_n 0, 1) := by decide +kernel
theorem d_Reader_isAtCast_35 : decode prog_9_method_18_code 35 = .ok (.getfield 70, 3) := by decide +kernel
theorem d_Reader_isAtCast_38 : decode prog_9_method_18_code 38 = .ok (.iconst (1), 1) := by decide +kernel
theorem d_Reader_isAtCast_39 : decode prog_9_method_18_code 39 = .ok (.iadd, 1) := by decide +kernel
theorem d_Reader_isAtCast_40 : decode prog_9_method_18_code 40 = .ok (.caload, 1) := by decide +kernel
theorem d_Reader_isAtCast_41 : decode prog_9_method_18_code 41 = .ok (.bipush (72), 2) := by decide +kernel
theorem d_Reader_isAtCast_43 : decode prog_9_method_18_code 43 = .ok (.if_icmp .gt (7), 3) := by decide +kernel
theorem d_Reader_isAtCast_46 : decode prog_9_method_18_code 46 = .ok (.iconst (1), 1) := by decide +kernel
theorem d_Reader_isAtCast_47 : decode prog_9_method_18_code 47 = .ok (.goto (4), 3) := by decide +kernel
theorem d_Reader_isAtCast_50 : decode prog_9_method_18_code 50 = .ok (.iconst (0), 1) := by decide +kernel
theorem d_Reader_isAtCast_51 : decode prog_9_method_18_code 51 = .ok (.ireturn, 1) := by decide +kernel
theorem d_Code_add_0 : decode prog_3_method_2_code 0 = .ok (.aload_n 0, 1) := by decide +kernel
theorem d_Code_add_1 : decode prog_3_method_2_code 1 = .ok (.getfield 24, 3) := by decide +kernel
theorem d_Code_add_4 : decode prog_3_method_2_code 4 = .ok (.sipush (1120), 3) := by decide +kernel
theorem d_Code_add_7 : decode prog_3_method_2_code 7 = .ok (.if_icmp .lt (5), 3) := by decide +kernel
theorem d_Code_add_10 : decode prog_3_method_2_code 10 = .ok (.iconst (-1), 1) := by decide +kernel
theorem d_Code_add_11 : decode prog_3_method_2_code 11 = .ok (.ireturn, 1) := by decide +kernel
theorem d_Code_add_12 : decode prog_3_method_2_code 12 = .ok (.aload_n 0, 1) := by decide +kernel
theorem d_Code_add_13 : decode prog_3_method_2_code 13 = .ok (.getfield 11, 3) := by decide +kernel
theorem d_Code_add_16 : decode prog_3_method_2_code 16 = .ok (.aload_n 0, 1) := by decide +kernel
theorem d_Code_add_17 : decode prog_3_method_2_code 17 = .ok (.getfield 24, 3) := by decide +kernel
theorem d_Code_add_20 : decode prog_3_method_2_code 20 = .ok (.iload_n 1, 1) := by decide +kernel
theorem d_Code_add_21 : decode prog_3_method_2_code 21 = .ok (.iastore, 1) := by decide +kernel
theorem d_Code_add_22 : decode prog_3_method_2_code 22 = .ok (.aload_n 0, 1) := by decide +kernel
theorem d_Code_add_23 : decode prog_3_method_2_code 23 = .ok (.getfield 15, 3) := by decide +kernel
theorem d_Code_add_26 : decode prog_3_method_2_code 26 = .ok (.aload_n 0, 1) := by decide +kernel
theorem d_Code_add_27 : decode prog_3_method_2_code 27 = .ok (.getfield 24, 3) := by decide +kernel
theorem d_Code_add_30 : decode prog_3_method_2_code 30 = .ok (.iload_n 2, 1) := by decide +kernel
theorem d_Code_add_31 : decode prog_3_method_2_code 31 = .ok (.iastore, 1) := by decide +kernel
theorem d_Code_add_32 : decode prog_3_method_2_code 32 = .ok (.aload_n 0, 1) := by decide +kernel
