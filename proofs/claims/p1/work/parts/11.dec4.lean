theorem d_Code_add_33 : decode prog_3_method_2_code 33 = .ok (.getfield 18, 3) := by decide +kernel
theorem d_Code_add_36 : decode prog_3_method_2_code 36 = .ok (.aload_n 0, 1) := by decide +kernel
theorem d_Code_add_37 : decode prog_3_method_2_code 37 = .ok (.getfield 24, 3) := by decide +kernel
theorem d_Code_add_40 : decode prog_3_method_2_code 40 = .ok (.iload_n 3, 1) := by decide +kernel
theorem d_Code_add_41 : decode prog_3_method_2_code 41 = .ok (.iastore, 1) := by decide +kernel
theorem d_Code_add_42 : decode prog_3_method_2_code 42 = .ok (.aload_n 0, 1) := by decide +kernel
theorem d_Code_add_43 : decode prog_3_method_2_code 43 = .ok (.getfield 21, 3) := by decide +kernel
theorem d_Code_add_46 : decode prog_3_method_2_code 46 = .ok (.aload_n 0, 1) := by decide +kernel
theorem d_Code_add_47 : decode prog_3_method_2_code 47 = .ok (.getfield 24, 3) := by decide +kernel
theorem d_Code_add_50 : decode prog_3_method_2_code 50 = .ok (.iload 4, 2) := by decide +kernel
theorem d_Code_add_52 : decode prog_3_method_2_code 52 = .ok (.iastore, 1) := by decide +kernel
theorem d_Code_add_53 : decode prog_3_method_2_code 53 = .ok (.aload_n 0, 1) := by decide +kernel
theorem d_Code_add_54 : decode prog_3_method_2_code 54 = .ok (.dup, 1) := by decide +kernel
theorem d_Code_add_55 : decode prog_3_method_2_code 55 = .ok (.getfield 24, 3) := by decide +kernel
theorem d_Code_add_58 : decode prog_3_method_2_code 58 = .ok (.iconst (1), 1) := by decide +kernel
theorem d_Code_add_59 : decode prog_3_method_2_code 59 = .ok (.iadd, 1) := by decide +kernel
theorem d_Code_add_60 : decode prog_3_method_2_code 60 = .ok (.putfield 24, 3) := by decide +kernel
theorem d_Code_add_63 : decode prog_3_method_2_code 63 = .ok (.aload_n 0, 1) := by decide +kernel
theorem d_Code_add_64 : decode prog_3_method_2_code 64 = .ok (.getfield 24, 3) := by decide +kernel
theorem d_Code_add_67 : decode prog_3_method_2_code 67 = .ok (.iconst (1), 1) := by decide +kernel
theorem d_Code_add_68 : decode prog_3_method_2_code 68 = .ok (.isub, 1) := by decide +kernel
theorem d_Code_add_69 : decode prog_3_method_2_code 69 = .ok (.ireturn, 1) := by decide +kernel
theorem d_Reader_slotOf_0 : decode prog_9_method_22_code 0 = .ok (.aload_n 0, 1) := by decide +kernel
theorem d_Reader_slotOf_1 : decode prog_9_method_22_code 1 = .ok (.getfield 103, 3) := by decide +kernel
theorem d_Reader_slotOf_4 : decode prog_9_method_22_code 4 = .ok (.ifnonnull (5), 3) := by decide +kernel
theorem d_Reader_slotOf_7 : decode prog_9_method_22_code 7 = .ok (.iconst (-1), 1) := by decide +kernel
theorem d_Reader_slotOf_8 : decode prog_9_method_22_code 8 = .ok (.ireturn, 1) := by decide +kernel
theorem d_Reader_slotOf_9 : decode prog_9_method_22_code 9 = .ok (.aload_n 0, 1) := by decide +kernel
theorem d_Reader_slotOf_10 : decode prog_9_method_22_code 10 = .ok (.getfield 103, 3) := by decide +kernel
theorem d_Reader_slotOf_13 : decode prog_9_method_22_code 13 = .ok (.iload_n 1, 1) := by decide +kernel
theorem d_Reader_base_0 : decode prog_9_method_19_code 0 = .ok (.aload_n 0, 1) := by decide +kernel
theorem d_Reader_base_1 : decode prog_9_method_19_code 1 = .ok (.getfield 9, 3) := by decide +kernel
theorem d_Reader_base_4 : decode prog_9_method_19_code 4 = .ok (.aload_n 0, 1) := by decide +kernel
theorem d_Reader_base_5 : decode prog_9_method_19_code 5 = .ok (.getfield 70, 3) := by decide +kernel
theorem d_Reader_base_8 : decode prog_9_method_19_code 8 = .ok (.caload, 1) := by decide +kernel
theorem d_Reader_base_9 : decode prog_9_method_19_code 9 = .ok (.bipush (40), 2) := by decide +kernel
theorem d_Reader_base_11 : decode prog_9_method_19_code 11 = .ok (.if_icmp .ne (22), 3) := by decide +kernel
theorem d_Reader_base_14 : decode prog_9_method_19_code 14 = .ok (.aload_n 0, 1) := by decide +kernel
theorem d_Reader_base_15 : decode prog_9_method_19_code 15 = .ok (.bipush (40), 2) := by decide +kernel
theorem d_Reader_base_17 : decode prog_9_method_19_code 17 = .ok (.invokevirtual 67, 3) := by decide +kernel
theorem d_Reader_base_20 : decode prog_9_method_19_code 20 = .ok (.aload_n 0, 1) := by decide +kernel
theorem d_Reader_base_33 : decode prog_9_method_19_code 33 = .ok (.aload_n 0, 1) := by decide +kernel
theorem d_Reader_base_34 : decode prog_9_method_19_code 34 = .ok (.getfield 9, 3) := by decide +kernel
theorem d_Reader_base_37 : decode prog_9_method_19_code 37 = .ok (.aload_n 0, 1) := by decide +kernel
theorem d_Reader_base_38 : decode prog_9_method_19_code 38 = .ok (.getfield 70, 3) := by decide +kernel
theorem d_Reader_base_41 : decode prog_9_method_19_code 41 = .ok (.caload, 1) := by decide +kernel
theorem d_Reader_base_42 : decode prog_9_method_19_code 42 = .ok (.bipush (42), 2) := by decide +kernel
theorem d_Reader_base_44 : decode prog_9_method_19_code 44 = .ok (.if_icmp .ne (67), 3) := by decide +kernel
theorem d_Reader_base_47 : decode prog_9_method_19_code 47 = .ok (.aload_n 0, 1) := by decide +kernel
theorem d_Reader_base_48 : decode prog_9_method_19_code 48 = .ok (.dup, 1) := by decide +kernel
theorem d_Reader_base_49 : decode prog_9_method_19_code 49 = .ok (.getfield 70, 3) := by decide +kernel
theorem d_Reader_base_52 : decode prog_9_method_19_code 52 = .ok (.iconst (1), 1) := by decide +kernel
theorem d_Reader_base_53 : decode prog_9_method_19_code 53 = .ok (.iadd, 1) := by decide +kernel
theorem d_Reader_base_54 : decode prog_9_method_19_code 54 = .ok (.putfield 70, 3) := by decide +kernel
theorem d_Reader_base_57 : decode prog_9_method_19_code 57 = .ok (.aload_n 0, 1) := by decide +kernel
theorem d_Reader_base_58 : decode prog_9_method_19_code 58 = .ok (.iconst (0), 1) := by decide +kernel
theorem d_Reader_base_59 : decode prog_9_method_19_code 59 = .ok (.invokevirtual 52, 3) := by decide +kernel
theorem d_Reader_base_62 : decode prog_9_method_19_code 62 = .ok (.istore_n 1, 1) := by decide +kernel
theorem d_Reader_base_63 : decode prog_9_method_19_code 63 = .ok (.aload_n 0, 1) := by decide +kernel
theorem d_Reader_base_64 : decode prog_9_method_19_code 64 = .ok (.getfield 29, 3) := by decide +kernel
theorem d_Reader_base_67 : decode prog_9_method_19_code 67 = .ok (.iconst (4), 1) := by decide +kernel
theorem d_Reader_base_68 : decode prog_9_method_19_code 68 = .ok (.iload_n 1, 1) := by decide +kernel
theorem d_Reader_base_69 : decode prog_9_method_19_code 69 = .ok (.iconst (0), 1) := by decide +kernel
theorem d_Reader_base_70 : decode prog_9_method_19_code 70 = .ok (.iconst (-1), 1) := by decide +kernel
theorem d_Reader_base_71 : decode prog_9_method_19_code 71 = .ok (.invokevirtual 164, 3) := by decide +kernel
theorem d_Reader_base_74 : decode prog_9_method_19_code 74 = .ok (.istore_n 2, 1) := by decide +kernel
theorem d_Reader_base_75 : decode prog_9_method_19_code 75 = .ok (.aload_n 0, 1) := by decide +kernel
theorem d_Reader_base_111 : decode prog_9_method_19_code 111 = .ok (.aload_n 0, 1) := by decide +kernel
theorem d_Reader_base_112 : decode prog_9_method_19_code 112 = .ok (.getfield 29, 3) := by decide +kernel
theorem d_Reader_base_115 : decode prog_9_method_19_code 115 = .ok (.iconst (0), 1) := by decide +kernel
theorem d_Reader_base_116 : decode prog_9_method_19_code 116 = .ok (.aload_n 0, 1) := by decide +kernel
theorem d_Reader_base_117 : decode prog_9_method_19_code 117 = .ok (.aload_n 0, 1) := by decide +kernel
theorem d_Reader_base_118 : decode prog_9_method_19_code 118 = .ok (.bipush (97), 2) := by decide +kernel
theorem d_Reader_base_120 : decode prog_9_method_19_code 120 = .ok (.bipush (122), 2) := by decide +kernel
theorem d_Reader_base_122 : decode prog_9_method_19_code 122 = .ok (.invokevirtual 37, 3) := by decide +kernel
theorem d_Reader_base_125 : decode prog_9_method_19_code 125 = .ok (.invokevirtual 173, 3) := by decide +kernel
theorem d_Reader_base_128 : decode prog_9_method_19_code 128 = .ok (.iconst (0), 1) := by decide +kernel
theorem d_Reader_base_129 : decode prog_9_method_19_code 129 = .ok (.iconst (-1), 1) := by decide +kernel
theorem d_Reader_base_130 : decode prog_9_method_19_code 130 = .ok (.invokevirtual 164, 3) := by decide +kernel
theorem d_Reader_base_133 : decode prog_9_method_19_code 133 = .ok (.pop, 1) := by decide +kernel
theorem d_Reader_base_134 : decode prog_9_method_19_code 134 = .ok (.return_, 1) := by decide +kernel
theorem d_Reader_expression_0 : decode prog_9_method_17_code 0 = .ok (.aload_n 0, 1) := by decide +kernel
theorem d_Reader_expression_1 : decode prog_9_method_17_code 1 = .ok (.getfield 100, 3) := by decide +kernel
theorem d_Reader_expression_4 : decode prog_9_method_17_code 4 = .ok (.istore_n 1, 1) := by decide +kernel
theorem d_Reader_expression_5 : decode prog_9_method_17_code 5 = .ok (.iconst (0), 1) := by decide +kernel
theorem d_Reader_expression_6 : decode prog_9_method_17_code 6 = .ok (.istore_n 2, 1) := by decide +kernel
theorem d_Reader_expression_7 : decode prog_9_method_17_code 7 = .ok (.iload_n 2, 1) := by decide +kernel
theorem d_Reader_expression_8 : decode prog_9_method_17_code 8 = .ok (.sipush (140), 3) := by decide +kernel
theorem d_Reader_expression_11 : decode prog_9_method_17_code 11 = .ok (.if_icmp .ge (62), 3) := by decide +kernel
theorem d_Reader_expression_14 : decode prog_9_method_17_code 14 = .ok (.aload_n 0, 1) := by decide +kernel
theorem d_Reader_expression_15 : decode prog_9_method_17_code 15 = .ok (.invokevirtual 154, 3) := by decide +kernel
theorem d_Reader_expression_18 : decode prog_9_method_17_code 18 = .ok (.ifCond .eq (55), 3) := by decide +kernel
theorem d_Reader_expression_21 : decode prog_9_method_17_code 21 = .ok (.aload_n 0, 1) := by decide +kernel
theorem d_Reader_expression_22 : decode prog_9_method_17_code 22 = .ok (.getfield 100, 3) := by decide +kernel
theorem d_Reader_expression_25 : decode prog_9_method_17_code 25 = .ok (.sipush (140), 3) := by decide +kernel
theorem d_Reader_expression_28 : decode prog_9_method_17_code 28 = .ok (.if_icmp .ge (45), 3) := by decide +kernel
theorem d_Reader_expression_31 : decode prog_9_method_17_code 31 = .ok (.aload_n 0, 1) := by decide +kernel
theorem d_Reader_expression_32 : decode prog_9_method_17_code 32 = .ok (.bipush (40), 2) := by decide +kernel
theorem d_Reader_expression_73 : decode prog_9_method_17_code 73 = .ok (.aload_n 0, 1) := by decide +kernel
theorem d_Reader_expression_74 : decode prog_9_method_17_code 74 = .ok (.invokevirtual 158, 3) := by decide +kernel
theorem d_Reader_expression_77 : decode prog_9_method_17_code 77 = .ok (.iconst (0), 1) := by decide +kernel
theorem d_Reader_expression_78 : decode prog_9_method_17_code 78 = .ok (.istore_n 2, 1) := by decide +kernel
theorem d_Reader_expression_79 : decode prog_9_method_17_code 79 = .ok (.iload_n 2, 1) := by decide +kernel
theorem d_Reader_expression_80 : decode prog_9_method_17_code 80 = .ok (.sipush (140), 3) := by decide +kernel
theorem d_Reader_expression_83 : decode prog_9_method_17_code 83 = .ok (.if_icmp .ge (27), 3) := by decide +kernel
theorem d_Reader_expression_86 : decode prog_9_method_17_code 86 = .ok (.aload_n 0, 1) := by decide +kernel
theorem d_Reader_expression_87 : decode prog_9_method_17_code 87 = .ok (.getfield 9, 3) := by decide +kernel
theorem d_Reader_expression_90 : decode prog_9_method_17_code 90 = .ok (.aload_n 0, 1) := by decide +kernel
theorem d_Reader_expression_91 : decode prog_9_method_17_code 91 = .ok (.getfield 70, 3) := by decide +kernel
theorem d_Reader_expression_94 : decode prog_9_method_17_code 94 = .ok (.caload, 1) := by decide +kernel
theorem d_Reader_expression_95 : decode prog_9_method_17_code 95 = .ok (.bipush (46), 2) := by decide +kernel
theorem d_Reader_expression_97 : decode prog_9_method_17_code 97 = .ok (.if_icmp .ne (13), 3) := by decide +kernel
theorem d_Reader_expression_100 : decode prog_9_method_17_code 100 = .ok (.aload_n 0, 1) := by decide +kernel
theorem d_Reader_expression_110 : decode prog_9_method_17_code 110 = .ok (.aload_n 0, 1) := by decide +kernel
theorem d_Reader_expression_111 : decode prog_9_method_17_code 111 = .ok (.getfield 100, 3) := by decide +kernel
theorem d_Reader_expression_114 : decode prog_9_method_17_code 114 = .ok (.iconst (1), 1) := by decide +kernel
theorem d_Reader_expression_115 : decode prog_9_method_17_code 115 = .ok (.isub, 1) := by decide +kernel
theorem d_Reader_expression_116 : decode prog_9_method_17_code 116 = .ok (.istore_n 2, 1) := by decide +kernel
theorem d_Reader_expression_117 : decode prog_9_method_17_code 117 = .ok (.iload_n 2, 1) := by decide +kernel
theorem d_Reader_expression_118 : decode prog_9_method_17_code 118 = .ok (.iload_n 1, 1) := by decide +kernel
theorem d_Reader_expression_119 : decode prog_9_method_17_code 119 = .ok (.if_icmp .lt (27), 3) := by decide +kernel
theorem d_Reader_expression_122 : decode prog_9_method_17_code 122 = .ok (.aload_n 0, 1) := by decide +kernel
theorem d_Reader_expression_123 : decode prog_9_method_17_code 123 = .ok (.getfield 29, 3) := by decide +kernel
theorem d_Reader_expression_126 : decode prog_9_method_17_code 126 = .ok (.bipush (7), 2) := by decide +kernel
theorem d_Reader_expression_128 : decode prog_9_method_17_code 128 = .ok (.aload_n 0, 1) := by decide +kernel
theorem d_Reader_expression_129 : decode prog_9_method_17_code 129 = .ok (.getfield 19, 3) := by decide +kernel
theorem d_Reader_expression_132 : decode prog_9_method_17_code 132 = .ok (.iload_n 2, 1) := by decide +kernel
theorem d_Reader_expression_133 : decode prog_9_method_17_code 133 = .ok (.iaload, 1) := by decide +kernel
theorem d_Reader_expression_134 : decode prog_9_method_17_code 134 = .ok (.iconst (0), 1) := by decide +kernel
theorem d_Reader_expression_135 : decode prog_9_method_17_code 135 = .ok (.iconst (-1), 1) := by decide +kernel
theorem d_Reader_expression_136 : decode prog_9_method_17_code 136 = .ok (.invokevirtual 164, 3) := by decide +kernel
theorem d_Reader_expression_139 : decode prog_9_method_17_code 139 = .ok (.pop, 1) := by decide +kernel
theorem d_Reader_expression_140 : decode prog_9_method_17_code 140 = .ok (.iinc 2 (-1), 3) := by decide +kernel
theorem d_Reader_expression_143 : decode prog_9_method_17_code 143 = .ok (.goto (-26), 3) := by decide +kernel
theorem d_Reader_expression_146 : decode prog_9_method_17_code 146 = .ok (.aload_n 0, 1) := by decide +kernel
theorem d_Reader_expression_147 : decode prog_9_method_17_code 147 = .ok (.iload_n 1, 1) := by decide +kernel
theorem d_Reader_expression_148 : decode prog_9_method_17_code 148 = .ok (.putfield 100, 3) := by decide +kernel
theorem d_Reader_expression_151 : decode prog_9_method_17_code 151 = .ok (.return_, 1) := by decide +kernel
theorem d_Entry_methodNamed_0 : decode prog_5_method_5_code 0 = .ok (.iload_n 1, 1) := by decide +kernel
theorem d_Entry_methodNamed_1 : decode prog_5_method_5_code 1 = .ok (.ifCond .lt (18), 3) := by decide +kernel
theorem d_Entry_methodNamed_4 : decode prog_5_method_5_code 4 = .ok (.iload_n 1, 1) := by decide +kernel
theorem d_Entry_methodNamed_5 : decode prog_5_method_5_code 5 = .ok (.bipush (26), 2) := by decide +kernel
theorem d_Entry_methodNamed_7 : decode prog_5_method_5_code 7 = .ok (.if_icmp .ge (12), 3) := by decide +kernel
theorem d_Entry_methodNamed_10 : decode prog_5_method_5_code 10 = .ok (.aload_n 0, 1) := by decide +kernel
theorem d_Entry_methodNamed_11 : decode prog_5_method_5_code 11 = .ok (.getfield 20, 3) := by decide +kernel
theorem d_Entry_methodNamed_14 : decode prog_5_method_5_code 14 = .ok (.iload_n 1, 1) := by decide +kernel
theorem d_Entry_methodNamed_15 : decode prog_5_method_5_code 15 = .ok (.aaload, 1) := by decide +kernel
theorem d_Entry_methodNamed_16 : decode prog_5_method_5_code 16 = .ok (.goto (4), 3) := by decide +kernel
theorem d_Entry_methodNamed_19 : decode prog_5_method_5_code 19 = .ok (.aconst_null, 1) := by decide +kernel
theorem d_Entry_methodNamed_20 : decode prog_5_method_5_code 20 = .ok (.areturn, 1) := by decide +kernel
theorem d_Reader_readExpression_0 : decode prog_9_method_3_code 0 = .ok (.aload_n 0, 1) := by decide +kernel
theorem d_Reader_readExpression_1 : decode prog_9_method_3_code 1 = .ok (.iload_n 1, 1) := by decide +kernel
theorem d_Reader_readExpression_2 : decode prog_9_method_3_code 2 = .ok (.invokevirtual 33, 3) := by decide +kernel
theorem d_Reader_readExpression_5 : decode prog_9_method_3_code 5 = .ok (.aload_n 0, 1) := by decide +kernel
theorem d_Reader_readExpression_6 : decode prog_9_method_3_code 6 = .ok (.invokevirtual 94, 3) := by decide +kernel
theorem d_Reader_readExpression_9 : decode prog_9_method_3_code 9 = .ok (.aload_n 0, 1) := by decide +kernel
theorem d_Reader_readExpression_10 : decode prog_9_method_3_code 10 = .ok (.invokevirtual 91, 3) := by decide +kernel
theorem d_Reader_readExpression_13 : decode prog_9_method_3_code 13 = .ok (.return_, 1) := by decide +kernel
theorem d_Machine_dropValue_0 : decode prog_7_method_2_code 0 = .ok (.aload_n 0, 1) := by decide +kernel
theorem d_Machine_dropValue_1 : decode prog_7_method_2_code 1 = .ok (.iconst (0), 1) := by decide +kernel
theorem d_Machine_dropValue_2 : decode prog_7_method_2_code 2 = .ok (.putfield 43, 3) := by decide +kernel
theorem d_Machine_dropValue_5 : decode prog_7_method_2_code 5 = .ok (.return_, 1) := by decide +kernel
theorem d_BT_run_0 : decode prog_1_method_4_code 0 = .ok (.iload_n 1, 1) := by decide +kernel
theorem d_BT_run_1 : decode prog_1_method_4_code 1 = .ok (.ifCond .lt (9), 3) := by decide +kernel
theorem d_BT_run_4 : decode prog_1_method_4_code 4 = .ok (.iload_n 1, 1) := by decide +kernel
theorem d_BT_run_5 : decode prog_1_method_4_code 5 = .ok (.bipush (40), 2) := by decide +kernel
theorem d_BT_run_7 : decode prog_1_method_4_code 7 = .ok (.if_icmp .le (6), 3) := by decide +kernel
theorem d_BT_run_10 : decode prog_1_method_4_code 10 = .ok (.ldc 116, 2) := by decide +kernel
theorem d_BT_run_12 : decode prog_1_method_4_code 12 = .ok (.ireturn, 1) := by decide +kernel
theorem d_BT_run_13 : decode prog_1_method_4_code 13 = .ok (.aload_n 0, 1) := by decide +kernel
theorem d_BT_run_14 : decode prog_1_method_4_code 14 = .ok (.getfield 16, 3) := by decide +kernel
theorem d_BT_run_17 : decode prog_1_method_4_code 17 = .ok (.getfield 82, 3) := by decide +kernel
theorem d_BT_run_20 : decode prog_1_method_4_code 20 = .ok (.istore_n 2, 1) := by decide +kernel
theorem d_BT_run_21 : decode prog_1_method_4_code 21 = .ok (.aload_n 0, 1) := by decide +kernel
theorem d_BT_run_22 : decode prog_1_method_4_code 22 = .ok (.getfield 23, 3) := by decide +kernel
theorem d_BT_run_25 : decode prog_1_method_4_code 25 = .ok (.getfield 85, 3) := by decide +kernel
theorem d_BT_run_28 : decode prog_1_method_4_code 28 = .ok (.istore_n 3, 1) := by decide +kernel
theorem d_BT_run_29 : decode prog_1_method_4_code 29 = .ok (.aload_n 0, 1) := by decide +kernel
theorem d_BT_run_30 : decode prog_1_method_4_code 30 = .ok (.getfield 41, 3) := by decide +kernel
theorem d_BT_run_33 : decode prog_1_method_4_code 33 = .ok (.aload_n 0, 1) := by decide +kernel
theorem d_BT_run_34 : decode prog_1_method_4_code 34 = .ok (.getfield 70, 3) := by decide +kernel
theorem d_BT_run_37 : decode prog_1_method_4_code 37 = .ok (.invokevirtual 117, 3) := by decide +kernel
theorem d_BT_run_40 : decode prog_1_method_4_code 40 = .ok (.aload_n 0, 1) := by decide +kernel
theorem d_BT_run_41 : decode prog_1_method_4_code 41 = .ok (.iconst (0), 1) := by decide +kernel
theorem d_BT_run_42 : decode prog_1_method_4_code 42 = .ok (.putfield 70, 3) := by decide +kernel
theorem d_BT_run_45 : decode prog_1_method_4_code 45 = .ok (.aload_n 0, 1) := by decide +kernel
theorem d_BT_run_46 : decode prog_1_method_4_code 46 = .ok (.getfield 66, 3) := by decide +kernel
theorem d_BT_run_49 : decode prog_1_method_4_code 49 = .ok (.invokevirtual 120, 3) := by decide +kernel
theorem d_BT_run_52 : decode prog_1_method_4_code 52 = .ok (.aload_n 0, 1) := by decide +kernel
theorem d_BT_run_53 : decode prog_1_method_4_code 53 = .ok (.getfield 41, 3) := by decide +kernel
theorem d_BT_run_56 : decode prog_1_method_4_code 56 = .ok (.invokevirtual 90, 3) := by decide +kernel
theorem d_BT_run_59 : decode prog_1_method_4_code 59 = .ok (.istore 4, 2) := by decide +kernel
theorem d_BT_run_61 : decode prog_1_method_4_code 61 = .ok (.iload 4, 2) := by decide +kernel
theorem d_BT_run_63 : decode prog_1_method_4_code 63 = .ok (.ifCond .ne (40), 3) := by decide +kernel
theorem d_BT_run_66 : decode prog_1_method_4_code 66 = .ok (.aload_n 0, 1) := by decide +kernel
theorem d_BT_run_67 : decode prog_1_method_4_code 67 = .ok (.getfield 32, 3) := by decide +kernel
theorem d_BT_run_103 : decode prog_1_method_4_code 103 = .ok (.iload 4, 2) := by decide +kernel
theorem d_BT_run_105 : decode prog_1_method_4_code 105 = .ok (.ifCond .ne (21), 3) := by decide +kernel
theorem d_BT_run_108 : decode prog_1_method_4_code 108 = .ok (.aload_n 0, 1) := by decide +kernel
theorem d_BT_run_109 : decode prog_1_method_4_code 109 = .ok (.getfield 66, 3) := by decide +kernel
theorem d_BT_run_112 : decode prog_1_method_4_code 112 = .ok (.iload_n 3, 1) := by decide +kernel
theorem d_BT_run_113 : decode prog_1_method_4_code 113 = .ok (.aload_n 0, 1) := by decide +kernel
theorem d_BT_run_114 : decode prog_1_method_4_code 114 = .ok (.getfield 23, 3) := by decide +kernel
theorem d_BT_run_117 : decode prog_1_method_4_code 117 = .ok (.getfield 85, 3) := by decide +kernel
theorem d_BT_run_120 : decode prog_1_method_4_code 120 = .ok (.iload_n 1, 1) := by decide +kernel
theorem d_BT_run_126 : decode prog_1_method_4_code 126 = .ok (.aload_n 0, 1) := by decide +kernel
theorem d_BT_run_127 : decode prog_1_method_4_code 127 = .ok (.getfield 16, 3) := by decide +kernel
theorem d_BT_run_130 : decode prog_1_method_4_code 130 = .ok (.iload_n 2, 1) := by decide +kernel
theorem d_BT_run_131 : decode prog_1_method_4_code 131 = .ok (.invokevirtual 108, 3) := by decide +kernel
theorem d_BT_run_134 : decode prog_1_method_4_code 134 = .ok (.aload_n 0, 1) := by decide +kernel
theorem d_BT_run_135 : decode prog_1_method_4_code 135 = .ok (.getfield 23, 3) := by decide +kernel
theorem d_BT_run_138 : decode prog_1_method_4_code 138 = .ok (.iload_n 3, 1) := by decide +kernel
theorem d_BT_run_139 : decode prog_1_method_4_code 139 = .ok (.invokevirtual 112, 3) := by decide +kernel
theorem d_BT_run_142 : decode prog_1_method_4_code 142 = .ok (.iload 4, 2) := by decide +kernel
theorem d_BT_run_144 : decode prog_1_method_4_code 144 = .ok (.ireturn, 1) := by decide +kernel
theorem d_Rules_classWithMethod_0 : decode prog_10_method_7_code 0 = .ok (.iload_n 1, 1) := by decide +kernel
theorem d_Rules_classWithMethod_1 : decode prog_10_method_7_code 1 = .ok (.istore_n 3, 1) := by decide +kernel
theorem d_Rules_classWithMethod_2 : decode prog_10_method_7_code 2 = .ok (.iconst (0), 1) := by decide +kernel
theorem d_Rules_classWithMethod_3 : decode prog_10_method_7_code 3 = .ok (.istore 4, 2) := by decide +kernel
theorem d_Rules_classWithMethod_5 : decode prog_10_method_7_code 5 = .ok (.iload 4, 2) := by decide +kernel
theorem d_Rules_classWithMethod_7 : decode prog_10_method_7_code 7 = .ok (.bipush (8), 2) := by decide +kernel
theorem d_Rules_classWithMethod_9 : decode prog_10_method_7_code 9 = .ok (.if_icmp .ge (47), 3) := by decide +kernel
theorem d_Rules_classWithMethod_12 : decode prog_10_method_7_code 12 = .ok (.aload_n 0, 1) := by decide +kernel
theorem d_Rules_classWithMethod_13 : decode prog_10_method_7_code 13 = .ok (.iload_n 3, 1) := by decide +kernel
theorem d_Rules_classWithMethod_14 : decode prog_10_method_7_code 14 = .ok (.invokevirtual 46, 3) := by decide +kernel
theorem d_Rules_classWithMethod_17 : decode prog_10_method_7_code 17 = .ok (.astore 5, 2) := by decide +kernel
theorem d_Rules_classWithMethod_19 : decode prog_10_method_7_code 19 = .ok (.aload 5, 2) := by decide +kernel
theorem d_Rules_classWithMethod_21 : decode prog_10_method_7_code 21 = .ok (.ifnull (12), 3) := by decide +kernel
theorem d_Rules_classWithMethod_24 : decode prog_10_method_7_code 24 = .ok (.aload 5, 2) := by decide +kernel
theorem d_Rules_classWithMethod_26 : decode prog_10_method_7_code 26 = .ok (.iload_n 2, 1) := by decide +kernel
theorem d_Rules_classWithMethod_27 : decode prog_10_method_7_code 27 = .ok (.invokevirtual 54, 3) := by decide +kernel
theorem d_Rules_classWithMethod_30 : decode prog_10_method_7_code 30 = .ok (.ifnull (14), 3) := by decide +kernel
theorem d_Rules_classWithMethod_33 : decode prog_10_method_7_code 33 = .ok (.aload 5, 2) := by decide +kernel
theorem d_Rules_classWithMethod_35 : decode prog_10_method_7_code 35 = .ok (.ifnonnull (7), 3) := by decide +kernel
theorem d_Rules_classWithMethod_38 : decode prog_10_method_7_code 38 = .ok (.iconst (-1), 1) := by decide +kernel
theorem d_Rules_classWithMethod_39 : decode prog_10_method_7_code 39 = .ok (.goto (4), 3) := by decide +kernel
theorem d_Rules_classWithMethod_42 : decode prog_10_method_7_code 42 = .ok (.iload_n 3, 1) := by decide +kernel
theorem d_Rules_classWithMethod_43 : decode prog_10_method_7_code 43 = .ok (.ireturn, 1) := by decide +kernel
theorem d_Rules_classWithMethod_44 : decode prog_10_method_7_code 44 = .ok (.aload 5, 2) := by decide +kernel
theorem d_Rules_classWithMethod_46 : decode prog_10_method_7_code 46 = .ok (.getfield 58, 3) := by decide +kernel
theorem d_Rules_classWithMethod_49 : decode prog_10_method_7_code 49 = .ok (.istore_n 3, 1) := by decide +kernel
theorem d_Rules_classWithMethod_50 : decode prog_10_method_7_code 50 = .ok (.iinc 4 (1), 3) := by decide +kernel
theorem d_Rules_classWithMethod_53 : decode prog_10_method_7_code 53 = .ok (.goto (-48), 3) := by decide +kernel
theorem d_Rules_classWithMethod_56 : decode prog_10_method_7_code 56 = .ok (.iconst (-1), 1) := by decide +kernel
theorem d_Rules_classWithMethod_57 : decode prog_10_method_7_code 57 = .ok (.ireturn, 1) := by decide +kernel
theorem d_BT_length_0 : decode prog_1_method_5_code 0 = .ok (.aload_n 0, 1) := by decide +kernel
theorem d_BT_length_1 : decode prog_1_method_5_code 1 = .ok (.getfield 66, 3) := by decide +kernel
theorem d_BT_length_4 : decode prog_1_method_5_code 4 = .ok (.getfield 137, 3) := by decide +kernel
theorem d_BT_length_7 : decode prog_1_method_5_code 7 = .ok (.ireturn, 1) := by decide +kernel
theorem d_BT_at_0 : decode prog_1_method_6_code 0 = .ok (.iload_n 1, 1) := by decide +kernel
theorem d_BT_at_1 : decode prog_1_method_6_code 1 = .ok (.ifCond .lt (14), 3) := by decide +kernel
theorem d_BT_at_4 : decode prog_1_method_6_code 4 = .ok (.iload_n 1, 1) := by decide +kernel
theorem d_BT_at_5 : decode prog_1_method_6_code 5 = .ok (.aload_n 0, 1) := by decide +kernel
theorem d_BT_at_6 : decode prog_1_method_6_code 6 = .ok (.getfield 66, 3) := by decide +kernel
theorem d_BT_at_9 : decode prog_1_method_6_code 9 = .ok (.getfield 137, 3) := by decide +kernel
theorem d_BT_at_12 : decode prog_1_method_6_code 12 = .ok (.if_icmp .lt (7), 3) := by decide +kernel
theorem d_BT_at_15 : decode prog_1_method_6_code 15 = .ok (.iconst (-1), 1) := by decide +kernel
theorem d_BT_at_16 : decode prog_1_method_6_code 16 = .ok (.goto (12), 3) := by decide +kernel
theorem d_BT_at_19 : decode prog_1_method_6_code 19 = .ok (.aload_n 0, 1) := by decide +kernel
theorem d_BT_at_20 : decode prog_1_method_6_code 20 = .ok (.getfield 66, 3) := by decide +kernel
theorem d_BT_at_23 : decode prog_1_method_6_code 23 = .ok (.getfield 140, 3) := by decide +kernel
theorem d_BT_at_26 : decode prog_1_method_6_code 26 = .ok (.iload_n 1, 1) := by decide +kernel
theorem d_BT_at_27 : decode prog_1_method_6_code 27 = .ok (.caload, 1) := by decide +kernel
theorem d_BT_at_28 : decode prog_1_method_6_code 28 = .ok (.ireturn, 1) := by decide +kernel
theorem d_BT_left_0 : decode prog_1_method_7_code 0 = .ok (.aload_n 0, 1) := by decide +kernel
theorem d_BT_left_1 : decode prog_1_method_7_code 1 = .ok (.getfield 66, 3) := by decide +kernel
theorem d_BT_left_4 : decode prog_1_method_7_code 4 = .ok (.getfield 143, 3) := by decide +kernel
theorem d_BT_left_7 : decode prog_1_method_7_code 7 = .ok (.ireturn, 1) := by decide +kernel
theorem d_BT_fields_0 : decode prog_1_method_8_code 0 = .ok (.aload_n 0, 1) := by decide +kernel
theorem d_BT_fields_1 : decode prog_1_method_8_code 1 = .ok (.getfield 32, 3) := by decide +kernel
theorem d_BT_fields_4 : decode prog_1_method_8_code 4 = .ok (.iload_n 1, 1) := by decide +kernel
theorem d_BT_fields_5 : decode prog_1_method_8_code 5 = .ok (.invokevirtual 146, 3) := by decide +kernel
theorem d_BT_fields_8 : decode prog_1_method_8_code 8 = .ok (.astore_n 2, 1) := by decide +kernel
theorem d_BT_fields_9 : decode prog_1_method_8_code 9 = .ok (.aload_n 2, 1) := by decide +kernel
theorem d_BT_fields_10 : decode prog_1_method_8_code 10 = .ok (.ifnonnull (7), 3) := by decide +kernel
theorem d_BT_fields_13 : decode prog_1_method_8_code 13 = .ok (.iconst (-1), 1) := by decide +kernel
theorem d_BT_fields_14 : decode prog_1_method_8_code 14 = .ok (.goto (7), 3) := by decide +kernel
theorem d_BT_fields_17 : decode prog_1_method_8_code 17 = .ok (.aload_n 2, 1) := by decide +kernel
theorem d_BT_fields_18 : decode prog_1_method_8_code 18 = .ok (.getfield 149, 3) := by decide +kernel
theorem d_BT_fields_21 : decode prog_1_method_8_code 21 = .ok (.ireturn, 1) := by decide +kernel
theorem d_BT_method_0 : decode prog_1_method_9_code 0 = .ok (.aload_n 0, 1) := by decide +kernel
theorem d_BT_method_1 : decode prog_1_method_9_code 1 = .ok (.getfield 32, 3) := by decide +kernel
theorem d_BT_method_4 : decode prog_1_method_9_code 4 = .ok (.iload_n 1, 1) := by decide +kernel
theorem d_BT_method_5 : decode prog_1_method_9_code 5 = .ok (.iload_n 2, 1) := by decide +kernel
theorem d_BT_method_6 : decode prog_1_method_9_code 6 = .ok (.invokevirtual 154, 3) := by decide +kernel
theorem d_BT_method_9 : decode prog_1_method_9_code 9 = .ok (.ireturn, 1) := by decide +kernel
theorem d_Md_noScope_0 : decode prog_13_method_8_code 0 = .ok (.iconst (0), 1) := by decide +kernel
theorem d_Md_noScope_1 : decode prog_13_method_8_code 1 = .ok (.istore_n 1, 1) := by decide +kernel
theorem d_Md_noScope_2 : decode prog_13_method_8_code 2 = .ok (.iload_n 1, 1) := by decide +kernel
theorem d_Md_noScope_3 : decode prog_13_method_8_code 3 = .ok (.bipush (8), 2) := by decide +kernel
theorem d_Md_noScope_5 : decode prog_13_method_8_code 5 = .ok (.if_icmp .ge (16), 3) := by decide +kernel
theorem d_Md_noScope_8 : decode prog_13_method_8_code 8 = .ok (.aload_n 0, 1) := by decide +kernel
theorem d_Md_noScope_9 : decode prog_13_method_8_code 9 = .ok (.getfield 31, 3) := by decide +kernel
theorem d_Md_noScope_12 : decode prog_13_method_8_code 12 = .ok (.iload_n 1, 1) := by decide +kernel
theorem d_Md_noScope_13 : decode prog_13_method_8_code 13 = .ok (.iconst (-1), 1) := by decide +kernel
theorem d_Md_noScope_14 : decode prog_13_method_8_code 14 = .ok (.iastore, 1) := by decide +kernel
theorem d_Md_noScope_15 : decode prog_13_method_8_code 15 = .ok (.iinc 1 (1), 3) := by decide +kernel
theorem d_Md_noScope_18 : decode prog_13_method_8_code 18 = .ok (.goto (-16), 3) := by decide +kernel
theorem d_Md_noScope_21 : decode prog_13_method_8_code 21 = .ok (.return_, 1) := by decide +kernel
theorem d_Md_init_0 : decode prog_13_method_1_code 0 = .ok (.aload_n 0, 1) := by decide +kernel
