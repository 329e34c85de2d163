theorem d_BT_init_28 : decode prog_1_method_1_code 28 = .ok (.dup, 1) := by decide +kernel
theorem d_BT_init_29 : decode prog_1_method_1_code 29 = .ok (.invokespecial 22, 3) := by decide +kernel
theorem d_BT_init_32 : decode prog_1_method_1_code 32 = .ok (.putfield 23, 3) := by decide +kernel
theorem d_BT_init_35 : decode prog_1_method_1_code 35 = .ok (.aload_n 0, 1) := by decide +kernel
theorem d_BT_init_36 : decode prog_1_method_1_code 36 = .ok (.new 27, 3) := by decide +kernel
theorem d_BT_init_39 : decode prog_1_method_1_code 39 = .ok (.dup, 1) := by decide +kernel
theorem d_BT_init_40 : decode prog_1_method_1_code 40 = .ok (.aload_n 0, 1) := by decide +kernel
theorem d_BT_init_41 : decode prog_1_method_1_code 41 = .ok (.getfield 16, 3) := by decide +kernel
theorem d_BT_init_44 : decode prog_1_method_1_code 44 = .ok (.invokespecial 29, 3) := by decide +kernel
theorem d_BT_init_47 : decode prog_1_method_1_code 47 = .ok (.putfield 32, 3) := by decide +kernel
theorem d_BT_init_50 : decode prog_1_method_1_code 50 = .ok (.aload_n 0, 1) := by decide +kernel
theorem d_BT_init_51 : decode prog_1_method_1_code 51 = .ok (.new 36, 3) := by decide +kernel
theorem d_BT_init_54 : decode prog_1_method_1_code 54 = .ok (.dup, 1) := by decide +kernel
theorem d_BT_init_55 : decode prog_1_method_1_code 55 = .ok (.aload_n 0, 1) := by decide +kernel
theorem d_BT_init_56 : decode prog_1_method_1_code 56 = .ok (.getfield 9, 3) := by decide +kernel
theorem d_BT_init_59 : decode prog_1_method_1_code 59 = .ok (.aload_n 0, 1) := by decide +kernel
theorem d_BT_init_60 : decode prog_1_method_1_code 60 = .ok (.getfield 16, 3) := by decide +kernel
theorem d_BT_init_63 : decode prog_1_method_1_code 63 = .ok (.aload_n 0, 1) := by decide +kernel
theorem d_BT_init_64 : decode prog_1_method_1_code 64 = .ok (.getfield 23, 3) := by decide +kernel
theorem d_BT_init_67 : decode prog_1_method_1_code 67 = .ok (.invokespecial 38, 3) := by decide +kernel
theorem d_BT_init_70 : decode prog_1_method_1_code 70 = .ok (.putfield 41, 3) := by decide +kernel
theorem d_BT_init_73 : decode prog_1_method_1_code 73 = .ok (.aload_n 0, 1) := by decide +kernel
theorem d_BT_init_74 : decode prog_1_method_1_code 74 = .ok (.new 45, 3) := by decide +kernel
theorem d_BT_init_77 : decode prog_1_method_1_code 77 = .ok (.dup, 1) := by decide +kernel
theorem d_BT_init_78 : decode prog_1_method_1_code 78 = .ok (.aload_n 0, 1) := by decide +kernel
theorem d_BT_init_79 : decode prog_1_method_1_code 79 = .ok (.getfield 16, 3) := by decide +kernel
theorem d_BT_init_82 : decode prog_1_method_1_code 82 = .ok (.aload_n 0, 1) := by decide +kernel
theorem d_BT_init_83 : decode prog_1_method_1_code 83 = .ok (.getfield 23, 3) := by decide +kernel
theorem d_BT_init_86 : decode prog_1_method_1_code 86 = .ok (.aload_n 0, 1) := by decide +kernel
theorem d_BT_init_87 : decode prog_1_method_1_code 87 = .ok (.getfield 32, 3) := by decide +kernel
theorem d_BT_init_90 : decode prog_1_method_1_code 90 = .ok (.invokespecial 47, 3) := by decide +kernel
theorem d_BT_init_93 : decode prog_1_method_1_code 93 = .ok (.putfield 50, 3) := by decide +kernel
theorem d_BT_init_96 : decode prog_1_method_1_code 96 = .ok (.aload_n 0, 1) := by decide +kernel
theorem d_BT_init_97 : decode prog_1_method_1_code 97 = .ok (.new 54, 3) := by decide +kernel
theorem d_BT_init_100 : decode prog_1_method_1_code 100 = .ok (.dup, 1) := by decide +kernel
theorem d_BT_init_101 : decode prog_1_method_1_code 101 = .ok (.aload_n 0, 1) := by decide +kernel
theorem d_BT_init_102 : decode prog_1_method_1_code 102 = .ok (.getfield 16, 3) := by decide +kernel
theorem d_BT_init_105 : decode prog_1_method_1_code 105 = .ok (.aload_n 0, 1) := by decide +kernel
theorem d_BT_init_106 : decode prog_1_method_1_code 106 = .ok (.getfield 32, 3) := by decide +kernel
theorem d_BT_init_109 : decode prog_1_method_1_code 109 = .ok (.aload_n 0, 1) := by decide +kernel
theorem d_BT_init_110 : decode prog_1_method_1_code 110 = .ok (.getfield 50, 3) := by decide +kernel
theorem d_BT_init_113 : decode prog_1_method_1_code 113 = .ok (.invokespecial 56, 3) := by decide +kernel
theorem d_BT_init_116 : decode prog_1_method_1_code 116 = .ok (.putfield 59, 3) := by decide +kernel
theorem d_BT_init_119 : decode prog_1_method_1_code 119 = .ok (.aload_n 0, 1) := by decide +kernel
theorem d_BT_init_120 : decode prog_1_method_1_code 120 = .ok (.new 63, 3) := by decide +kernel
theorem d_BT_init_123 : decode prog_1_method_1_code 123 = .ok (.dup, 1) := by decide +kernel
theorem d_BT_init_124 : decode prog_1_method_1_code 124 = .ok (.aload_n 0, 1) := by decide +kernel
theorem d_BT_init_125 : decode prog_1_method_1_code 125 = .ok (.getfield 16, 3) := by decide +kernel
theorem d_BT_init_128 : decode prog_1_method_1_code 128 = .ok (.aload_n 0, 1) := by decide +kernel
theorem d_BT_init_129 : decode prog_1_method_1_code 129 = .ok (.getfield 23, 3) := by decide +kernel
theorem d_BT_init_132 : decode prog_1_method_1_code 132 = .ok (.aload_n 0, 1) := by decide +kernel
theorem d_BT_init_133 : decode prog_1_method_1_code 133 = .ok (.getfield 32, 3) := by decide +kernel
theorem d_BT_init_136 : decode prog_1_method_1_code 136 = .ok (.invokespecial 65, 3) := by decide +kernel
theorem d_BT_init_139 : decode prog_1_method_1_code 139 = .ok (.putfield 66, 3) := by decide +kernel
theorem d_BT_init_142 : decode prog_1_method_1_code 142 = .ok (.return_, 1) := by decide +kernel
theorem d_BT_byteOf_0 : decode prog_1_method_10_code 0 = .ok (.iload_n 0, 1) := by decide +kernel
theorem d_BT_byteOf_1 : decode prog_1_method_10_code 1 = .ok (.bipush (8), 2) := by decide +kernel
theorem d_BT_byteOf_3 : decode prog_1_method_10_code 3 = .ok (.iload_n 1, 1) := by decide +kernel
theorem d_BT_byteOf_4 : decode prog_1_method_10_code 4 = .ok (.imul, 1) := by decide +kernel
theorem d_BT_byteOf_5 : decode prog_1_method_10_code 5 = .ok (.iushr, 1) := by decide +kernel
theorem d_BT_byteOf_6 : decode prog_1_method_10_code 6 = .ok (.sipush (255), 3) := by decide +kernel
theorem d_BT_byteOf_9 : decode prog_1_method_10_code 9 = .ok (.iand, 1) := by decide +kernel
theorem d_BT_byteOf_10 : decode prog_1_method_10_code 10 = .ok (.ireturn, 1) := by decide +kernel
theorem d_BT_areCharacters_0 : decode prog_1_method_11_code 0 = .ok (.iconst (0), 1) := by decide +kernel
theorem d_BT_areCharacters_1 : decode prog_1_method_11_code 1 = .ok (.istore_n 2, 1) := by decide +kernel
theorem d_BT_areCharacters_2 : decode prog_1_method_11_code 2 = .ok (.iload_n 2, 1) := by decide +kernel
theorem d_BT_areCharacters_3 : decode prog_1_method_11_code 3 = .ok (.iload_n 1, 1) := by decide +kernel
theorem d_BT_areCharacters_4 : decode prog_1_method_11_code 4 = .ok (.if_icmp .ge (29), 3) := by decide +kernel
theorem d_BT_areCharacters_7 : decode prog_1_method_11_code 7 = .ok (.iload_n 0, 1) := by decide +kernel
theorem d_BT_areCharacters_8 : decode prog_1_method_11_code 8 = .ok (.iload_n 2, 1) := by decide +kernel
theorem d_BT_areCharacters_9 : decode prog_1_method_11_code 9 = .ok (.invokestatic 78, 3) := by decide +kernel
theorem d_BT_areCharacters_12 : decode prog_1_method_11_code 12 = .ok (.istore_n 3, 1) := by decide +kernel
theorem d_BT_areCharacters_13 : decode prog_1_method_11_code 13 = .ok (.iload_n 3, 1) := by decide +kernel
theorem d_BT_areCharacters_14 : decode prog_1_method_11_code 14 = .ok (.bipush (32), 2) := by decide +kernel
theorem d_BT_areCharacters_16 : decode prog_1_method_11_code 16 = .ok (.if_icmp .lt (9), 3) := by decide +kernel
theorem d_BT_areCharacters_19 : decode prog_1_method_11_code 19 = .ok (.iload_n 3, 1) := by decide +kernel
theorem d_BT_areCharacters_20 : decode prog_1_method_11_code 20 = .ok (.bipush (126), 2) := by decide +kernel
theorem d_BT_areCharacters_22 : decode prog_1_method_11_code 22 = .ok (.if_icmp .le (5), 3) := by decide +kernel
theorem d_BT_areCharacters_25 : decode prog_1_method_11_code 25 = .ok (.iconst (0), 1) := by decide +kernel
theorem d_BT_areCharacters_26 : decode prog_1_method_11_code 26 = .ok (.ireturn, 1) := by decide +kernel
theorem d_BT_areCharacters_27 : decode prog_1_method_11_code 27 = .ok (.iinc 2 (1), 3) := by decide +kernel
theorem d_BT_areCharacters_30 : decode prog_1_method_11_code 30 = .ok (.goto (-28), 3) := by decide +kernel
theorem d_BT_areCharacters_33 : decode prog_1_method_11_code 33 = .ok (.iconst (1), 1) := by decide +kernel
theorem d_BT_areCharacters_34 : decode prog_1_method_11_code 34 = .ok (.ireturn, 1) := by decide +kernel
theorem d_BT_type_0 : decode prog_1_method_2_code 0 = .ok (.iload_n 2, 1) := by decide +kernel
theorem d_BT_type_1 : decode prog_1_method_2_code 1 = .ok (.iconst (1), 1) := by decide +kernel
theorem d_BT_type_2 : decode prog_1_method_2_code 2 = .ok (.if_icmp .lt (28), 3) := by decide +kernel
theorem d_BT_type_5 : decode prog_1_method_2_code 5 = .ok (.iload_n 2, 1) := by decide +kernel
theorem d_BT_type_6 : decode prog_1_method_2_code 6 = .ok (.iconst (4), 1) := by decide +kernel
theorem d_BT_type_7 : decode prog_1_method_2_code 7 = .ok (.if_icmp .gt (23), 3) := by decide +kernel
theorem d_BT_type_10 : decode prog_1_method_2_code 10 = .ok (.aload_n 0, 1) := by decide +kernel
theorem d_BT_type_11 : decode prog_1_method_2_code 11 = .ok (.getfield 70, 3) := by decide +kernel
theorem d_BT_type_14 : decode prog_1_method_2_code 14 = .ok (.iload_n 2, 1) := by decide +kernel
theorem d_BT_type_15 : decode prog_1_method_2_code 15 = .ok (.iadd, 1) := by decide +kernel
theorem d_BT_type_16 : decode prog_1_method_2_code 16 = .ok (.sipush (140), 3) := by decide +kernel
theorem d_BT_type_19 : decode prog_1_method_2_code 19 = .ok (.if_icmp .gt (11), 3) := by decide +kernel
theorem d_BT_type_22 : decode prog_1_method_2_code 22 = .ok (.iload_n 1, 1) := by decide +kernel
theorem d_BT_type_23 : decode prog_1_method_2_code 23 = .ok (.iload_n 2, 1) := by decide +kernel
theorem d_BT_type_24 : decode prog_1_method_2_code 24 = .ok (.invokestatic 74, 3) := by decide +kernel
theorem d_BT_type_27 : decode prog_1_method_2_code 27 = .ok (.ifCond .ne (5), 3) := by decide +kernel
theorem d_BT_type_30 : decode prog_1_method_2_code 30 = .ok (.iconst (0), 1) := by decide +kernel
theorem d_BT_type_31 : decode prog_1_method_2_code 31 = .ok (.ireturn, 1) := by decide +kernel
theorem d_BT_type_32 : decode prog_1_method_2_code 32 = .ok (.iload_n 2, 1) := by decide +kernel
theorem d_BT_type_33 : decode prog_1_method_2_code 33 = .ok (.iconst (1), 1) := by decide +kernel
theorem d_BT_type_34 : decode prog_1_method_2_code 34 = .ok (.isub, 1) := by decide +kernel
theorem d_BT_type_35 : decode prog_1_method_2_code 35 = .ok (.istore_n 3, 1) := by decide +kernel
theorem d_BT_type_36 : decode prog_1_method_2_code 36 = .ok (.iload_n 3, 1) := by decide +kernel
theorem d_BT_type_37 : decode prog_1_method_2_code 37 = .ok (.ifCond .lt (34), 3) := by decide +kernel
theorem d_BT_type_40 : decode prog_1_method_2_code 40 = .ok (.aload_n 0, 1) := by decide +kernel
theorem d_BT_type_41 : decode prog_1_method_2_code 41 = .ok (.getfield 9, 3) := by decide +kernel
theorem d_BT_type_44 : decode prog_1_method_2_code 44 = .ok (.aload_n 0, 1) := by decide +kernel
theorem d_BT_type_45 : decode prog_1_method_2_code 45 = .ok (.getfield 70, 3) := by decide +kernel
theorem d_BT_type_48 : decode prog_1_method_2_code 48 = .ok (.iload_n 1, 1) := by decide +kernel
theorem d_BT_type_49 : decode prog_1_method_2_code 49 = .ok (.iload_n 3, 1) := by decide +kernel
theorem d_BT_type_50 : decode prog_1_method_2_code 50 = .ok (.invokestatic 78, 3) := by decide +kernel
theorem d_BT_type_53 : decode prog_1_method_2_code 53 = .ok (.i2c, 1) := by decide +kernel
theorem d_BT_type_54 : decode prog_1_method_2_code 54 = .ok (.castore, 1) := by decide +kernel
theorem d_BT_type_55 : decode prog_1_method_2_code 55 = .ok (.aload_n 0, 1) := by decide +kernel
theorem d_BT_type_56 : decode prog_1_method_2_code 56 = .ok (.dup, 1) := by decide +kernel
theorem d_BT_type_57 : decode prog_1_method_2_code 57 = .ok (.getfield 70, 3) := by decide +kernel
theorem d_BT_type_60 : decode prog_1_method_2_code 60 = .ok (.iconst (1), 1) := by decide +kernel
theorem d_BT_type_61 : decode prog_1_method_2_code 61 = .ok (.iadd, 1) := by decide +kernel
theorem d_BT_type_62 : decode prog_1_method_2_code 62 = .ok (.putfield 70, 3) := by decide +kernel
theorem d_BT_type_65 : decode prog_1_method_2_code 65 = .ok (.iinc 3 (-1), 3) := by decide +kernel
theorem d_BT_type_68 : decode prog_1_method_2_code 68 = .ok (.goto (-32), 3) := by decide +kernel
theorem d_BT_type_71 : decode prog_1_method_2_code 71 = .ok (.iconst (1), 1) := by decide +kernel
theorem d_BT_type_72 : decode prog_1_method_2_code 72 = .ok (.ireturn, 1) := by decide +kernel
theorem d_Types_makeRoom_0 : decode prog_11_method_12_code 0 = .ok (.iconst (2), 1) := by decide +kernel
theorem d_Types_makeRoom_1 : decode prog_11_method_12_code 1 = .ok (.aload_n 0, 1) := by decide +kernel
theorem d_Types_makeRoom_2 : decode prog_11_method_12_code 2 = .ok (.getfield 11, 3) := by decide +kernel
theorem d_Types_makeRoom_5 : decode prog_11_method_12_code 5 = .ok (.arraylength, 1) := by decide +kernel
theorem d_Types_makeRoom_6 : decode prog_11_method_12_code 6 = .ok (.imul, 1) := by decide +kernel
theorem d_Types_makeRoom_7 : decode prog_11_method_12_code 7 = .ok (.istore_n 1, 1) := by decide +kernel
theorem d_Types_makeRoom_8 : decode prog_11_method_12_code 8 = .ok (.aload_n 0, 1) := by decide +kernel
theorem d_Types_makeRoom_9 : decode prog_11_method_12_code 9 = .ok (.getfield 11, 3) := by decide +kernel
theorem d_Types_makeRoom_12 : decode prog_11_method_12_code 12 = .ok (.arraylength, 1) := by decide +kernel
theorem d_Types_makeRoom_13 : decode prog_11_method_12_code 13 = .ok (.aload_n 0, 1) := by decide +kernel
theorem d_Types_makeRoom_14 : decode prog_11_method_12_code 14 = .ok (.getfield 30, 3) := by decide +kernel
theorem d_Types_makeRoom_17 : decode prog_11_method_12_code 17 = .ok (.isub, 1) := by decide +kernel
theorem d_Types_makeRoom_18 : decode prog_11_method_12_code 18 = .ok (.sipush (256), 3) := by decide +kernel
theorem d_Types_makeRoom_21 : decode prog_11_method_12_code 21 = .ok (.if_icmp .ge (9), 3) := by decide +kernel
theorem d_Types_makeRoom_24 : decode prog_11_method_12_code 24 = .ok (.iload_n 1, 1) := by decide +kernel
theorem d_Types_makeRoom_25 : decode prog_11_method_12_code 25 = .ok (.ldc 56, 2) := by decide +kernel
theorem d_Types_makeRoom_27 : decode prog_11_method_12_code 27 = .ok (.if_icmp .le (4), 3) := by decide +kernel
theorem d_Types_makeRoom_30 : decode prog_11_method_12_code 30 = .ok (.return_, 1) := by decide +kernel
theorem d_Types_makeRoom_31 : decode prog_11_method_12_code 31 = .ok (.aload_n 0, 1) := by decide +kernel
theorem d_Types_makeRoom_32 : decode prog_11_method_12_code 32 = .ok (.aload_n 0, 1) := by decide +kernel
theorem d_Types_makeRoom_33 : decode prog_11_method_12_code 33 = .ok (.getfield 11, 3) := by decide +kernel
theorem d_Types_makeRoom_36 : decode prog_11_method_12_code 36 = .ok (.iload_n 1, 1) := by decide +kernel
theorem d_Reader_start_0 : decode prog_9_method_5_code 0 = .ok (.iconst (0), 1) := by decide +kernel
theorem d_Reader_start_1 : decode prog_9_method_5_code 1 = .ok (.istore_n 2, 1) := by decide +kernel
theorem d_Reader_start_2 : decode prog_9_method_5_code 2 = .ok (.iconst (0), 1) := by decide +kernel
theorem d_Reader_start_3 : decode prog_9_method_5_code 3 = .ok (.istore_n 3, 1) := by decide +kernel
theorem d_Reader_start_4 : decode prog_9_method_5_code 4 = .ok (.iload_n 3, 1) := by decide +kernel
theorem d_Reader_start_5 : decode prog_9_method_5_code 5 = .ok (.iload_n 1, 1) := by decide +kernel
theorem d_Reader_start_6 : decode prog_9_method_5_code 6 = .ok (.if_icmp .ge (58), 3) := by decide +kernel
theorem d_Reader_start_9 : decode prog_9_method_5_code 9 = .ok (.iload_n 3, 1) := by decide +kernel
theorem d_Reader_start_10 : decode prog_9_method_5_code 10 = .ok (.aload_n 0, 1) := by decide +kernel
theorem d_Reader_start_11 : decode prog_9_method_5_code 11 = .ok (.getfield 22, 3) := by decide +kernel
theorem d_Reader_start_14 : decode prog_9_method_5_code 14 = .ok (.arraylength, 1) := by decide +kernel
theorem d_Reader_start_15 : decode prog_9_method_5_code 15 = .ok (.if_icmp .ge (49), 3) := by decide +kernel
theorem d_Reader_start_18 : decode prog_9_method_5_code 18 = .ok (.iload_n 3, 1) := by decide +kernel
theorem d_Reader_start_19 : decode prog_9_method_5_code 19 = .ok (.sipush (140), 3) := by decide +kernel
theorem d_Reader_start_22 : decode prog_9_method_5_code 22 = .ok (.if_icmp .ge (42), 3) := by decide +kernel
theorem d_Reader_start_25 : decode prog_9_method_5_code 25 = .ok (.aload_n 0, 1) := by decide +kernel
theorem d_Reader_start_26 : decode prog_9_method_5_code 26 = .ok (.getfield 22, 3) := by decide +kernel
theorem d_Reader_start_29 : decode prog_9_method_5_code 29 = .ok (.iload_n 3, 1) := by decide +kernel
theorem d_Reader_start_30 : decode prog_9_method_5_code 30 = .ok (.caload, 1) := by decide +kernel
theorem d_Reader_start_31 : decode prog_9_method_5_code 31 = .ok (.bipush (32), 2) := by decide +kernel
theorem d_Reader_start_33 : decode prog_9_method_5_code 33 = .ok (.if_icmp .eq (25), 3) := by decide +kernel
theorem d_Reader_start_36 : decode prog_9_method_5_code 36 = .ok (.aload_n 0, 1) := by decide +kernel
theorem d_Reader_start_37 : decode prog_9_method_5_code 37 = .ok (.getfield 9, 3) := by decide +kernel
theorem d_Reader_start_40 : decode prog_9_method_5_code 40 = .ok (.iload_n 2, 1) := by decide +kernel
theorem d_Reader_start_41 : decode prog_9_method_5_code 41 = .ok (.aload_n 0, 1) := by decide +kernel
theorem d_Reader_start_42 : decode prog_9_method_5_code 42 = .ok (.getfield 22, 3) := by decide +kernel
theorem d_Reader_start_45 : decode prog_9_method_5_code 45 = .ok (.iload_n 3, 1) := by decide +kernel
theorem d_Reader_start_46 : decode prog_9_method_5_code 46 = .ok (.caload, 1) := by decide +kernel
theorem d_Reader_start_47 : decode prog_9_method_5_code 47 = .ok (.castore, 1) := by decide +kernel
theorem d_Reader_start_48 : decode prog_9_method_5_code 48 = .ok (.aload_n 0, 1) := by decide +kernel
theorem d_Reader_start_49 : decode prog_9_method_5_code 49 = .ok (.getfield 15, 3) := by decide +kernel
theorem d_Reader_start_52 : decode prog_9_method_5_code 52 = .ok (.iload_n 2, 1) := by decide +kernel
theorem d_Reader_start_53 : decode prog_9_method_5_code 53 = .ok (.iload_n 3, 1) := by decide +kernel
theorem d_Reader_start_54 : decode prog_9_method_5_code 54 = .ok (.iastore, 1) := by decide +kernel
theorem d_Reader_start_55 : decode prog_9_method_5_code 55 = .ok (.iinc 2 (1), 3) := by decide +kernel
theorem d_Reader_start_58 : decode prog_9_method_5_code 58 = .ok (.iinc 3 (1), 3) := by decide +kernel
theorem d_Reader_start_61 : decode prog_9_method_5_code 61 = .ok (.goto (-57), 3) := by decide +kernel
theorem d_Reader_start_64 : decode prog_9_method_5_code 64 = .ok (.aload_n 0, 1) := by decide +kernel
theorem d_Reader_start_65 : decode prog_9_method_5_code 65 = .ok (.getfield 9, 3) := by decide +kernel
theorem d_Reader_start_68 : decode prog_9_method_5_code 68 = .ok (.iload_n 2, 1) := by decide +kernel
theorem d_Reader_start_69 : decode prog_9_method_5_code 69 = .ok (.iconst (0), 1) := by decide +kernel
theorem d_Reader_start_70 : decode prog_9_method_5_code 70 = .ok (.castore, 1) := by decide +kernel
theorem d_Reader_start_71 : decode prog_9_method_5_code 71 = .ok (.aload_n 0, 1) := by decide +kernel
theorem d_Reader_start_72 : decode prog_9_method_5_code 72 = .ok (.getfield 15, 3) := by decide +kernel
theorem d_Reader_start_75 : decode prog_9_method_5_code 75 = .ok (.iload_n 2, 1) := by decide +kernel
theorem d_Reader_start_76 : decode prog_9_method_5_code 76 = .ok (.iload_n 1, 1) := by decide +kernel
theorem d_Reader_start_77 : decode prog_9_method_5_code 77 = .ok (.iastore, 1) := by decide +kernel
theorem d_Reader_start_78 : decode prog_9_method_5_code 78 = .ok (.aload_n 0, 1) := by decide +kernel
theorem d_Reader_start_79 : decode prog_9_method_5_code 79 = .ok (.iconst (0), 1) := by decide +kernel
theorem d_Reader_start_80 : decode prog_9_method_5_code 80 = .ok (.putfield 70, 3) := by decide +kernel
theorem d_Reader_start_83 : decode prog_9_method_5_code 83 = .ok (.aload_n 0, 1) := by decide +kernel
theorem d_Reader_start_84 : decode prog_9_method_5_code 84 = .ok (.iconst (0), 1) := by decide +kernel
theorem d_Reader_start_85 : decode prog_9_method_5_code 85 = .ok (.putfield 97, 3) := by decide +kernel
theorem d_Reader_start_88 : decode prog_9_method_5_code 88 = .ok (.aload_n 0, 1) := by decide +kernel
theorem d_Reader_start_89 : decode prog_9_method_5_code 89 = .ok (.iconst (0), 1) := by decide +kernel
theorem d_Reader_start_90 : decode prog_9_method_5_code 90 = .ok (.putfield 100, 3) := by decide +kernel
theorem d_Reader_start_93 : decode prog_9_method_5_code 93 = .ok (.aload_n 0, 1) := by decide +kernel
theorem d_Reader_start_94 : decode prog_9_method_5_code 94 = .ok (.aconst_null, 1) := by decide +kernel
theorem d_Reader_start_95 : decode prog_9_method_5_code 95 = .ok (.putfield 103, 3) := by decide +kernel
theorem d_Reader_start_98 : decode prog_9_method_5_code 98 = .ok (.aload_n 0, 1) := by decide +kernel
theorem d_Reader_start_99 : decode prog_9_method_5_code 99 = .ok (.getfield 25, 3) := by decide +kernel
theorem d_Reader_start_102 : decode prog_9_method_5_code 102 = .ok (.invokevirtual 107, 3) := by decide +kernel
theorem d_Reader_start_105 : decode prog_9_method_5_code 105 = .ok (.return_, 1) := by decide +kernel
theorem d_Reader_takeLetter_0 : decode prog_9_method_8_code 0 = .ok (.aload_n 0, 1) := by decide +kernel
theorem d_Reader_takeLetter_1 : decode prog_9_method_8_code 1 = .ok (.getfield 9, 3) := by decide +kernel
theorem d_Reader_takeLetter_4 : decode prog_9_method_8_code 4 = .ok (.aload_n 0, 1) := by decide +kernel
theorem d_Reader_takeLetter_5 : decode prog_9_method_8_code 5 = .ok (.getfield 70, 3) := by decide +kernel
theorem d_Reader_takeLetter_8 : decode prog_9_method_8_code 8 = .ok (.caload, 1) := by decide +kernel
theorem d_Reader_takeLetter_9 : decode prog_9_method_8_code 9 = .ok (.iload_n 1, 1) := by decide +kernel
theorem d_Reader_takeLetter_10 : decode prog_9_method_8_code 10 = .ok (.if_icmp .lt (16), 3) := by decide +kernel
theorem d_Reader_takeLetter_13 : decode prog_9_method_8_code 13 = .ok (.aload_n 0, 1) := by decide +kernel
theorem d_Reader_takeLetter_14 : decode prog_9_method_8_code 14 = .ok (.getfield 9, 3) := by decide +kernel
theorem d_Reader_takeLetter_17 : decode prog_9_method_8_code 17 = .ok (.aload_n 0, 1) := by decide +kernel
theorem d_Reader_takeLetter_18 : decode prog_9_method_8_code 18 = .ok (.getfield 70, 3) := by decide +kernel
theorem d_Reader_takeLetter_21 : decode prog_9_method_8_code 21 = .ok (.caload, 1) := by decide +kernel
theorem d_Reader_takeLetter_22 : decode prog_9_method_8_code 22 = .ok (.iload_n 2, 1) := by decide +kernel
theorem d_Reader_takeLetter_23 : decode prog_9_method_8_code 23 = .ok (.if_icmp .le (15), 3) := by decide +kernel
theorem d_Reader_takeLetter_26 : decode prog_9_method_8_code 26 = .ok (.aload_n 0, 1) := by decide +kernel
theorem d_Reader_takeLetter_27 : decode prog_9_method_8_code 27 = .ok (.getfield 9, 3) := by decide +kernel
theorem d_Reader_takeLetter_30 : decode prog_9_method_8_code 30 = .ok (.aload_n 0, 1) := by decide +kernel
theorem d_Reader_takeLetter_31 : decode prog_9_method_8_code 31 = .ok (.getfield 70, 3) := by decide +kernel
theorem d_Reader_takeLetter_34 : decode prog_9_method_8_code 34 = .ok (.iconst (1), 1) := by decide +kernel
theorem d_Reader_takeLetter_35 : decode prog_9_method_8_code 35 = .ok (.castore, 1) := by decide +kernel
theorem d_Reader_takeLetter_36 : decode prog_9_method_8_code 36 = .ok (.iconst (0), 1) := by decide +kernel
theorem d_Reader_takeLetter_37 : decode prog_9_method_8_code 37 = .ok (.ireturn, 1) := by decide +kernel
theorem d_Reader_takeLetter_38 : decode prog_9_method_8_code 38 = .ok (.aload_n 0, 1) := by decide +kernel
theorem d_Reader_takeLetter_39 : decode prog_9_method_8_code 39 = .ok (.dup, 1) := by decide +kernel
theorem d_Reader_takeLetter_40 : decode prog_9_method_8_code 40 = .ok (.getfield 70, 3) := by decide +kernel
theorem d_Reader_takeLetter_43 : decode prog_9_method_8_code 43 = .ok (.iconst (1), 1) := by decide +kernel
theorem d_Reader_takeLetter_44 : decode prog_9_method_8_code 44 = .ok (.iadd, 1) := by decide +kernel
theorem d_Reader_takeLetter_45 : decode prog_9_method_8_code 45 = .ok (.putfield 70, 3) := by decide +kernel
theorem d_Reader_takeLetter_48 : decode prog_9_method_8_code 48 = .ok (.aload_n 0, 1) := by decide +kernel
theorem d_Reader_takeLetter_49 : decode prog_9_method_8_code 49 = .ok (.getfield 9, 3) := by decide +kernel
theorem d_Reader_takeLetter_52 : decode prog_9_method_8_code 52 = .ok (.aload_n 0, 1) := by decide +kernel
theorem d_Reader_takeLetter_53 : decode prog_9_method_8_code 53 = .ok (.getfield 70, 3) := by decide +kernel
theorem d_Reader_takeLetter_56 : decode prog_9_method_8_code 56 = .ok (.iconst (1), 1) := by decide +kernel
theorem d_Reader_takeLetter_57 : decode prog_9_method_8_code 57 = .ok (.isub, 1) := by decide +kernel
theorem d_Reader_takeLetter_58 : decode prog_9_method_8_code 58 = .ok (.caload, 1) := by decide +kernel
theorem d_Reader_takeLetter_59 : decode prog_9_method_8_code 59 = .ok (.iload_n 1, 1) := by decide +kernel
theorem d_Reader_takeLetter_60 : decode prog_9_method_8_code 60 = .ok (.isub, 1) := by decide +kernel
theorem d_Reader_takeLetter_61 : decode prog_9_method_8_code 61 = .ok (.ireturn, 1) := by decide +kernel
theorem d_Reader_open_0 : decode prog_9_method_9_code 0 = .ok (.aload_n 0, 1) := by decide +kernel
theorem d_Reader_open_1 : decode prog_9_method_9_code 1 = .ok (.getfield 9, 3) := by decide +kernel
theorem d_Reader_open_4 : decode prog_9_method_9_code 4 = .ok (.aload_n 0, 1) := by decide +kernel
theorem d_Reader_open_5 : decode prog_9_method_9_code 5 = .ok (.getfield 70, 3) := by decide +kernel
theorem d_Reader_open_8 : decode prog_9_method_9_code 8 = .ok (.caload, 1) := by decide +kernel
theorem d_Reader_open_9 : decode prog_9_method_9_code 9 = .ok (.iload_n 1, 1) := by decide +kernel
theorem d_Reader_open_10 : decode prog_9_method_9_code 10 = .ok (.if_icmp .ne (35), 3) := by decide +kernel
theorem d_Reader_open_13 : decode prog_9_method_9_code 13 = .ok (.aload_n 0, 1) := by decide +kernel
theorem d_Reader_open_14 : decode prog_9_method_9_code 14 = .ok (.getfield 97, 3) := by decide +kernel
theorem d_Reader_open_17 : decode prog_9_method_9_code 17 = .ok (.bipush (8), 2) := by decide +kernel
theorem d_Reader_open_19 : decode prog_9_method_9_code 19 = .ok (.if_icmp .ge (26), 3) := by decide +kernel
theorem d_Reader_open_22 : decode prog_9_method_9_code 22 = .ok (.aload_n 0, 1) := by decide +kernel
theorem d_Reader_open_23 : decode prog_9_method_9_code 23 = .ok (.dup, 1) := by decide +kernel
theorem d_Reader_open_24 : decode prog_9_method_9_code 24 = .ok (.getfield 70, 3) := by decide +kernel
theorem d_Reader_open_27 : decode prog_9_method_9_code 27 = .ok (.iconst (1), 1) := by decide +kernel
theorem d_Reader_open_28 : decode prog_9_method_9_code 28 = .ok (.iadd, 1) := by decide +kernel
theorem d_Reader_open_29 : decode prog_9_method_9_code 29 = .ok (.putfield 70, 3) := by decide +kernel
theorem d_Reader_open_32 : decode prog_9_method_9_code 32 = .ok (.aload_n 0, 1) := by decide +kernel
theorem d_Reader_open_33 : decode prog_9_method_9_code 33 = .ok (.dup, 1) := by decide +kernel
theorem d_Reader_open_34 : decode prog_9_method_9_code 34 = .ok (.getfield 97, 3) := by decide +kernel
theorem d_Reader_open_37 : decode prog_9_method_9_code 37 = .ok (.iconst (1), 1) := by decide +kernel
theorem d_Reader_open_38 : decode prog_9_method_9_code 38 = .ok (.iadd, 1) := by decide +kernel
theorem d_Reader_open_39 : decode prog_9_method_9_code 39 = .ok (.putfield 97, 3) := by decide +kernel
theorem d_Reader_open_42 : decode prog_9_method_9_code 42 = .ok (.goto (13), 3) := by decide +kernel
theorem d_Reader_open_45 : decode prog_9_method_9_code 45 = .ok (.aload_n 0, 1) := by decide +kernel
theorem d_Reader_open_46 : decode prog_9_method_9_code 46 = .ok (.getfield 9, 3) := by decide +kernel
theorem d_Reader_open_49 : decode prog_9_method_9_code 49 = .ok (.aload_n 0, 1) := by decide +kernel
theorem d_Reader_open_50 : decode prog_9_method_9_code 50 = .ok (.getfield 70, 3) := by decide +kernel
theorem d_Reader_open_53 : decode prog_9_method_9_code 53 = .ok (.iconst (1), 1) := by decide +kernel
theorem d_Reader_open_54 : decode prog_9_method_9_code 54 = .ok (.castore, 1) := by decide +kernel
theorem d_Reader_open_55 : decode prog_9_method_9_code 55 = .ok (.return_, 1) := by decide +kernel
theorem d_Reader_take_0 : decode prog_9_method_6_code 0 = .ok (.aload_n 0, 1) := by decide +kernel
theorem d_Reader_take_1 : decode prog_9_method_6_code 1 = .ok (.getfield 9, 3) := by decide +kernel
theorem d_Reader_take_4 : decode prog_9_method_6_code 4 = .ok (.aload_n 0, 1) := by decide +kernel
theorem d_Reader_take_5 : decode prog_9_method_6_code 5 = .ok (.getfield 70, 3) := by decide +kernel
theorem d_Reader_take_8 : decode prog_9_method_6_code 8 = .ok (.caload, 1) := by decide +kernel
theorem d_Reader_take_9 : decode prog_9_method_6_code 9 = .ok (.iload_n 1, 1) := by decide +kernel
theorem d_Reader_take_10 : decode prog_9_method_6_code 10 = .ok (.if_icmp .ne (16), 3) := by decide +kernel
theorem d_Reader_take_13 : decode prog_9_method_6_code 13 = .ok (.aload_n 0, 1) := by decide +kernel
theorem d_Reader_take_14 : decode prog_9_method_6_code 14 = .ok (.dup, 1) := by decide +kernel
theorem d_Reader_take_15 : decode prog_9_method_6_code 15 = .ok (.getfield 70, 3) := by decide +kernel
theorem d_Reader_take_18 : decode prog_9_method_6_code 18 = .ok (.iconst (1), 1) := by decide +kernel
theorem d_Reader_take_19 : decode prog_9_method_6_code 19 = .ok (.iadd, 1) := by decide +kernel
theorem d_Reader_take_20 : decode prog_9_method_6_code 20 = .ok (.putfield 70, 3) := by decide +kernel
theorem d_Reader_take_23 : decode prog_9_method_6_code 23 = .ok (.goto (13), 3) := by decide +kernel
theorem d_Reader_take_26 : decode prog_9_method_6_code 26 = .ok (.aload_n 0, 1) := by decide +kernel
theorem d_Reader_take_27 : decode prog_9_method_6_code 27 = .ok (.getfield 9, 3) := by decide +kernel
theorem d_Reader_take_30 : decode prog_9_method_6_code 30 = .ok (.aload_n 0, 1) := by decide +kernel
theorem d_Reader_take_31 : decode prog_9_method_6_code 31 = .ok (.getfield 70, 3) := by decide +kernel
theorem d_Reader_take_34 : decode prog_9_method_6_code 34 = .ok (.iconst (1), 1) := by decide +kernel
