theorem d_Ar_fill_0 : decode prog_22_method_103_code 0 = .ok (.iconst (0), 1) := by decide +kernel
theorem d_Ar_fill_1 : decode prog_22_method_103_code 1 = .ok (.istore_n 2, 1) := by decide +kernel
theorem d_Ar_fill_2 : decode prog_22_method_103_code 2 = .ok (.aload_n 0, 1) := by decide +kernel
theorem d_Ar_fill_3 : decode prog_22_method_103_code 3 = .ok (.arraylength, 1) := by decide +kernel
theorem d_Ar_fill_4 : decode prog_22_method_103_code 4 = .ok (.istore_n 3, 1) := by decide +kernel
theorem d_Ar_fill_5 : decode prog_22_method_103_code 5 = .ok (.iload_n 2, 1) := by decide +kernel
theorem d_Ar_fill_6 : decode prog_22_method_103_code 6 = .ok (.iload_n 3, 1) := by decide +kernel
theorem d_Ar_fill_7 : decode prog_22_method_103_code 7 = .ok (.if_icmp .ge (13), 3) := by decide +kernel
theorem d_Ar_fill_10 : decode prog_22_method_103_code 10 = .ok (.aload_n 0, 1) := by decide +kernel
theorem d_Ar_fill_11 : decode prog_22_method_103_code 11 = .ok (.iload_n 2, 1) := by decide +kernel
theorem d_Ar_fill_12 : decode prog_22_method_103_code 12 = .ok (.iload_n 1, 1) := by decide +kernel
theorem d_Ar_fill_13 : decode prog_22_method_103_code 13 = .ok (.iastore, 1) := by decide +kernel
theorem d_Ar_fill_14 : decode prog_22_method_103_code 14 = .ok (.iinc 2 (1), 3) := by decide +kernel
theorem d_Ar_fill_17 : decode prog_22_method_103_code 17 = .ok (.goto (-12), 3) := by decide +kernel
theorem d_Ar_fill_20 : decode prog_22_method_103_code 20 = .ok (.return_, 1) := by decide +kernel
theorem d_Types_variableBit_0 : decode prog_11_method_2_code 0 = .ok (.iconst (1), 1) := by decide +kernel
theorem d_Types_variableBit_1 : decode prog_11_method_2_code 1 = .ok (.iload_n 0, 1) := by decide +kernel
theorem d_Types_variableBit_2 : decode prog_11_method_2_code 2 = .ok (.ishl, 1) := by decide +kernel
theorem d_Types_variableBit_3 : decode prog_11_method_2_code 3 = .ok (.ireturn, 1) := by decide +kernel
theorem d_Types_init_0 : decode prog_11_method_1_code 0 = .ok (.aload_n 0, 1) := by decide +kernel
theorem d_Types_init_1 : decode prog_11_method_1_code 1 = .ok (.invokespecial 3, 3) := by decide +kernel
theorem d_Types_init_4 : decode prog_11_method_1_code 4 = .ok (.aload_n 0, 1) := by decide +kernel
theorem d_Types_init_5 : decode prog_11_method_1_code 5 = .ok (.sipush (512), 3) := by decide +kernel
theorem d_Types_init_8 : decode prog_11_method_1_code 8 = .ok (.newarray .int, 2) := by decide +kernel
theorem d_Types_init_10 : decode prog_11_method_1_code 10 = .ok (.putfield 11, 3) := by decide +kernel
theorem d_Types_init_13 : decode prog_11_method_1_code 13 = .ok (.aload_n 0, 1) := by decide +kernel
theorem d_Types_init_14 : decode prog_11_method_1_code 14 = .ok (.sipush (1536), 3) := by decide +kernel
theorem d_Types_init_17 : decode prog_11_method_1_code 17 = .ok (.newarray .int, 2) := by decide +kernel
theorem d_Types_init_19 : decode prog_11_method_1_code 19 = .ok (.putfield 15, 3) := by decide +kernel
theorem d_Types_init_22 : decode prog_11_method_1_code 22 = .ok (.aload_n 0, 1) := by decide +kernel
theorem d_Types_init_23 : decode prog_11_method_1_code 23 = .ok (.sipush (512), 3) := by decide +kernel
theorem d_Types_init_26 : decode prog_11_method_1_code 26 = .ok (.newarray .int, 2) := by decide +kernel
theorem d_Types_init_28 : decode prog_11_method_1_code 28 = .ok (.putfield 18, 3) := by decide +kernel
theorem d_Types_init_31 : decode prog_11_method_1_code 31 = .ok (.aload_n 0, 1) := by decide +kernel
theorem d_Types_init_32 : decode prog_11_method_1_code 32 = .ok (.sipush (512), 3) := by decide +kernel
theorem d_Types_init_35 : decode prog_11_method_1_code 35 = .ok (.newarray .int, 2) := by decide +kernel
theorem d_Types_init_37 : decode prog_11_method_1_code 37 = .ok (.putfield 21, 3) := by decide +kernel
theorem d_Types_init_40 : decode prog_11_method_1_code 40 = .ok (.aload_n 0, 1) := by decide +kernel
theorem d_Types_init_41 : decode prog_11_method_1_code 41 = .ok (.sipush (512), 3) := by decide +kernel
theorem d_Types_init_44 : decode prog_11_method_1_code 44 = .ok (.newarray .int, 2) := by decide +kernel
theorem d_Types_init_46 : decode prog_11_method_1_code 46 = .ok (.putfield 24, 3) := by decide +kernel
theorem d_Types_init_49 : decode prog_11_method_1_code 49 = .ok (.aload_n 0, 1) := by decide +kernel
theorem d_Types_init_50 : decode prog_11_method_1_code 50 = .ok (.sipush (1024), 3) := by decide +kernel
theorem d_Types_init_53 : decode prog_11_method_1_code 53 = .ok (.newarray .int, 2) := by decide +kernel
theorem d_Types_init_55 : decode prog_11_method_1_code 55 = .ok (.putfield 27, 3) := by decide +kernel
theorem d_Types_init_58 : decode prog_11_method_1_code 58 = .ok (.aload_n 0, 1) := by decide +kernel
theorem d_Types_init_59 : decode prog_11_method_1_code 59 = .ok (.bipush (8), 2) := by decide +kernel
theorem d_Types_init_61 : decode prog_11_method_1_code 61 = .ok (.putfield 30, 3) := by decide +kernel
theorem d_Types_init_64 : decode prog_11_method_1_code 64 = .ok (.aload_n 0, 1) := by decide +kernel
theorem d_Types_init_65 : decode prog_11_method_1_code 65 = .ok (.getfield 27, 3) := by decide +kernel
theorem d_Types_init_68 : decode prog_11_method_1_code 68 = .ok (.iconst (-1), 1) := by decide +kernel
theorem d_Types_init_69 : decode prog_11_method_1_code 69 = .ok (.invokestatic 34, 3) := by decide +kernel
theorem d_Types_init_72 : decode prog_11_method_1_code 72 = .ok (.iconst (0), 1) := by decide +kernel
theorem d_Types_init_73 : decode prog_11_method_1_code 73 = .ok (.istore_n 1, 1) := by decide +kernel
theorem d_Types_init_74 : decode prog_11_method_1_code 74 = .ok (.iload_n 1, 1) := by decide +kernel
theorem d_Types_init_75 : decode prog_11_method_1_code 75 = .ok (.bipush (8), 2) := by decide +kernel
theorem d_Types_init_77 : decode prog_11_method_1_code 77 = .ok (.if_icmp .ge (26), 3) := by decide +kernel
theorem d_Types_init_80 : decode prog_11_method_1_code 80 = .ok (.aload_n 0, 1) := by decide +kernel
theorem d_Types_init_81 : decode prog_11_method_1_code 81 = .ok (.getfield 11, 3) := by decide +kernel
theorem d_Types_init_84 : decode prog_11_method_1_code 84 = .ok (.iload_n 1, 1) := by decide +kernel
theorem d_Types_init_85 : decode prog_11_method_1_code 85 = .ok (.iconst (-1), 1) := by decide +kernel
theorem d_Types_init_86 : decode prog_11_method_1_code 86 = .ok (.iastore, 1) := by decide +kernel
theorem d_Types_init_87 : decode prog_11_method_1_code 87 = .ok (.aload_n 0, 1) := by decide +kernel
theorem d_Types_init_88 : decode prog_11_method_1_code 88 = .ok (.getfield 18, 3) := by decide +kernel
theorem d_Types_init_91 : decode prog_11_method_1_code 91 = .ok (.iload_n 1, 1) := by decide +kernel
theorem d_Types_init_92 : decode prog_11_method_1_code 92 = .ok (.iload_n 1, 1) := by decide +kernel
theorem d_Types_init_93 : decode prog_11_method_1_code 93 = .ok (.invokestatic 40, 3) := by decide +kernel
theorem d_Types_init_96 : decode prog_11_method_1_code 96 = .ok (.iastore, 1) := by decide +kernel
theorem d_Types_init_97 : decode prog_11_method_1_code 97 = .ok (.iinc 1 (1), 3) := by decide +kernel
theorem d_Types_init_100 : decode prog_11_method_1_code 100 = .ok (.goto (-26), 3) := by decide +kernel
theorem d_Types_init_103 : decode prog_11_method_1_code 103 = .ok (.iconst (0), 1) := by decide +kernel
theorem d_Types_init_104 : decode prog_11_method_1_code 104 = .ok (.istore_n 1, 1) := by decide +kernel
theorem d_Types_init_105 : decode prog_11_method_1_code 105 = .ok (.iload_n 1, 1) := by decide +kernel
theorem d_Types_init_106 : decode prog_11_method_1_code 106 = .ok (.bipush (24), 2) := by decide +kernel
theorem d_Types_init_108 : decode prog_11_method_1_code 108 = .ok (.if_icmp .ge (16), 3) := by decide +kernel
theorem d_Types_init_111 : decode prog_11_method_1_code 111 = .ok (.aload_n 0, 1) := by decide +kernel
theorem d_Types_init_112 : decode prog_11_method_1_code 112 = .ok (.getfield 15, 3) := by decide +kernel
theorem d_Types_init_115 : decode prog_11_method_1_code 115 = .ok (.iload_n 1, 1) := by decide +kernel
theorem d_Types_init_116 : decode prog_11_method_1_code 116 = .ok (.iconst (-1), 1) := by decide +kernel
theorem d_Types_init_117 : decode prog_11_method_1_code 117 = .ok (.iastore, 1) := by decide +kernel
theorem d_Types_init_118 : decode prog_11_method_1_code 118 = .ok (.iinc 1 (1), 3) := by decide +kernel
theorem d_Types_init_121 : decode prog_11_method_1_code 121 = .ok (.goto (-16), 3) := by decide +kernel
theorem d_Types_init_124 : decode prog_11_method_1_code 124 = .ok (.return_, 1) := by decide +kernel
theorem d_Code_init_0 : decode prog_3_method_1_code 0 = .ok (.aload_n 0, 1) := by decide +kernel
theorem d_Code_init_1 : decode prog_3_method_1_code 1 = .ok (.invokespecial 3, 3) := by decide +kernel
theorem d_Code_init_4 : decode prog_3_method_1_code 4 = .ok (.aload_n 0, 1) := by decide +kernel
theorem d_Code_init_5 : decode prog_3_method_1_code 5 = .ok (.sipush (1120), 3) := by decide +kernel
theorem d_Code_init_8 : decode prog_3_method_1_code 8 = .ok (.newarray .int, 2) := by decide +kernel
theorem d_Code_init_10 : decode prog_3_method_1_code 10 = .ok (.putfield 11, 3) := by decide +kernel
theorem d_Code_init_13 : decode prog_3_method_1_code 13 = .ok (.aload_n 0, 1) := by decide +kernel
theorem d_Code_init_14 : decode prog_3_method_1_code 14 = .ok (.sipush (1120), 3) := by decide +kernel
theorem d_Code_init_17 : decode prog_3_method_1_code 17 = .ok (.newarray .int, 2) := by decide +kernel
theorem d_Code_init_19 : decode prog_3_method_1_code 19 = .ok (.putfield 15, 3) := by decide +kernel
theorem d_Code_init_22 : decode prog_3_method_1_code 22 = .ok (.aload_n 0, 1) := by decide +kernel
theorem d_Code_init_23 : decode prog_3_method_1_code 23 = .ok (.sipush (1120), 3) := by decide +kernel
theorem d_Code_init_26 : decode prog_3_method_1_code 26 = .ok (.newarray .int, 2) := by decide +kernel
theorem d_Code_init_28 : decode prog_3_method_1_code 28 = .ok (.putfield 18, 3) := by decide +kernel
theorem d_Code_init_31 : decode prog_3_method_1_code 31 = .ok (.aload_n 0, 1) := by decide +kernel
theorem d_Code_init_32 : decode prog_3_method_1_code 32 = .ok (.sipush (1120), 3) := by decide +kernel
theorem d_Code_init_35 : decode prog_3_method_1_code 35 = .ok (.newarray .int, 2) := by decide +kernel
theorem d_Code_init_37 : decode prog_3_method_1_code 37 = .ok (.putfield 21, 3) := by decide +kernel
theorem d_Code_init_40 : decode prog_3_method_1_code 40 = .ok (.return_, 1) := by decide +kernel
theorem d_Bounds_init_0 : decode prog_2_method_1_code 0 = .ok (.aload_n 0, 1) := by decide +kernel
theorem d_Bounds_init_1 : decode prog_2_method_1_code 1 = .ok (.invokespecial 3, 3) := by decide +kernel
theorem d_Bounds_init_4 : decode prog_2_method_1_code 4 = .ok (.aload_n 0, 1) := by decide +kernel
theorem d_Bounds_init_5 : decode prog_2_method_1_code 5 = .ok (.iconst (3), 1) := by decide +kernel
theorem d_Bounds_init_6 : decode prog_2_method_1_code 6 = .ok (.newarray .int, 2) := by decide +kernel
theorem d_Bounds_init_8 : decode prog_2_method_1_code 8 = .ok (.putfield 9, 3) := by decide +kernel
theorem d_Bounds_init_11 : decode prog_2_method_1_code 11 = .ok (.aload_n 0, 1) := by decide +kernel
theorem d_Bounds_init_12 : decode prog_2_method_1_code 12 = .ok (.iconst (3), 1) := by decide +kernel
theorem d_Bounds_init_13 : decode prog_2_method_1_code 13 = .ok (.newarray .int, 2) := by decide +kernel
theorem d_Bounds_init_15 : decode prog_2_method_1_code 15 = .ok (.putfield 15, 3) := by decide +kernel
theorem d_Bounds_init_18 : decode prog_2_method_1_code 18 = .ok (.return_, 1) := by decide +kernel
theorem d_ABC_init_0 : decode prog_19_method_1_code 0 = .ok (.aload_n 0, 1) := by decide +kernel
theorem d_ABC_init_1 : decode prog_19_method_1_code 1 = .ok (.invokespecial 1, 3) := by decide +kernel
theorem d_ABC_init_4 : decode prog_19_method_1_code 4 = .ok (.return_, 1) := by decide +kernel
theorem d_ABL_init_0 : decode prog_20_method_1_code 0 = .ok (.aload_n 0, 1) := by decide +kernel
theorem d_ABL_init_1 : decode prog_20_method_1_code 1 = .ok (.invokespecial 1, 3) := by decide +kernel
theorem d_ABL_init_4 : decode prog_20_method_1_code 4 = .ok (.aload_n 0, 1) := by decide +kernel
theorem d_ABL_init_5 : decode prog_20_method_1_code 5 = .ok (.iconst (0), 1) := by decide +kernel
theorem d_ABL_init_6 : decode prog_20_method_1_code 6 = .ok (.putfield 7, 3) := by decide +kernel
theorem d_ABL_init_9 : decode prog_20_method_1_code 9 = .ok (.return_, 1) := by decide +kernel
theorem d_AL_init_0 : decode prog_21_method_2_code 0 = .ok (.aload_n 0, 1) := by decide +kernel
theorem d_AL_init_1 : decode prog_21_method_2_code 1 = .ok (.invokespecial 1, 3) := by decide +kernel
theorem d_AL_init_4 : decode prog_21_method_2_code 4 = .ok (.aload_n 0, 1) := by decide +kernel
theorem d_AL_init_5 : decode prog_21_method_2_code 5 = .ok (.getstatic 39, 3) := by decide +kernel
theorem d_AL_init_8 : decode prog_21_method_2_code 8 = .ok (.putfield 9, 3) := by decide +kernel
theorem d_AL_init_11 : decode prog_21_method_2_code 11 = .ok (.return_, 1) := by decide +kernel
theorem d_Entry_init_0 : decode prog_5_method_1_code 0 = .ok (.aload_n 0, 1) := by decide +kernel
theorem d_Entry_init_1 : decode prog_5_method_1_code 1 = .ok (.invokespecial 3, 3) := by decide +kernel
theorem d_Entry_init_4 : decode prog_5_method_1_code 4 = .ok (.aload_n 0, 1) := by decide +kernel
theorem d_Entry_init_5 : decode prog_5_method_1_code 5 = .ok (.new 9, 3) := by decide +kernel
theorem d_Entry_init_8 : decode prog_5_method_1_code 8 = .ok (.dup, 1) := by decide +kernel
theorem d_Entry_init_9 : decode prog_5_method_1_code 9 = .ok (.invokespecial 11, 3) := by decide +kernel
theorem d_Entry_init_12 : decode prog_5_method_1_code 12 = .ok (.putfield 12, 3) := by decide +kernel
theorem d_Entry_init_15 : decode prog_5_method_1_code 15 = .ok (.aload_n 0, 1) := by decide +kernel
theorem d_Entry_init_16 : decode prog_5_method_1_code 16 = .ok (.bipush (26), 2) := by decide +kernel
theorem d_Entry_init_18 : decode prog_5_method_1_code 18 = .ok (.anewarray 18, 3) := by decide +kernel
theorem d_Entry_init_21 : decode prog_5_method_1_code 21 = .ok (.putfield 20, 3) := by decide +kernel
theorem d_Entry_init_24 : decode prog_5_method_1_code 24 = .ok (.aload_n 0, 1) := by decide +kernel
theorem d_Entry_init_25 : decode prog_5_method_1_code 25 = .ok (.bipush (6), 2) := by decide +kernel
theorem d_Entry_init_27 : decode prog_5_method_1_code 27 = .ok (.newarray .int, 2) := by decide +kernel
theorem d_Entry_init_29 : decode prog_5_method_1_code 29 = .ok (.putfield 24, 3) := by decide +kernel
theorem d_Entry_init_32 : decode prog_5_method_1_code 32 = .ok (.aload_n 0, 1) := by decide +kernel
theorem d_Entry_init_33 : decode prog_5_method_1_code 33 = .ok (.bipush (6), 2) := by decide +kernel
theorem d_Entry_init_35 : decode prog_5_method_1_code 35 = .ok (.newarray .int, 2) := by decide +kernel
theorem d_Entry_init_37 : decode prog_5_method_1_code 37 = .ok (.putfield 28, 3) := by decide +kernel
theorem d_Entry_init_40 : decode prog_5_method_1_code 40 = .ok (.aload_n 0, 1) := by decide +kernel
theorem d_Entry_init_41 : decode prog_5_method_1_code 41 = .ok (.iload_n 1, 1) := by decide +kernel
theorem d_Entry_init_42 : decode prog_5_method_1_code 42 = .ok (.putfield 31, 3) := by decide +kernel
theorem d_Entry_init_45 : decode prog_5_method_1_code 45 = .ok (.aload_n 0, 1) := by decide +kernel
theorem d_Entry_init_46 : decode prog_5_method_1_code 46 = .ok (.aload_n 2, 1) := by decide +kernel
theorem d_Entry_init_47 : decode prog_5_method_1_code 47 = .ok (.putfield 35, 3) := by decide +kernel
theorem d_Entry_init_50 : decode prog_5_method_1_code 50 = .ok (.aload_n 0, 1) := by decide +kernel
theorem d_Entry_init_51 : decode prog_5_method_1_code 51 = .ok (.iload_n 3, 1) := by decide +kernel
theorem d_Entry_init_52 : decode prog_5_method_1_code 52 = .ok (.putfield 39, 3) := by decide +kernel
theorem d_Entry_init_55 : decode prog_5_method_1_code 55 = .ok (.aload_n 0, 1) := by decide +kernel
theorem d_Entry_init_56 : decode prog_5_method_1_code 56 = .ok (.iload 4, 2) := by decide +kernel
theorem d_Entry_init_58 : decode prog_5_method_1_code 58 = .ok (.putfield 42, 3) := by decide +kernel
theorem d_Entry_init_61 : decode prog_5_method_1_code 61 = .ok (.return_, 1) := by decide +kernel
theorem d_Rules_init_0 : decode prog_10_method_1_code 0 = .ok (.aload_n 0, 1) := by decide +kernel
theorem d_Rules_init_1 : decode prog_10_method_1_code 1 = .ok (.invokespecial 3, 3) := by decide +kernel
theorem d_Rules_init_4 : decode prog_10_method_1_code 4 = .ok (.aload_n 0, 1) := by decide +kernel
theorem d_Rules_init_5 : decode prog_10_method_1_code 5 = .ok (.bipush (8), 2) := by decide +kernel
theorem d_Rules_init_7 : decode prog_10_method_1_code 7 = .ok (.anewarray 9, 3) := by decide +kernel
theorem d_Rules_init_10 : decode prog_10_method_1_code 10 = .ok (.putfield 11, 3) := by decide +kernel
theorem d_Rules_init_13 : decode prog_10_method_1_code 13 = .ok (.aload_n 0, 1) := by decide +kernel
theorem d_Rules_init_14 : decode prog_10_method_1_code 14 = .ok (.bipush (8), 2) := by decide +kernel
theorem d_Rules_init_16 : decode prog_10_method_1_code 16 = .ok (.newarray .int, 2) := by decide +kernel
theorem d_Rules_init_18 : decode prog_10_method_1_code 18 = .ok (.putfield 17, 3) := by decide +kernel
theorem d_Rules_init_21 : decode prog_10_method_1_code 21 = .ok (.aload_n 0, 1) := by decide +kernel
theorem d_Rules_init_22 : decode prog_10_method_1_code 22 = .ok (.bipush (8), 2) := by decide +kernel
theorem d_Rules_init_24 : decode prog_10_method_1_code 24 = .ok (.newarray .int, 2) := by decide +kernel
theorem d_Rules_init_26 : decode prog_10_method_1_code 26 = .ok (.putfield 21, 3) := by decide +kernel
theorem d_Rules_init_29 : decode prog_10_method_1_code 29 = .ok (.aload_n 0, 1) := by decide +kernel
theorem d_Rules_init_30 : decode prog_10_method_1_code 30 = .ok (.aload_n 1, 1) := by decide +kernel
theorem d_Rules_init_31 : decode prog_10_method_1_code 31 = .ok (.putfield 24, 3) := by decide +kernel
theorem d_Rules_init_34 : decode prog_10_method_1_code 34 = .ok (.aload_n 0, 1) := by decide +kernel
theorem d_Rules_init_35 : decode prog_10_method_1_code 35 = .ok (.getfield 11, 3) := by decide +kernel
theorem d_Rules_init_38 : decode prog_10_method_1_code 38 = .ok (.iconst (0), 1) := by decide +kernel
theorem d_Rules_init_39 : decode prog_10_method_1_code 39 = .ok (.new 9, 3) := by decide +kernel
theorem d_Rules_init_42 : decode prog_10_method_1_code 42 = .ok (.dup, 1) := by decide +kernel
theorem d_Rules_init_43 : decode prog_10_method_1_code 43 = .ok (.iconst (0), 1) := by decide +kernel
theorem d_Rules_init_44 : decode prog_10_method_1_code 44 = .ok (.new 28, 3) := by decide +kernel
theorem d_Rules_init_47 : decode prog_10_method_1_code 47 = .ok (.dup, 1) := by decide +kernel
theorem d_Rules_init_48 : decode prog_10_method_1_code 48 = .ok (.invokespecial 30, 3) := by decide +kernel
theorem d_Rules_init_51 : decode prog_10_method_1_code 51 = .ok (.iconst (-1), 1) := by decide +kernel
theorem d_Rules_init_52 : decode prog_10_method_1_code 52 = .ok (.iconst (-1), 1) := by decide +kernel
theorem d_Rules_init_53 : decode prog_10_method_1_code 53 = .ok (.invokespecial 31, 3) := by decide +kernel
theorem d_Rules_init_56 : decode prog_10_method_1_code 56 = .ok (.aastore, 1) := by decide +kernel
theorem d_Rules_init_57 : decode prog_10_method_1_code 57 = .ok (.aload_n 0, 1) := by decide +kernel
theorem d_Rules_init_58 : decode prog_10_method_1_code 58 = .ok (.getfield 17, 3) := by decide +kernel
theorem d_Rules_init_61 : decode prog_10_method_1_code 61 = .ok (.iconst (-1), 1) := by decide +kernel
theorem d_Rules_init_62 : decode prog_10_method_1_code 62 = .ok (.invokestatic 34, 3) := by decide +kernel
theorem d_Rules_init_65 : decode prog_10_method_1_code 65 = .ok (.return_, 1) := by decide +kernel
theorem d_Reader_init_0 : decode prog_9_method_1_code 0 = .ok (.aload_n 0, 1) := by decide +kernel
theorem d_Reader_init_1 : decode prog_9_method_1_code 1 = .ok (.invokespecial 3, 3) := by decide +kernel
theorem d_Reader_init_4 : decode prog_9_method_1_code 4 = .ok (.aload_n 0, 1) := by decide +kernel
theorem d_Reader_init_5 : decode prog_9_method_1_code 5 = .ok (.sipush (141), 3) := by decide +kernel
theorem d_Reader_init_8 : decode prog_9_method_1_code 8 = .ok (.newarray .char, 2) := by decide +kernel
theorem d_Reader_init_10 : decode prog_9_method_1_code 10 = .ok (.putfield 9, 3) := by decide +kernel
theorem d_Reader_init_13 : decode prog_9_method_1_code 13 = .ok (.aload_n 0, 1) := by decide +kernel
theorem d_Reader_init_14 : decode prog_9_method_1_code 14 = .ok (.sipush (141), 3) := by decide +kernel
theorem d_Reader_init_17 : decode prog_9_method_1_code 17 = .ok (.newarray .int, 2) := by decide +kernel
theorem d_Reader_init_19 : decode prog_9_method_1_code 19 = .ok (.putfield 15, 3) := by decide +kernel
theorem d_Reader_init_22 : decode prog_9_method_1_code 22 = .ok (.aload_n 0, 1) := by decide +kernel
theorem d_Reader_init_23 : decode prog_9_method_1_code 23 = .ok (.sipush (140), 3) := by decide +kernel
theorem d_Reader_init_26 : decode prog_9_method_1_code 26 = .ok (.newarray .int, 2) := by decide +kernel
theorem d_Reader_init_28 : decode prog_9_method_1_code 28 = .ok (.putfield 19, 3) := by decide +kernel
theorem d_Reader_init_31 : decode prog_9_method_1_code 31 = .ok (.aload_n 0, 1) := by decide +kernel
theorem d_Reader_init_32 : decode prog_9_method_1_code 32 = .ok (.aload_n 1, 1) := by decide +kernel
theorem d_Reader_init_33 : decode prog_9_method_1_code 33 = .ok (.putfield 22, 3) := by decide +kernel
theorem d_Reader_init_36 : decode prog_9_method_1_code 36 = .ok (.aload_n 0, 1) := by decide +kernel
theorem d_Reader_init_37 : decode prog_9_method_1_code 37 = .ok (.aload_n 2, 1) := by decide +kernel
theorem d_Reader_init_38 : decode prog_9_method_1_code 38 = .ok (.putfield 25, 3) := by decide +kernel
theorem d_Reader_init_41 : decode prog_9_method_1_code 41 = .ok (.aload_n 0, 1) := by decide +kernel
theorem d_Reader_init_42 : decode prog_9_method_1_code 42 = .ok (.aload_n 3, 1) := by decide +kernel
theorem d_Reader_init_43 : decode prog_9_method_1_code 43 = .ok (.putfield 29, 3) := by decide +kernel
theorem d_Reader_init_46 : decode prog_9_method_1_code 46 = .ok (.return_, 1) := by decide +kernel
theorem d_Expressions_init_0 : decode prog_6_method_1_code 0 = .ok (.aload_n 0, 1) := by decide +kernel
theorem d_Expressions_init_1 : decode prog_6_method_1_code 1 = .ok (.invokespecial 3, 3) := by decide +kernel
theorem d_Expressions_init_4 : decode prog_6_method_1_code 4 = .ok (.aload_n 0, 1) := by decide +kernel
theorem d_Expressions_init_5 : decode prog_6_method_1_code 5 = .ok (.bipush (72), 2) := by decide +kernel
theorem d_Expressions_init_7 : decode prog_6_method_1_code 7 = .ok (.newarray .int, 2) := by decide +kernel
theorem d_Expressions_init_9 : decode prog_6_method_1_code 9 = .ok (.putfield 11, 3) := by decide +kernel
theorem d_Expressions_init_12 : decode prog_6_method_1_code 12 = .ok (.aload_n 0, 1) := by decide +kernel
theorem d_Expressions_init_13 : decode prog_6_method_1_code 13 = .ok (.bipush (6), 2) := by decide +kernel
theorem d_Expressions_init_15 : decode prog_6_method_1_code 15 = .ok (.newarray .int, 2) := by decide +kernel
theorem d_Expressions_init_17 : decode prog_6_method_1_code 17 = .ok (.putfield 15, 3) := by decide +kernel
theorem d_Expressions_init_20 : decode prog_6_method_1_code 20 = .ok (.aload_n 0, 1) := by decide +kernel
theorem d_Expressions_init_21 : decode prog_6_method_1_code 21 = .ok (.aload_n 1, 1) := by decide +kernel
theorem d_Expressions_init_22 : decode prog_6_method_1_code 22 = .ok (.putfield 18, 3) := by decide +kernel
theorem d_Expressions_init_25 : decode prog_6_method_1_code 25 = .ok (.aload_n 0, 1) := by decide +kernel
theorem d_Expressions_init_26 : decode prog_6_method_1_code 26 = .ok (.aload_n 2, 1) := by decide +kernel
theorem d_Expressions_init_27 : decode prog_6_method_1_code 27 = .ok (.putfield 22, 3) := by decide +kernel
theorem d_Expressions_init_30 : decode prog_6_method_1_code 30 = .ok (.aload_n 0, 1) := by decide +kernel
theorem d_Expressions_init_31 : decode prog_6_method_1_code 31 = .ok (.aload_n 3, 1) := by decide +kernel
theorem d_Expressions_init_32 : decode prog_6_method_1_code 32 = .ok (.putfield 26, 3) := by decide +kernel
theorem d_Expressions_init_35 : decode prog_6_method_1_code 35 = .ok (.return_, 1) := by decide +kernel
theorem d_Declarations_init_0 : decode prog_4_method_1_code 0 = .ok (.aload_n 0, 1) := by decide +kernel
theorem d_Declarations_init_1 : decode prog_4_method_1_code 1 = .ok (.invokespecial 3, 3) := by decide +kernel
theorem d_Declarations_init_4 : decode prog_4_method_1_code 4 = .ok (.aload_n 0, 1) := by decide +kernel
theorem d_Declarations_init_5 : decode prog_4_method_1_code 5 = .ok (.aload_n 1, 1) := by decide +kernel
theorem d_Declarations_init_6 : decode prog_4_method_1_code 6 = .ok (.putfield 9, 3) := by decide +kernel
theorem d_Declarations_init_9 : decode prog_4_method_1_code 9 = .ok (.aload_n 0, 1) := by decide +kernel
theorem d_Declarations_init_10 : decode prog_4_method_1_code 10 = .ok (.aload_n 2, 1) := by decide +kernel
theorem d_Declarations_init_11 : decode prog_4_method_1_code 11 = .ok (.putfield 15, 3) := by decide +kernel
theorem d_Declarations_init_14 : decode prog_4_method_1_code 14 = .ok (.aload_n 0, 1) := by decide +kernel
theorem d_Declarations_init_15 : decode prog_4_method_1_code 15 = .ok (.aload_n 3, 1) := by decide +kernel
theorem d_Declarations_init_16 : decode prog_4_method_1_code 16 = .ok (.putfield 19, 3) := by decide +kernel
theorem d_Declarations_init_19 : decode prog_4_method_1_code 19 = .ok (.return_, 1) := by decide +kernel
theorem d_Machine_init_0 : decode prog_7_method_1_code 0 = .ok (.aload_n 0, 1) := by decide +kernel
theorem d_Machine_init_1 : decode prog_7_method_1_code 1 = .ok (.invokespecial 5, 3) := by decide +kernel
theorem d_Machine_init_4 : decode prog_7_method_1_code 4 = .ok (.aload_n 0, 1) := by decide +kernel
theorem d_Machine_init_5 : decode prog_7_method_1_code 5 = .ok (.sipush (2870), 3) := by decide +kernel
theorem d_Machine_init_8 : decode prog_7_method_1_code 8 = .ok (.newarray .int, 2) := by decide +kernel
theorem d_Machine_init_10 : decode prog_7_method_1_code 10 = .ok (.putfield 11, 3) := by decide +kernel
theorem d_Machine_init_13 : decode prog_7_method_1_code 13 = .ok (.aload_n 0, 1) := by decide +kernel
theorem d_Machine_init_14 : decode prog_7_method_1_code 14 = .ok (.sipush (962), 3) := by decide +kernel
theorem d_Machine_init_17 : decode prog_7_method_1_code 17 = .ok (.newarray .int, 2) := by decide +kernel
theorem d_Machine_init_19 : decode prog_7_method_1_code 19 = .ok (.putfield 15, 3) := by decide +kernel
theorem d_Machine_init_22 : decode prog_7_method_1_code 22 = .ok (.aload_n 0, 1) := by decide +kernel
theorem d_Machine_init_23 : decode prog_7_method_1_code 23 = .ok (.bipush (36), 2) := by decide +kernel
theorem d_Machine_init_25 : decode prog_7_method_1_code 25 = .ok (.newarray .int, 2) := by decide +kernel
theorem d_Machine_init_27 : decode prog_7_method_1_code 27 = .ok (.putfield 18, 3) := by decide +kernel
theorem d_Machine_init_30 : decode prog_7_method_1_code 30 = .ok (.aload_n 0, 1) := by decide +kernel
theorem d_Machine_init_31 : decode prog_7_method_1_code 31 = .ok (.sipush (200), 3) := by decide +kernel
theorem d_Machine_init_34 : decode prog_7_method_1_code 34 = .ok (.newarray .char, 2) := by decide +kernel
theorem d_Machine_init_36 : decode prog_7_method_1_code 36 = .ok (.putfield 21, 3) := by decide +kernel
theorem d_Machine_init_39 : decode prog_7_method_1_code 39 = .ok (.aload_n 0, 1) := by decide +kernel
theorem d_Machine_init_40 : decode prog_7_method_1_code 40 = .ok (.sipush (200), 3) := by decide +kernel
theorem d_Machine_init_43 : decode prog_7_method_1_code 43 = .ok (.newarray .int, 2) := by decide +kernel
theorem d_Machine_init_45 : decode prog_7_method_1_code 45 = .ok (.putfield 25, 3) := by decide +kernel
theorem d_Machine_init_48 : decode prog_7_method_1_code 48 = .ok (.aload_n 0, 1) := by decide +kernel
theorem d_Machine_init_49 : decode prog_7_method_1_code 49 = .ok (.sipush (200), 3) := by decide +kernel
theorem d_Machine_init_52 : decode prog_7_method_1_code 52 = .ok (.newarray .int, 2) := by decide +kernel
theorem d_Machine_init_54 : decode prog_7_method_1_code 54 = .ok (.putfield 28, 3) := by decide +kernel
theorem d_Machine_init_57 : decode prog_7_method_1_code 57 = .ok (.aload_n 0, 1) := by decide +kernel
theorem d_Machine_init_58 : decode prog_7_method_1_code 58 = .ok (.aload_n 1, 1) := by decide +kernel
theorem d_Machine_init_59 : decode prog_7_method_1_code 59 = .ok (.putfield 31, 3) := by decide +kernel
theorem d_Machine_init_62 : decode prog_7_method_1_code 62 = .ok (.aload_n 0, 1) := by decide +kernel
theorem d_Machine_init_63 : decode prog_7_method_1_code 63 = .ok (.aload_n 2, 1) := by decide +kernel
theorem d_Machine_init_64 : decode prog_7_method_1_code 64 = .ok (.putfield 35, 3) := by decide +kernel
theorem d_Machine_init_67 : decode prog_7_method_1_code 67 = .ok (.aload_n 0, 1) := by decide +kernel
theorem d_Machine_init_68 : decode prog_7_method_1_code 68 = .ok (.aload_n 3, 1) := by decide +kernel
theorem d_Machine_init_69 : decode prog_7_method_1_code 69 = .ok (.putfield 39, 3) := by decide +kernel
theorem d_Machine_init_72 : decode prog_7_method_1_code 72 = .ok (.return_, 1) := by decide +kernel
theorem d_BT_init_0 : decode prog_1_method_1_code 0 = .ok (.aload_n 0, 1) := by decide +kernel
theorem d_BT_init_1 : decode prog_1_method_1_code 1 = .ok (.invokespecial 1, 3) := by decide +kernel
theorem d_BT_init_4 : decode prog_1_method_1_code 4 = .ok (.aload_n 0, 1) := by decide +kernel
theorem d_BT_init_5 : decode prog_1_method_1_code 5 = .ok (.sipush (140), 3) := by decide +kernel
theorem d_BT_init_8 : decode prog_1_method_1_code 8 = .ok (.newarray .char, 2) := by decide +kernel
theorem d_BT_init_10 : decode prog_1_method_1_code 10 = .ok (.putfield 9, 3) := by decide +kernel
theorem d_BT_init_13 : decode prog_1_method_1_code 13 = .ok (.aload_n 0, 1) := by decide +kernel
theorem d_BT_init_14 : decode prog_1_method_1_code 14 = .ok (.new 13, 3) := by decide +kernel
theorem d_BT_init_17 : decode prog_1_method_1_code 17 = .ok (.dup, 1) := by decide +kernel
theorem d_BT_init_18 : decode prog_1_method_1_code 18 = .ok (.invokespecial 15, 3) := by decide +kernel
theorem d_BT_init_21 : decode prog_1_method_1_code 21 = .ok (.putfield 16, 3) := by decide +kernel
theorem d_BT_init_24 : decode prog_1_method_1_code 24 = .ok (.aload_n 0, 1) := by decide +kernel
theorem d_BT_init_25 : decode prog_1_method_1_code 25 = .ok (.new 20, 3) := by decide +kernel
