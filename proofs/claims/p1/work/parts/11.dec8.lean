theorem d_Md_readExpression_128 : decode prog_13_method_36_code 128 = .ok (.getfield 104, 3) := by decide +kernel
theorem d_Md_readExpression_131 : decode prog_13_method_36_code 131 = .ok (.iload_n 1, 1) := by decide +kernel
theorem d_Md_readExpression_132 : decode prog_13_method_36_code 132 = .ok (.iconst (1), 1) := by decide +kernel
theorem d_Md_readExpression_133 : decode prog_13_method_36_code 133 = .ok (.isub, 1) := by decide +kernel
theorem d_Md_readExpression_134 : decode prog_13_method_36_code 134 = .ok (.iaload, 1) := by decide +kernel
theorem d_Md_readExpression_135 : decode prog_13_method_36_code 135 = .ok (.iconst (2), 1) := by decide +kernel
theorem d_Md_readExpression_136 : decode prog_13_method_36_code 136 = .ok (.if_icmp .ne (16), 3) := by decide +kernel
theorem d_Md_readExpression_139 : decode prog_13_method_36_code 139 = .ok (.aload_n 0, 1) := by decide +kernel
theorem d_Md_readExpression_140 : decode prog_13_method_36_code 140 = .ok (.bipush (41), 2) := by decide +kernel
theorem d_Md_readExpression_142 : decode prog_13_method_36_code 142 = .ok (.invokevirtual 231, 3) := by decide +kernel
theorem d_Md_readExpression_145 : decode prog_13_method_36_code 145 = .ok (.iload_n 1, 1) := by decide +kernel
theorem d_Md_readExpression_146 : decode prog_13_method_36_code 146 = .ok (.iconst (1), 1) := by decide +kernel
theorem d_Md_readExpression_147 : decode prog_13_method_36_code 147 = .ok (.isub, 1) := by decide +kernel
theorem d_Md_readExpression_148 : decode prog_13_method_36_code 148 = .ok (.istore_n 1, 1) := by decide +kernel
theorem d_Md_readExpression_149 : decode prog_13_method_36_code 149 = .ok (.goto (-143), 3) := by decide +kernel
theorem d_Md_readExpression_152 : decode prog_13_method_36_code 152 = .ok (.aload_n 0, 1) := by decide +kernel
theorem d_Md_readExpression_153 : decode prog_13_method_36_code 153 = .ok (.iconst (4), 1) := by decide +kernel
theorem d_Md_readExpression_154 : decode prog_13_method_36_code 154 = .ok (.aload_n 0, 1) := by decide +kernel
theorem d_Md_readExpression_155 : decode prog_13_method_36_code 155 = .ok (.getfield 110, 3) := by decide +kernel
theorem d_Md_readExpression_158 : decode prog_13_method_36_code 158 = .ok (.iload_n 1, 1) := by decide +kernel
theorem d_Md_readExpression_159 : decode prog_13_method_36_code 159 = .ok (.iconst (1), 1) := by decide +kernel
theorem d_Md_readExpression_160 : decode prog_13_method_36_code 160 = .ok (.isub, 1) := by decide +kernel
theorem d_Md_readExpression_161 : decode prog_13_method_36_code 161 = .ok (.iaload, 1) := by decide +kernel
theorem d_Md_readExpression_162 : decode prog_13_method_36_code 162 = .ok (.iconst (0), 1) := by decide +kernel
theorem d_Md_readExpression_163 : decode prog_13_method_36_code 163 = .ok (.invokevirtual 267, 3) := by decide +kernel
theorem d_Md_readExpression_166 : decode prog_13_method_36_code 166 = .ok (.aload_n 0, 1) := by decide +kernel
theorem d_Md_readExpression_167 : decode prog_13_method_36_code 167 = .ok (.getfield 110, 3) := by decide +kernel
theorem d_Md_readExpression_170 : decode prog_13_method_36_code 170 = .ok (.iload_n 1, 1) := by decide +kernel
theorem d_Md_readExpression_171 : decode prog_13_method_36_code 171 = .ok (.iconst (1), 1) := by decide +kernel
theorem d_Md_readExpression_172 : decode prog_13_method_36_code 172 = .ok (.isub, 1) := by decide +kernel
theorem d_Md_readExpression_173 : decode prog_13_method_36_code 173 = .ok (.aload_n 0, 1) := by decide +kernel
theorem d_Md_readExpression_174 : decode prog_13_method_36_code 174 = .ok (.getfield 110, 3) := by decide +kernel
theorem d_Md_readExpression_177 : decode prog_13_method_36_code 177 = .ok (.iload_n 1, 1) := by decide +kernel
theorem d_Md_readExpression_178 : decode prog_13_method_36_code 178 = .ok (.iconst (1), 1) := by decide +kernel
theorem d_Md_readExpression_179 : decode prog_13_method_36_code 179 = .ok (.isub, 1) := by decide +kernel
theorem d_Md_readExpression_180 : decode prog_13_method_36_code 180 = .ok (.iaload, 1) := by decide +kernel
theorem d_Md_readExpression_181 : decode prog_13_method_36_code 181 = .ok (.iconst (1), 1) := by decide +kernel
theorem d_Md_readExpression_182 : decode prog_13_method_36_code 182 = .ok (.iadd, 1) := by decide +kernel
theorem d_Md_readExpression_183 : decode prog_13_method_36_code 183 = .ok (.iastore, 1) := by decide +kernel
theorem d_Md_readExpression_184 : decode prog_13_method_36_code 184 = .ok (.aload_n 0, 1) := by decide +kernel
theorem d_Md_readExpression_185 : decode prog_13_method_36_code 185 = .ok (.invokevirtual 208, 3) := by decide +kernel
theorem d_Md_readExpression_188 : decode prog_13_method_36_code 188 = .ok (.bipush (44), 2) := by decide +kernel
theorem d_Md_readExpression_190 : decode prog_13_method_36_code 190 = .ok (.if_icmp .ne (7), 3) := by decide +kernel
theorem d_Md_readExpression_193 : decode prog_13_method_36_code 193 = .ok (.iconst (1), 1) := by decide +kernel
theorem d_Md_readExpression_194 : decode prog_13_method_36_code 194 = .ok (.goto (4), 3) := by decide +kernel
theorem d_Md_readExpression_197 : decode prog_13_method_36_code 197 = .ok (.iconst (0), 1) := by decide +kernel
theorem d_Md_readExpression_198 : decode prog_13_method_36_code 198 = .ok (.istore_n 2, 1) := by decide +kernel
theorem d_Md_readExpression_199 : decode prog_13_method_36_code 199 = .ok (.iload_n 2, 1) := by decide +kernel
theorem d_Md_readExpression_200 : decode prog_13_method_36_code 200 = .ok (.ifCond .eq (16), 3) := by decide +kernel
theorem d_Md_readExpression_203 : decode prog_13_method_36_code 203 = .ok (.aload_n 0, 1) := by decide +kernel
theorem d_Md_readExpression_204 : decode prog_13_method_36_code 204 = .ok (.aload_n 0, 1) := by decide +kernel
theorem d_Md_readExpression_205 : decode prog_13_method_36_code 205 = .ok (.getfield 202, 3) := by decide +kernel
theorem d_Md_readExpression_208 : decode prog_13_method_36_code 208 = .ok (.iconst (1), 1) := by decide +kernel
theorem d_Md_readExpression_209 : decode prog_13_method_36_code 209 = .ok (.iadd, 1) := by decide +kernel
theorem d_Md_readExpression_210 : decode prog_13_method_36_code 210 = .ok (.putfield 202, 3) := by decide +kernel
theorem d_Md_readExpression_213 : decode prog_13_method_36_code 213 = .ok (.goto (-207), 3) := by decide +kernel
theorem d_Md_readExpression_216 : decode prog_13_method_36_code 216 = .ok (.aload_n 0, 1) := by decide +kernel
theorem d_Md_readExpression_217 : decode prog_13_method_36_code 217 = .ok (.bipush (41), 2) := by decide +kernel
theorem d_Md_readExpression_219 : decode prog_13_method_36_code 219 = .ok (.invokevirtual 231, 3) := by decide +kernel
theorem d_Md_readExpression_222 : decode prog_13_method_36_code 222 = .ok (.iload_n 1, 1) := by decide +kernel
theorem d_Md_readExpression_223 : decode prog_13_method_36_code 223 = .ok (.iconst (1), 1) := by decide +kernel
theorem d_Md_readExpression_224 : decode prog_13_method_36_code 224 = .ok (.isub, 1) := by decide +kernel
theorem d_Md_readExpression_225 : decode prog_13_method_36_code 225 = .ok (.istore_n 1, 1) := by decide +kernel
theorem d_Md_readExpression_226 : decode prog_13_method_36_code 226 = .ok (.aload_n 0, 1) := by decide +kernel
theorem d_Md_readExpression_227 : decode prog_13_method_36_code 227 = .ok (.iload_n 1, 1) := by decide +kernel
theorem d_Md_readExpression_234 : decode prog_13_method_36_code 234 = .ok (.return_, 1) := by decide +kernel
theorem d_Md_classOf_0 : decode prog_13_method_6_code 0 = .ok (.aload_n 0, 1) := by decide +kernel
theorem d_Md_classOf_1 : decode prog_13_method_6_code 1 = .ok (.getfield 13, 3) := by decide +kernel
theorem d_Md_classOf_4 : decode prog_13_method_6_code 4 = .ok (.iload_n 1, 1) := by decide +kernel
theorem d_Md_classOf_5 : decode prog_13_method_6_code 5 = .ok (.iaload, 1) := by decide +kernel
theorem d_Md_classOf_6 : decode prog_13_method_6_code 6 = .ok (.bipush (8), 2) := by decide +kernel
theorem d_Md_classOf_8 : decode prog_13_method_6_code 8 = .ok (.isub, 1) := by decide +kernel
theorem d_Md_classOf_9 : decode prog_13_method_6_code 9 = .ok (.ireturn, 1) := by decide +kernel
theorem d_Md_upper_0 : decode prog_13_method_49_code 0 = .ok (.aload_n 0, 1) := by decide +kernel
theorem d_Md_upper_1 : decode prog_13_method_49_code 1 = .ok (.getfield 46, 3) := by decide +kernel
theorem d_Md_upper_4 : decode prog_13_method_49_code 4 = .ok (.iload_n 1, 1) := by decide +kernel
theorem d_Md_upper_5 : decode prog_13_method_49_code 5 = .ok (.iaload, 1) := by decide +kernel
theorem d_Md_upper_6 : decode prog_13_method_49_code 6 = .ok (.ifCond .ge (7), 3) := by decide +kernel
theorem d_Md_upper_9 : decode prog_13_method_49_code 9 = .ok (.iconst (-1), 1) := by decide +kernel
theorem d_Md_upper_10 : decode prog_13_method_49_code 10 = .ok (.goto (13), 3) := by decide +kernel
theorem d_Md_upper_13 : decode prog_13_method_49_code 13 = .ok (.aload_n 0, 1) := by decide +kernel
theorem d_Md_upper_14 : decode prog_13_method_49_code 14 = .ok (.aload_n 0, 1) := by decide +kernel
theorem d_Md_upper_15 : decode prog_13_method_49_code 15 = .ok (.getfield 46, 3) := by decide +kernel
theorem d_Md_upper_18 : decode prog_13_method_49_code 18 = .ok (.iload_n 1, 1) := by decide +kernel
theorem d_Md_upper_19 : decode prog_13_method_49_code 19 = .ok (.iaload, 1) := by decide +kernel
theorem d_Md_upper_20 : decode prog_13_method_49_code 20 = .ok (.invokevirtual 154, 3) := by decide +kernel
theorem d_Md_upper_23 : decode prog_13_method_49_code 23 = .ok (.ireturn, 1) := by decide +kernel
theorem d_Md_fieldsOf_0 : decode prog_13_method_50_code 0 = .ok (.iconst (0), 1) := by decide +kernel
theorem d_Md_fieldsOf_1 : decode prog_13_method_50_code 1 = .ok (.istore_n 2, 1) := by decide +kernel
theorem d_Md_fieldsOf_2 : decode prog_13_method_50_code 2 = .ok (.iload_n 1, 1) := by decide +kernel
theorem d_Md_fieldsOf_3 : decode prog_13_method_50_code 3 = .ok (.istore_n 3, 1) := by decide +kernel
theorem d_Md_fieldsOf_4 : decode prog_13_method_50_code 4 = .ok (.iload_n 3, 1) := by decide +kernel
theorem d_Md_fieldsOf_5 : decode prog_13_method_50_code 5 = .ok (.ifCond .lt (49), 3) := by decide +kernel
theorem d_Md_fieldsOf_8 : decode prog_13_method_50_code 8 = .ok (.iconst (0), 1) := by decide +kernel
theorem d_Md_fieldsOf_9 : decode prog_13_method_50_code 9 = .ok (.istore 4, 2) := by decide +kernel
theorem d_Md_fieldsOf_11 : decode prog_13_method_50_code 11 = .ok (.iload 4, 2) := by decide +kernel
theorem d_Md_fieldsOf_13 : decode prog_13_method_50_code 13 = .ok (.aload_n 0, 1) := by decide +kernel
theorem d_Md_fieldsOf_14 : decode prog_13_method_50_code 14 = .ok (.getfield 287, 3) := by decide +kernel
theorem d_Md_fieldsOf_17 : decode prog_13_method_50_code 17 = .ok (.if_icmp .ge (28), 3) := by decide +kernel
theorem d_Md_fieldsOf_20 : decode prog_13_method_50_code 20 = .ok (.aload_n 0, 1) := by decide +kernel
theorem d_Md_fieldsOf_21 : decode prog_13_method_50_code 21 = .ok (.getfield 55, 3) := by decide +kernel
theorem d_Md_fieldsOf_24 : decode prog_13_method_50_code 24 = .ok (.iload 4, 2) := by decide +kernel
theorem d_Md_fieldsOf_26 : decode prog_13_method_50_code 26 = .ok (.iaload, 1) := by decide +kernel
theorem d_Md_fieldsOf_27 : decode prog_13_method_50_code 27 = .ok (.iload_n 3, 1) := by decide +kernel
theorem d_Md_fieldsOf_28 : decode prog_13_method_50_code 28 = .ok (.if_icmp .ne (9), 3) := by decide +kernel
theorem d_Md_fieldsOf_31 : decode prog_13_method_50_code 31 = .ok (.iload_n 2, 1) := by decide +kernel
theorem d_Md_fieldsOf_32 : decode prog_13_method_50_code 32 = .ok (.iconst (1), 1) := by decide +kernel
theorem d_Md_fieldsOf_33 : decode prog_13_method_50_code 33 = .ok (.iadd, 1) := by decide +kernel
theorem d_Md_fieldsOf_34 : decode prog_13_method_50_code 34 = .ok (.goto (4), 3) := by decide +kernel
theorem d_Md_fieldsOf_37 : decode prog_13_method_50_code 37 = .ok (.iload_n 2, 1) := by decide +kernel
theorem d_Md_fieldsOf_38 : decode prog_13_method_50_code 38 = .ok (.istore_n 2, 1) := by decide +kernel
theorem d_Md_fieldsOf_39 : decode prog_13_method_50_code 39 = .ok (.iinc 4 (1), 3) := by decide +kernel
theorem d_Md_fieldsOf_42 : decode prog_13_method_50_code 42 = .ok (.goto (-31), 3) := by decide +kernel
theorem d_Md_fieldsOf_45 : decode prog_13_method_50_code 45 = .ok (.aload_n 0, 1) := by decide +kernel
theorem d_Md_fieldsOf_46 : decode prog_13_method_50_code 46 = .ok (.iload_n 3, 1) := by decide +kernel
theorem d_Md_fieldsOf_47 : decode prog_13_method_50_code 47 = .ok (.invokevirtual 341, 3) := by decide +kernel
theorem d_Md_fieldsOf_50 : decode prog_13_method_50_code 50 = .ok (.istore_n 3, 1) := by decide +kernel
theorem d_Md_fieldsOf_51 : decode prog_13_method_50_code 51 = .ok (.goto (-47), 3) := by decide +kernel
theorem d_Md_fieldsOf_54 : decode prog_13_method_50_code 54 = .ok (.iload_n 2, 1) := by decide +kernel
theorem d_Md_fieldsOf_55 : decode prog_13_method_50_code 55 = .ok (.ireturn, 1) := by decide +kernel
theorem d_Md_run_0 : decode prog_13_method_74_code 0 = .ok (.iload_n 1, 1) := by decide +kernel
theorem d_Md_run_1 : decode prog_13_method_74_code 1 = .ok (.iconst (0), 1) := by decide +kernel
theorem d_Md_run_2 : decode prog_13_method_74_code 2 = .ok (.bipush (40), 2) := by decide +kernel
theorem d_Md_run_4 : decode prog_13_method_74_code 4 = .ok (.invokestatic 147, 3) := by decide +kernel
theorem d_Md_run_7 : decode prog_13_method_74_code 7 = .ok (.ifCond .ne (7), 3) := by decide +kernel
theorem d_Md_run_10 : decode prog_13_method_74_code 10 = .ok (.ldc_w 422, 3) := by decide +kernel
theorem d_Md_run_13 : decode prog_13_method_74_code 13 = .ok (.ireturn, 1) := by decide +kernel
theorem d_Md_run_14 : decode prog_13_method_74_code 14 = .ok (.aload_n 0, 1) := by decide +kernel
theorem d_Md_run_15 : decode prog_13_method_74_code 15 = .ok (.getfield 140, 3) := by decide +kernel
theorem d_Md_run_18 : decode prog_13_method_74_code 18 = .ok (.istore_n 2, 1) := by decide +kernel
theorem d_Md_run_19 : decode prog_13_method_74_code 19 = .ok (.aload_n 0, 1) := by decide +kernel
theorem d_Md_run_20 : decode prog_13_method_74_code 20 = .ok (.getfield 244, 3) := by decide +kernel
theorem d_Md_run_23 : decode prog_13_method_74_code 23 = .ok (.istore_n 3, 1) := by decide +kernel
theorem d_Md_run_24 : decode prog_13_method_74_code 24 = .ok (.aload_n 0, 1) := by decide +kernel
theorem d_Md_run_25 : decode prog_13_method_74_code 25 = .ok (.invokevirtual 303, 3) := by decide +kernel
theorem d_Md_run_28 : decode prog_13_method_74_code 28 = .ok (.aload_n 0, 1) := by decide +kernel
theorem d_Md_run_29 : decode prog_13_method_74_code 29 = .ok (.iconst (0), 1) := by decide +kernel
theorem d_Md_run_30 : decode prog_13_method_74_code 30 = .ok (.putfield 416, 3) := by decide +kernel
theorem d_Md_run_33 : decode prog_13_method_74_code 33 = .ok (.aload_n 0, 1) := by decide +kernel
theorem d_Md_run_34 : decode prog_13_method_74_code 34 = .ok (.invokevirtual 300, 3) := by decide +kernel
theorem d_Md_run_37 : decode prog_13_method_74_code 37 = .ok (.aload_n 0, 1) := by decide +kernel
theorem d_Md_run_38 : decode prog_13_method_74_code 38 = .ok (.invokevirtual 208, 3) := by decide +kernel
theorem d_Md_run_41 : decode prog_13_method_74_code 41 = .ok (.ifCond .lt (7), 3) := by decide +kernel
theorem d_Md_run_44 : decode prog_13_method_74_code 44 = .ok (.aload_n 0, 1) := by decide +kernel
theorem d_Md_run_45 : decode prog_13_method_74_code 45 = .ok (.invokevirtual 215, 3) := by decide +kernel
theorem d_Md_run_48 : decode prog_13_method_74_code 48 = .ok (.aload_n 0, 1) := by decide +kernel
theorem d_Md_run_49 : decode prog_13_method_74_code 49 = .ok (.iconst (0), 1) := by decide +kernel
theorem d_Md_run_50 : decode prog_13_method_74_code 50 = .ok (.putfield 309, 3) := by decide +kernel
theorem d_Md_run_53 : decode prog_13_method_74_code 53 = .ok (.aload_n 0, 1) := by decide +kernel
theorem d_Md_run_54 : decode prog_13_method_74_code 54 = .ok (.invokevirtual 144, 3) := by decide +kernel
theorem d_Md_run_57 : decode prog_13_method_74_code 57 = .ok (.aload_n 0, 1) := by decide +kernel
theorem d_Md_run_58 : decode prog_13_method_74_code 58 = .ok (.getfield 212, 3) := by decide +kernel
theorem d_Md_run_61 : decode prog_13_method_74_code 61 = .ok (.ifCond .ge (14), 3) := by decide +kernel
theorem d_Md_run_64 : decode prog_13_method_74_code 64 = .ok (.aload_n 0, 1) := by decide +kernel
theorem d_Md_run_65 : decode prog_13_method_74_code 65 = .ok (.iload_n 3, 1) := by decide +kernel
theorem d_Md_run_66 : decode prog_13_method_74_code 66 = .ok (.aload_n 0, 1) := by decide +kernel
theorem d_Md_run_67 : decode prog_13_method_74_code 67 = .ok (.getfield 244, 3) := by decide +kernel
theorem d_Md_run_70 : decode prog_13_method_74_code 70 = .ok (.iconst (-1), 1) := by decide +kernel
theorem d_Md_run_75 : decode prog_13_method_74_code 75 = .ok (.aload_n 0, 1) := by decide +kernel
theorem d_Md_run_76 : decode prog_13_method_74_code 76 = .ok (.getfield 212, 3) := by decide +kernel
theorem d_Md_run_79 : decode prog_13_method_74_code 79 = .ok (.ifCond .lt (12), 3) := by decide +kernel
theorem d_Md_run_82 : decode prog_13_method_74_code 82 = .ok (.iconst (-1), 1) := by decide +kernel
theorem d_Md_run_83 : decode prog_13_method_74_code 83 = .ok (.aload_n 0, 1) := by decide +kernel
theorem d_Md_run_84 : decode prog_13_method_74_code 84 = .ok (.getfield 212, 3) := by decide +kernel
theorem d_Md_run_87 : decode prog_13_method_74_code 87 = .ok (.isub, 1) := by decide +kernel
theorem d_Md_run_88 : decode prog_13_method_74_code 88 = .ok (.goto (11), 3) := by decide +kernel
theorem d_Md_run_91 : decode prog_13_method_74_code 91 = .ok (.sipush (-1000), 3) := by decide +kernel
theorem d_Md_run_94 : decode prog_13_method_74_code 94 = .ok (.aload_n 0, 1) := by decide +kernel
theorem d_Md_run_95 : decode prog_13_method_74_code 95 = .ok (.getfield 309, 3) := by decide +kernel
theorem d_Md_run_98 : decode prog_13_method_74_code 98 = .ok (.imul, 1) := by decide +kernel
theorem d_Md_run_99 : decode prog_13_method_74_code 99 = .ok (.istore 4, 2) := by decide +kernel
theorem d_Md_run_101 : decode prog_13_method_74_code 101 = .ok (.aload_n 0, 1) := by decide +kernel
theorem d_Md_run_102 : decode prog_13_method_74_code 102 = .ok (.getfield 212, 3) := by decide +kernel
theorem d_Md_run_105 : decode prog_13_method_74_code 105 = .ok (.ifCond .ge (42), 3) := by decide +kernel
theorem d_Md_run_108 : decode prog_13_method_74_code 108 = .ok (.aload_n 0, 1) := by decide +kernel
theorem d_Md_run_109 : decode prog_13_method_74_code 109 = .ok (.getfield 309, 3) := by decide +kernel
theorem d_Md_run_112 : decode prog_13_method_74_code 112 = .ok (.ifCond .ne (35), 3) := by decide +kernel
theorem d_Md_run_115 : decode prog_13_method_74_code 115 = .ok (.aload_n 0, 1) := by decide +kernel
theorem d_Md_run_116 : decode prog_13_method_74_code 116 = .ok (.iload_n 1, 1) := by decide +kernel
theorem d_Md_run_117 : decode prog_13_method_74_code 117 = .ok (.putfield 410, 3) := by decide +kernel
theorem d_Md_run_120 : decode prog_13_method_74_code 120 = .ok (.aload_n 0, 1) := by decide +kernel
theorem d_Md_run_121 : decode prog_13_method_74_code 121 = .ok (.iload_n 3, 1) := by decide +kernel
theorem d_Md_run_122 : decode prog_13_method_74_code 122 = .ok (.aload_n 0, 1) := by decide +kernel
theorem d_Md_run_123 : decode prog_13_method_74_code 123 = .ok (.getfield 244, 3) := by decide +kernel
theorem d_Md_run_147 : decode prog_13_method_74_code 147 = .ok (.aload_n 0, 1) := by decide +kernel
theorem d_Md_run_148 : decode prog_13_method_74_code 148 = .ok (.iload_n 2, 1) := by decide +kernel
theorem d_Md_run_149 : decode prog_13_method_74_code 149 = .ok (.putfield 140, 3) := by decide +kernel
theorem d_Md_run_152 : decode prog_13_method_74_code 152 = .ok (.aload_n 0, 1) := by decide +kernel
theorem d_Md_run_153 : decode prog_13_method_74_code 153 = .ok (.iload_n 3, 1) := by decide +kernel
theorem d_Md_run_154 : decode prog_13_method_74_code 154 = .ok (.putfield 244, 3) := by decide +kernel
theorem d_Md_run_157 : decode prog_13_method_74_code 157 = .ok (.iload 4, 2) := by decide +kernel
theorem d_Md_run_159 : decode prog_13_method_74_code 159 = .ok (.ireturn, 1) := by decide +kernel
theorem d_Md_called_0 : decode prog_13_method_67_code 0 = .ok (.iload_n 1, 1) := by decide +kernel
theorem d_Md_called_1 : decode prog_13_method_67_code 1 = .ok (.istore_n 3, 1) := by decide +kernel
theorem d_Md_called_2 : decode prog_13_method_67_code 2 = .ok (.iload_n 3, 1) := by decide +kernel
theorem d_Md_called_3 : decode prog_13_method_67_code 3 = .ok (.ifCond .lt (55), 3) := by decide +kernel
theorem d_Md_called_6 : decode prog_13_method_67_code 6 = .ok (.iconst (0), 1) := by decide +kernel
theorem d_Md_called_7 : decode prog_13_method_67_code 7 = .ok (.istore 4, 2) := by decide +kernel
theorem d_Md_called_9 : decode prog_13_method_67_code 9 = .ok (.iload 4, 2) := by decide +kernel
theorem d_Md_called_11 : decode prog_13_method_67_code 11 = .ok (.aload_n 0, 1) := by decide +kernel
theorem d_Md_called_12 : decode prog_13_method_67_code 12 = .ok (.getfield 293, 3) := by decide +kernel
theorem d_Md_called_15 : decode prog_13_method_67_code 15 = .ok (.if_icmp .ge (34), 3) := by decide +kernel
theorem d_Md_called_18 : decode prog_13_method_67_code 18 = .ok (.aload_n 0, 1) := by decide +kernel
theorem d_Md_called_19 : decode prog_13_method_67_code 19 = .ok (.getfield 64, 3) := by decide +kernel
theorem d_Md_called_22 : decode prog_13_method_67_code 22 = .ok (.iload 4, 2) := by decide +kernel
theorem d_Md_called_24 : decode prog_13_method_67_code 24 = .ok (.iaload, 1) := by decide +kernel
theorem d_Md_called_25 : decode prog_13_method_67_code 25 = .ok (.iload_n 3, 1) := by decide +kernel
theorem d_Md_called_26 : decode prog_13_method_67_code 26 = .ok (.if_icmp .ne (17), 3) := by decide +kernel
theorem d_Md_called_29 : decode prog_13_method_67_code 29 = .ok (.aload_n 0, 1) := by decide +kernel
theorem d_Md_called_30 : decode prog_13_method_67_code 30 = .ok (.getfield 67, 3) := by decide +kernel
theorem d_Md_called_33 : decode prog_13_method_67_code 33 = .ok (.iload 4, 2) := by decide +kernel
theorem d_Md_called_35 : decode prog_13_method_67_code 35 = .ok (.iaload, 1) := by decide +kernel
theorem d_Md_called_36 : decode prog_13_method_67_code 36 = .ok (.iload_n 2, 1) := by decide +kernel
theorem d_Md_called_37 : decode prog_13_method_67_code 37 = .ok (.if_icmp .ne (6), 3) := by decide +kernel
theorem d_Md_called_40 : decode prog_13_method_67_code 40 = .ok (.iload 4, 2) := by decide +kernel
theorem d_Md_called_42 : decode prog_13_method_67_code 42 = .ok (.ireturn, 1) := by decide +kernel
theorem d_Md_called_43 : decode prog_13_method_67_code 43 = .ok (.iinc 4 (1), 3) := by decide +kernel
theorem d_Md_called_46 : decode prog_13_method_67_code 46 = .ok (.goto (-37), 3) := by decide +kernel
theorem d_Md_called_49 : decode prog_13_method_67_code 49 = .ok (.aload_n 0, 1) := by decide +kernel
theorem d_Md_called_50 : decode prog_13_method_67_code 50 = .ok (.iload_n 3, 1) := by decide +kernel
theorem d_Md_called_51 : decode prog_13_method_67_code 51 = .ok (.invokevirtual 341, 3) := by decide +kernel
theorem d_Md_called_54 : decode prog_13_method_67_code 54 = .ok (.istore_n 3, 1) := by decide +kernel
theorem d_Md_called_55 : decode prog_13_method_67_code 55 = .ok (.goto (-53), 3) := by decide +kernel
theorem d_Md_called_58 : decode prog_13_method_67_code 58 = .ok (.iconst (-1), 1) := by decide +kernel
theorem d_Md_called_59 : decode prog_13_method_67_code 59 = .ok (.ireturn, 1) := by decide +kernel
theorem d_Md_length_0 : decode prog_13_method_75_code 0 = .ok (.aload_n 0, 1) := by decide +kernel
theorem d_Md_length_1 : decode prog_13_method_75_code 1 = .ok (.getfield 416, 3) := by decide +kernel
theorem d_Md_length_4 : decode prog_13_method_75_code 4 = .ok (.ireturn, 1) := by decide +kernel
theorem d_Md_at_0 : decode prog_13_method_76_code 0 = .ok (.iload_n 1, 1) := by decide +kernel
theorem d_Md_at_1 : decode prog_13_method_76_code 1 = .ok (.iconst (0), 1) := by decide +kernel
theorem d_Md_at_2 : decode prog_13_method_76_code 2 = .ok (.aload_n 0, 1) := by decide +kernel
theorem d_Md_at_3 : decode prog_13_method_76_code 3 = .ok (.getfield 416, 3) := by decide +kernel
theorem d_Md_at_6 : decode prog_13_method_76_code 6 = .ok (.iconst (1), 1) := by decide +kernel
theorem d_Md_at_7 : decode prog_13_method_76_code 7 = .ok (.isub, 1) := by decide +kernel
theorem d_Md_at_8 : decode prog_13_method_76_code 8 = .ok (.invokestatic 147, 3) := by decide +kernel
theorem d_Md_at_11 : decode prog_13_method_76_code 11 = .ok (.ifCond .eq (12), 3) := by decide +kernel
theorem d_Md_at_14 : decode prog_13_method_76_code 14 = .ok (.aload_n 0, 1) := by decide +kernel
theorem d_Md_at_15 : decode prog_13_method_76_code 15 = .ok (.getfield 137, 3) := by decide +kernel
theorem d_Md_at_18 : decode prog_13_method_76_code 18 = .ok (.iload_n 1, 1) := by decide +kernel
theorem d_Md_at_19 : decode prog_13_method_76_code 19 = .ok (.iaload, 1) := by decide +kernel
theorem d_Md_at_20 : decode prog_13_method_76_code 20 = .ok (.goto (4), 3) := by decide +kernel
theorem d_Md_at_23 : decode prog_13_method_76_code 23 = .ok (.iconst (-1), 1) := by decide +kernel
theorem d_Md_at_24 : decode prog_13_method_76_code 24 = .ok (.ireturn, 1) := by decide +kernel
theorem d_Md_left_0 : decode prog_13_method_77_code 0 = .ok (.aload_n 0, 1) := by decide +kernel
theorem d_Md_left_1 : decode prog_13_method_77_code 1 = .ok (.getfield 410, 3) := by decide +kernel
theorem d_Md_left_4 : decode prog_13_method_77_code 4 = .ok (.ireturn, 1) := by decide +kernel
theorem d_Md_fields_0 : decode prog_13_method_78_code 0 = .ok (.iload_n 1, 1) := by decide +kernel
theorem d_Md_fields_1 : decode prog_13_method_78_code 1 = .ok (.iconst (0), 1) := by decide +kernel
theorem d_Md_fields_2 : decode prog_13_method_78_code 2 = .ok (.bipush (7), 2) := by decide +kernel
theorem d_Md_fields_4 : decode prog_13_method_78_code 4 = .ok (.invokestatic 147, 3) := by decide +kernel
theorem d_Md_fields_7 : decode prog_13_method_78_code 7 = .ok (.ifCond .eq (20), 3) := by decide +kernel
theorem d_Md_fields_10 : decode prog_13_method_78_code 10 = .ok (.aload_n 0, 1) := by decide +kernel
theorem d_Md_fields_11 : decode prog_13_method_78_code 11 = .ok (.getfield 34, 3) := by decide +kernel
theorem d_Md_fields_14 : decode prog_13_method_78_code 14 = .ok (.iload_n 1, 1) := by decide +kernel
theorem d_Md_fields_15 : decode prog_13_method_78_code 15 = .ok (.iaload, 1) := by decide +kernel
theorem d_Md_fields_16 : decode prog_13_method_78_code 16 = .ok (.ifCond .le (11), 3) := by decide +kernel
theorem d_Md_fields_19 : decode prog_13_method_78_code 19 = .ok (.aload_n 0, 1) := by decide +kernel
theorem d_Md_fields_20 : decode prog_13_method_78_code 20 = .ok (.iload_n 1, 1) := by decide +kernel
theorem d_Md_fields_21 : decode prog_13_method_78_code 21 = .ok (.invokevirtual 356, 3) := by decide +kernel
theorem d_Md_fields_24 : decode prog_13_method_78_code 24 = .ok (.goto (4), 3) := by decide +kernel
theorem d_Md_fields_27 : decode prog_13_method_78_code 27 = .ok (.iconst (-1), 1) := by decide +kernel
theorem d_Md_fields_28 : decode prog_13_method_78_code 28 = .ok (.ireturn, 1) := by decide +kernel
theorem d_Md_method_0 : decode prog_13_method_79_code 0 = .ok (.iload_n 1, 1) := by decide +kernel
theorem d_Md_method_1 : decode prog_13_method_79_code 1 = .ok (.iconst (0), 1) := by decide +kernel
theorem d_Md_method_2 : decode prog_13_method_79_code 2 = .ok (.bipush (7), 2) := by decide +kernel
theorem d_Md_method_4 : decode prog_13_method_79_code 4 = .ok (.invokestatic 147, 3) := by decide +kernel
theorem d_Md_method_7 : decode prog_13_method_79_code 7 = .ok (.ifCond .eq (22), 3) := by decide +kernel
theorem d_Md_method_10 : decode prog_13_method_79_code 10 = .ok (.aload_n 0, 1) := by decide +kernel
theorem d_Md_method_11 : decode prog_13_method_79_code 11 = .ok (.getfield 34, 3) := by decide +kernel
theorem d_Md_method_14 : decode prog_13_method_79_code 14 = .ok (.iload_n 1, 1) := by decide +kernel
theorem d_Md_method_15 : decode prog_13_method_79_code 15 = .ok (.iaload, 1) := by decide +kernel
theorem d_Md_method_16 : decode prog_13_method_79_code 16 = .ok (.ifCond .eq (13), 3) := by decide +kernel
theorem d_Md_method_19 : decode prog_13_method_79_code 19 = .ok (.iload_n 2, 1) := by decide +kernel
theorem d_Md_method_20 : decode prog_13_method_79_code 20 = .ok (.iconst (0), 1) := by decide +kernel
theorem d_Md_method_21 : decode prog_13_method_79_code 21 = .ok (.bipush (25), 2) := by decide +kernel
theorem d_Md_method_23 : decode prog_13_method_79_code 23 = .ok (.invokestatic 147, 3) := by decide +kernel
theorem d_Md_method_26 : decode prog_13_method_79_code 26 = .ok (.ifCond .ne (5), 3) := by decide +kernel
theorem d_Md_method_29 : decode prog_13_method_79_code 29 = .ok (.iconst (-1), 1) := by decide +kernel
theorem d_Md_method_30 : decode prog_13_method_79_code 30 = .ok (.ireturn, 1) := by decide +kernel
theorem d_Md_method_31 : decode prog_13_method_79_code 31 = .ok (.aload_n 0, 1) := by decide +kernel
theorem d_Md_method_32 : decode prog_13_method_79_code 32 = .ok (.iload_n 1, 1) := by decide +kernel
theorem d_Md_method_33 : decode prog_13_method_79_code 33 = .ok (.iload_n 2, 1) := by decide +kernel
theorem d_Md_method_34 : decode prog_13_method_79_code 34 = .ok (.invokevirtual 413, 3) := by decide +kernel
theorem d_Md_method_37 : decode prog_13_method_79_code 37 = .ok (.istore_n 3, 1) := by decide +kernel
theorem d_Md_method_38 : decode prog_13_method_79_code 38 = .ok (.iload_n 3, 1) := by decide +kernel
theorem d_Md_method_39 : decode prog_13_method_79_code 39 = .ok (.ifCond .ge (7), 3) := by decide +kernel
theorem d_Md_method_42 : decode prog_13_method_79_code 42 = .ok (.iconst (-1), 1) := by decide +kernel
theorem d_Md_method_43 : decode prog_13_method_79_code 43 = .ok (.goto (9), 3) := by decide +kernel
theorem d_Md_method_46 : decode prog_13_method_79_code 46 = .ok (.aload_n 0, 1) := by decide +kernel
theorem d_Md_method_47 : decode prog_13_method_79_code 47 = .ok (.getfield 64, 3) := by decide +kernel
theorem d_Md_method_50 : decode prog_13_method_79_code 50 = .ok (.iload_n 3, 1) := by decide +kernel
theorem d_Md_method_51 : decode prog_13_method_79_code 51 = .ok (.iaload, 1) := by decide +kernel
theorem d_Md_method_52 : decode prog_13_method_79_code 52 = .ok (.ireturn, 1) := by decide +kernel
theorem d_Law_law_0 : decode code 0 = .ok (.new 7, 3) := by decide +kernel
theorem d_Law_law_3 : decode code 3 = .ok (.dup, 1) := by decide +kernel
theorem d_Law_law_4 : decode code 4 = .ok (.invokespecial 9, 3) := by decide +kernel
theorem d_Law_law_7 : decode code 7 = .ok (.astore_n 1, 1) := by decide +kernel
theorem d_Law_law_8 : decode code 8 = .ok (.new 10, 3) := by decide +kernel
theorem d_Law_law_11 : decode code 11 = .ok (.dup, 1) := by decide +kernel
theorem d_Law_law_12 : decode code 12 = .ok (.invokespecial 12, 3) := by decide +kernel
