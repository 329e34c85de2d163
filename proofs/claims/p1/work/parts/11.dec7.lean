theorem d_Md_readBounds_110 : decode prog_13_method_29_code 110 = .ok (.getfield 202, 3) := by decide +kernel
theorem d_Md_readBounds_113 : decode prog_13_method_29_code 113 = .ok (.putfield 202, 3) := by decide +kernel
theorem d_Md_readBounds_116 : decode prog_13_method_29_code 116 = .ok (.goto (-93), 3) := by decide +kernel
theorem d_Md_readBounds_119 : decode prog_13_method_29_code 119 = .ok (.aload_n 0, 1) := by decide +kernel
theorem d_Md_readBounds_120 : decode prog_13_method_29_code 120 = .ok (.bipush (93), 2) := by decide +kernel
theorem d_Md_readBounds_122 : decode prog_13_method_29_code 122 = .ok (.invokevirtual 231, 3) := by decide +kernel
theorem d_Md_readBounds_125 : decode prog_13_method_29_code 125 = .ok (.iload 4, 2) := by decide +kernel
theorem d_Md_readBounds_127 : decode prog_13_method_29_code 127 = .ok (.ireturn, 1) := by decide +kernel
theorem d_Md_declare_0 : decode prog_13_method_43_code 0 = .ok (.aload_n 0, 1) := by decide +kernel
theorem d_Md_declare_1 : decode prog_13_method_43_code 1 = .ok (.getfield 140, 3) := by decide +kernel
theorem d_Md_declare_4 : decode prog_13_method_43_code 4 = .ok (.istore_n 1, 1) := by decide +kernel
theorem d_Md_declare_5 : decode prog_13_method_43_code 5 = .ok (.aload_n 0, 1) := by decide +kernel
theorem d_Md_declare_6 : decode prog_13_method_43_code 6 = .ok (.getfield 287, 3) := by decide +kernel
theorem d_Md_declare_9 : decode prog_13_method_43_code 9 = .ok (.istore_n 2, 1) := by decide +kernel
theorem d_Md_declare_10 : decode prog_13_method_43_code 10 = .ok (.aload_n 0, 1) := by decide +kernel
theorem d_Md_declare_11 : decode prog_13_method_43_code 11 = .ok (.getfield 293, 3) := by decide +kernel
theorem d_Md_declare_14 : decode prog_13_method_43_code 14 = .ok (.istore_n 3, 1) := by decide +kernel
theorem d_Md_declare_15 : decode prog_13_method_43_code 15 = .ok (.aload_n 0, 1) := by decide +kernel
theorem d_Md_declare_16 : decode prog_13_method_43_code 16 = .ok (.getfield 244, 3) := by decide +kernel
theorem d_Md_declare_19 : decode prog_13_method_43_code 19 = .ok (.istore 4, 2) := by decide +kernel
theorem d_Md_declare_21 : decode prog_13_method_43_code 21 = .ok (.aload_n 0, 1) := by decide +kernel
theorem d_Md_declare_22 : decode prog_13_method_43_code 22 = .ok (.invokevirtual 303, 3) := by decide +kernel
theorem d_Md_declare_25 : decode prog_13_method_43_code 25 = .ok (.aload_n 0, 1) := by decide +kernel
theorem d_Md_declare_26 : decode prog_13_method_43_code 26 = .ok (.bipush (65), 2) := by decide +kernel
theorem d_Md_declare_28 : decode prog_13_method_43_code 28 = .ok (.bipush (72), 2) := by decide +kernel
theorem d_Md_declare_30 : decode prog_13_method_43_code 30 = .ok (.invokevirtual 221, 3) := by decide +kernel
theorem d_Md_declare_33 : decode prog_13_method_43_code 33 = .ok (.istore 5, 2) := by decide +kernel
theorem d_Md_declare_35 : decode prog_13_method_43_code 35 = .ok (.aload_n 0, 1) := by decide +kernel
theorem d_Md_declare_36 : decode prog_13_method_43_code 36 = .ok (.aload_n 0, 1) := by decide +kernel
theorem d_Md_declare_37 : decode prog_13_method_43_code 37 = .ok (.getfield 49, 3) := by decide +kernel
theorem d_Md_declare_40 : decode prog_13_method_43_code 40 = .ok (.aload_n 0, 1) := by decide +kernel
theorem d_Md_declare_41 : decode prog_13_method_43_code 41 = .ok (.getfield 52, 3) := by decide +kernel
theorem d_Md_declare_44 : decode prog_13_method_43_code 44 = .ok (.iconst (0), 1) := by decide +kernel
theorem d_Md_declare_45 : decode prog_13_method_43_code 45 = .ok (.invokevirtual 296, 3) := by decide +kernel
theorem d_Md_declare_48 : decode prog_13_method_43_code 48 = .ok (.istore 6, 2) := by decide +kernel
theorem d_Md_declare_50 : decode prog_13_method_43_code 50 = .ok (.aload_n 0, 1) := by decide +kernel
theorem d_Md_declare_51 : decode prog_13_method_43_code 51 = .ok (.bipush (58), 2) := by decide +kernel
theorem d_Md_declare_53 : decode prog_13_method_43_code 53 = .ok (.invokevirtual 237, 3) := by decide +kernel
theorem d_Md_declare_56 : decode prog_13_method_43_code 56 = .ok (.aload_n 0, 1) := by decide +kernel
theorem d_Md_declare_57 : decode prog_13_method_43_code 57 = .ok (.iconst (1), 1) := by decide +kernel
theorem d_Md_declare_58 : decode prog_13_method_43_code 58 = .ok (.invokevirtual 240, 3) := by decide +kernel
theorem d_Md_declare_61 : decode prog_13_method_43_code 61 = .ok (.istore 7, 2) := by decide +kernel
theorem d_Md_declare_63 : decode prog_13_method_43_code 63 = .ok (.aload_n 0, 1) := by decide +kernel
theorem d_Md_declare_64 : decode prog_13_method_43_code 64 = .ok (.bipush (123), 2) := by decide +kernel
theorem d_Md_declare_66 : decode prog_13_method_43_code 66 = .ok (.invokevirtual 224, 3) := by decide +kernel
theorem d_Md_declare_69 : decode prog_13_method_43_code 69 = .ok (.aload_n 0, 1) := by decide +kernel
theorem d_Md_declare_70 : decode prog_13_method_43_code 70 = .ok (.iconst (0), 1) := by decide +kernel
theorem d_Md_declare_71 : decode prog_13_method_43_code 71 = .ok (.putfield 290, 3) := by decide +kernel
theorem d_Md_declare_74 : decode prog_13_method_43_code 74 = .ok (.aload_n 0, 1) := by decide +kernel
theorem d_Md_declare_75 : decode prog_13_method_43_code 75 = .ok (.getfield 212, 3) := by decide +kernel
theorem d_Md_declare_78 : decode prog_13_method_43_code 78 = .ok (.ifCond .ge (21), 3) := by decide +kernel
theorem d_Md_declare_81 : decode prog_13_method_43_code 81 = .ok (.aload_n 0, 1) := by decide +kernel
theorem d_Md_declare_82 : decode prog_13_method_43_code 82 = .ok (.invokevirtual 208, 3) := by decide +kernel
theorem d_Md_declare_85 : decode prog_13_method_43_code 85 = .ok (.bipush (125), 2) := by decide +kernel
theorem d_Md_declare_87 : decode prog_13_method_43_code 87 = .ok (.if_icmp .eq (12), 3) := by decide +kernel
theorem d_Md_declare_90 : decode prog_13_method_43_code 90 = .ok (.aload_n 0, 1) := by decide +kernel
theorem d_Md_declare_91 : decode prog_13_method_43_code 91 = .ok (.iload 5, 2) := by decide +kernel
theorem d_Md_declare_99 : decode prog_13_method_43_code 99 = .ok (.aload_n 0, 1) := by decide +kernel
theorem d_Md_declare_100 : decode prog_13_method_43_code 100 = .ok (.bipush (125), 2) := by decide +kernel
theorem d_Md_declare_102 : decode prog_13_method_43_code 102 = .ok (.invokevirtual 231, 3) := by decide +kernel
theorem d_Md_declare_105 : decode prog_13_method_43_code 105 = .ok (.aload_n 0, 1) := by decide +kernel
theorem d_Md_declare_106 : decode prog_13_method_43_code 106 = .ok (.invokevirtual 208, 3) := by decide +kernel
theorem d_Md_declare_109 : decode prog_13_method_43_code 109 = .ok (.ifCond .lt (7), 3) := by decide +kernel
theorem d_Md_declare_112 : decode prog_13_method_43_code 112 = .ok (.aload_n 0, 1) := by decide +kernel
theorem d_Md_declare_113 : decode prog_13_method_43_code 113 = .ok (.invokevirtual 215, 3) := by decide +kernel
theorem d_Md_declare_116 : decode prog_13_method_43_code 116 = .ok (.aload_n 0, 1) := by decide +kernel
theorem d_Md_declare_117 : decode prog_13_method_43_code 117 = .ok (.getfield 140, 3) := by decide +kernel
theorem d_Md_declare_120 : decode prog_13_method_43_code 120 = .ok (.istore 8, 2) := by decide +kernel
theorem d_Md_declare_122 : decode prog_13_method_43_code 122 = .ok (.aload_n 0, 1) := by decide +kernel
theorem d_Md_declare_123 : decode prog_13_method_43_code 123 = .ok (.iconst (0), 1) := by decide +kernel
theorem d_Md_declare_124 : decode prog_13_method_43_code 124 = .ok (.putfield 309, 3) := by decide +kernel
theorem d_Md_declare_127 : decode prog_13_method_43_code 127 = .ok (.aload_n 0, 1) := by decide +kernel
theorem d_Md_declare_128 : decode prog_13_method_43_code 128 = .ok (.getfield 212, 3) := by decide +kernel
theorem d_Md_declare_131 : decode prog_13_method_43_code 131 = .ok (.ifCond .ge (13), 3) := by decide +kernel
theorem d_Md_declare_134 : decode prog_13_method_43_code 134 = .ok (.aload_n 0, 1) := by decide +kernel
theorem d_Md_declare_135 : decode prog_13_method_43_code 135 = .ok (.iload 5, 2) := by decide +kernel
theorem d_Md_declare_137 : decode prog_13_method_43_code 137 = .ok (.iload 6, 2) := by decide +kernel
theorem d_Md_declare_139 : decode prog_13_method_43_code 139 = .ok (.iload 7, 2) := by decide +kernel
theorem d_Md_declare_144 : decode prog_13_method_43_code 144 = .ok (.aload_n 0, 1) := by decide +kernel
theorem d_Md_declare_145 : decode prog_13_method_43_code 145 = .ok (.invokevirtual 144, 3) := by decide +kernel
theorem d_Md_declare_148 : decode prog_13_method_43_code 148 = .ok (.aload_n 0, 1) := by decide +kernel
theorem d_Md_declare_149 : decode prog_13_method_43_code 149 = .ok (.getfield 212, 3) := by decide +kernel
theorem d_Md_declare_152 : decode prog_13_method_43_code 152 = .ok (.ifCond .ge (29), 3) := by decide +kernel
theorem d_Md_declare_155 : decode prog_13_method_43_code 155 = .ok (.aload_n 0, 1) := by decide +kernel
theorem d_Md_declare_156 : decode prog_13_method_43_code 156 = .ok (.getfield 309, 3) := by decide +kernel
theorem d_Md_declare_159 : decode prog_13_method_43_code 159 = .ok (.ifCond .ne (22), 3) := by decide +kernel
theorem d_Md_declare_162 : decode prog_13_method_43_code 162 = .ok (.aload_n 0, 1) := by decide +kernel
theorem d_Md_declare_163 : decode prog_13_method_43_code 163 = .ok (.iload 8, 2) := by decide +kernel
theorem d_Md_declare_165 : decode prog_13_method_43_code 165 = .ok (.putfield 140, 3) := by decide +kernel
theorem d_Md_declare_168 : decode prog_13_method_43_code 168 = .ok (.aload_n 0, 1) := by decide +kernel
theorem d_Md_declare_169 : decode prog_13_method_43_code 169 = .ok (.getfield 34, 3) := by decide +kernel
theorem d_Md_declare_172 : decode prog_13_method_43_code 172 = .ok (.iload 5, 2) := by decide +kernel
theorem d_Md_declare_174 : decode prog_13_method_43_code 174 = .ok (.iconst (2), 1) := by decide +kernel
theorem d_Md_declare_175 : decode prog_13_method_43_code 175 = .ok (.iastore, 1) := by decide +kernel
theorem d_Md_declare_176 : decode prog_13_method_43_code 176 = .ok (.aload_n 0, 1) := by decide +kernel
theorem d_Md_declare_181 : decode prog_13_method_43_code 181 = .ok (.aload_n 0, 1) := by decide +kernel
theorem d_Md_declare_182 : decode prog_13_method_43_code 182 = .ok (.getfield 34, 3) := by decide +kernel
theorem d_Md_declare_185 : decode prog_13_method_43_code 185 = .ok (.iload 5, 2) := by decide +kernel
theorem d_Md_declare_187 : decode prog_13_method_43_code 187 = .ok (.aload_n 0, 1) := by decide +kernel
theorem d_Md_declare_188 : decode prog_13_method_43_code 188 = .ok (.getfield 34, 3) := by decide +kernel
theorem d_Md_declare_191 : decode prog_13_method_43_code 191 = .ok (.iload 5, 2) := by decide +kernel
theorem d_Md_declare_193 : decode prog_13_method_43_code 193 = .ok (.iaload, 1) := by decide +kernel
theorem d_Md_declare_194 : decode prog_13_method_43_code 194 = .ok (.iconst (1), 1) := by decide +kernel
theorem d_Md_declare_195 : decode prog_13_method_43_code 195 = .ok (.if_icmp .ne (7), 3) := by decide +kernel
theorem d_Md_declare_198 : decode prog_13_method_43_code 198 = .ok (.iconst (0), 1) := by decide +kernel
theorem d_Md_declare_199 : decode prog_13_method_43_code 199 = .ok (.goto (10), 3) := by decide +kernel
theorem d_Md_declare_202 : decode prog_13_method_43_code 202 = .ok (.aload_n 0, 1) := by decide +kernel
theorem d_Md_declare_203 : decode prog_13_method_43_code 203 = .ok (.getfield 34, 3) := by decide +kernel
theorem d_Md_declare_206 : decode prog_13_method_43_code 206 = .ok (.iload 5, 2) := by decide +kernel
theorem d_Md_declare_208 : decode prog_13_method_43_code 208 = .ok (.iaload, 1) := by decide +kernel
theorem d_Md_declare_209 : decode prog_13_method_43_code 209 = .ok (.iastore, 1) := by decide +kernel
theorem d_Md_declare_210 : decode prog_13_method_43_code 210 = .ok (.aload_n 0, 1) := by decide +kernel
theorem d_Md_declare_211 : decode prog_13_method_43_code 211 = .ok (.iload_n 1, 1) := by decide +kernel
theorem d_Md_declare_212 : decode prog_13_method_43_code 212 = .ok (.putfield 140, 3) := by decide +kernel
theorem d_Md_declare_215 : decode prog_13_method_43_code 215 = .ok (.aload_n 0, 1) := by decide +kernel
theorem d_Md_declare_216 : decode prog_13_method_43_code 216 = .ok (.iload_n 2, 1) := by decide +kernel
theorem d_Md_declare_217 : decode prog_13_method_43_code 217 = .ok (.putfield 287, 3) := by decide +kernel
theorem d_Md_declare_220 : decode prog_13_method_43_code 220 = .ok (.aload_n 0, 1) := by decide +kernel
theorem d_Md_declare_221 : decode prog_13_method_43_code 221 = .ok (.iload_n 3, 1) := by decide +kernel
theorem d_Md_declare_222 : decode prog_13_method_43_code 222 = .ok (.putfield 293, 3) := by decide +kernel
theorem d_Md_declare_225 : decode prog_13_method_43_code 225 = .ok (.aload_n 0, 1) := by decide +kernel
theorem d_Md_declare_226 : decode prog_13_method_43_code 226 = .ok (.iload 4, 2) := by decide +kernel
theorem d_Md_declare_228 : decode prog_13_method_43_code 228 = .ok (.putfield 244, 3) := by decide +kernel
theorem d_Md_declare_231 : decode prog_13_method_43_code 231 = .ok (.aload_n 0, 1) := by decide +kernel
theorem d_Md_declare_232 : decode prog_13_method_43_code 232 = .ok (.getfield 212, 3) := by decide +kernel
theorem d_Md_declare_235 : decode prog_13_method_43_code 235 = .ok (.ifCond .lt (12), 3) := by decide +kernel
theorem d_Md_declare_238 : decode prog_13_method_43_code 238 = .ok (.iconst (-1), 1) := by decide +kernel
theorem d_Md_declare_239 : decode prog_13_method_43_code 239 = .ok (.aload_n 0, 1) := by decide +kernel
theorem d_Md_declare_240 : decode prog_13_method_43_code 240 = .ok (.getfield 212, 3) := by decide +kernel
theorem d_Md_declare_243 : decode prog_13_method_43_code 243 = .ok (.isub, 1) := by decide +kernel
theorem d_Md_declare_244 : decode prog_13_method_43_code 244 = .ok (.goto (11), 3) := by decide +kernel
theorem d_Md_declare_247 : decode prog_13_method_43_code 247 = .ok (.sipush (-1000), 3) := by decide +kernel
theorem d_Md_declare_250 : decode prog_13_method_43_code 250 = .ok (.aload_n 0, 1) := by decide +kernel
theorem d_Md_declare_251 : decode prog_13_method_43_code 251 = .ok (.getfield 309, 3) := by decide +kernel
theorem d_Md_declare_254 : decode prog_13_method_43_code 254 = .ok (.imul, 1) := by decide +kernel
theorem d_Md_declare_255 : decode prog_13_method_43_code 255 = .ok (.ireturn, 1) := by decide +kernel
theorem d_Md_put_0 : decode prog_13_method_30_code 0 = .ok (.aload_n 0, 1) := by decide +kernel
theorem d_Md_put_1 : decode prog_13_method_30_code 1 = .ok (.getfield 97, 3) := by decide +kernel
theorem d_Md_put_4 : decode prog_13_method_30_code 4 = .ok (.aload_n 0, 1) := by decide +kernel
theorem d_Md_put_5 : decode prog_13_method_30_code 5 = .ok (.getfield 244, 3) := by decide +kernel
theorem d_Md_put_8 : decode prog_13_method_30_code 8 = .ok (.iload_n 1, 1) := by decide +kernel
theorem d_Md_put_9 : decode prog_13_method_30_code 9 = .ok (.i2l, 1) := by decide +kernel
theorem d_Md_put_10 : decode prog_13_method_30_code 10 = .ok (.ldc2_w 247, 3) := by decide +kernel
theorem d_Md_put_13 : decode prog_13_method_30_code 13 = .ok (.iload_n 2, 1) := by decide +kernel
theorem d_Md_put_14 : decode prog_13_method_30_code 14 = .ok (.i2l, 1) := by decide +kernel
theorem d_Md_put_15 : decode prog_13_method_30_code 15 = .ok (.lmul, 1) := by decide +kernel
theorem d_Md_put_16 : decode prog_13_method_30_code 16 = .ok (.ladd, 1) := by decide +kernel
theorem d_Md_put_17 : decode prog_13_method_30_code 17 = .ok (.ldc2_w 249, 3) := by decide +kernel
theorem d_Md_put_20 : decode prog_13_method_30_code 20 = .ok (.iload_n 3, 1) := by decide +kernel
theorem d_Md_put_21 : decode prog_13_method_30_code 21 = .ok (.i2l, 1) := by decide +kernel
theorem d_Md_put_22 : decode prog_13_method_30_code 22 = .ok (.lmul, 1) := by decide +kernel
theorem d_Md_put_23 : decode prog_13_method_30_code 23 = .ok (.ladd, 1) := by decide +kernel
theorem d_Md_put_24 : decode prog_13_method_30_code 24 = .ok (.lastore, 1) := by decide +kernel
theorem d_Md_put_25 : decode prog_13_method_30_code 25 = .ok (.aload_n 0, 1) := by decide +kernel
theorem d_Md_put_26 : decode prog_13_method_30_code 26 = .ok (.aload_n 0, 1) := by decide +kernel
theorem d_Md_put_27 : decode prog_13_method_30_code 27 = .ok (.getfield 244, 3) := by decide +kernel
theorem d_Md_put_30 : decode prog_13_method_30_code 30 = .ok (.iconst (1), 1) := by decide +kernel
theorem d_Md_put_31 : decode prog_13_method_30_code 31 = .ok (.iadd, 1) := by decide +kernel
theorem d_Md_put_32 : decode prog_13_method_30_code 32 = .ok (.putfield 244, 3) := by decide +kernel
theorem d_Md_put_35 : decode prog_13_method_30_code 35 = .ok (.return_, 1) := by decide +kernel
theorem d_Md_readBase_0 : decode prog_13_method_39_code 0 = .ok (.aload_n 0, 1) := by decide +kernel
theorem d_Md_readBase_1 : decode prog_13_method_39_code 1 = .ok (.invokevirtual 208, 3) := by decide +kernel
theorem d_Md_readBase_4 : decode prog_13_method_39_code 4 = .ok (.istore_n 2, 1) := by decide +kernel
theorem d_Md_readBase_5 : decode prog_13_method_39_code 5 = .ok (.iload_n 2, 1) := by decide +kernel
theorem d_Md_readBase_6 : decode prog_13_method_39_code 6 = .ok (.bipush (40), 2) := by decide +kernel
theorem d_Md_readBase_8 : decode prog_13_method_39_code 8 = .ok (.if_icmp .ne (59), 3) := by decide +kernel
theorem d_Md_readBase_11 : decode prog_13_method_39_code 11 = .ok (.aload_n 0, 1) := by decide +kernel
theorem d_Md_readBase_12 : decode prog_13_method_39_code 12 = .ok (.bipush (40), 2) := by decide +kernel
theorem d_Md_readBase_14 : decode prog_13_method_39_code 14 = .ok (.invokevirtual 224, 3) := by decide +kernel
theorem d_Md_readBase_17 : decode prog_13_method_39_code 17 = .ok (.aload_n 0, 1) := by decide +kernel
theorem d_Md_readBase_18 : decode prog_13_method_39_code 18 = .ok (.invokevirtual 208, 3) := by decide +kernel
theorem d_Md_readBase_21 : decode prog_13_method_39_code 21 = .ok (.bipush (65), 2) := by decide +kernel
theorem d_Md_readBase_23 : decode prog_13_method_39_code 23 = .ok (.bipush (72), 2) := by decide +kernel
theorem d_Md_readBase_25 : decode prog_13_method_39_code 25 = .ok (.invokestatic 147, 3) := by decide +kernel
theorem d_Md_readBase_28 : decode prog_13_method_39_code 28 = .ok (.ifCond .ne (15), 3) := by decide +kernel
theorem d_Md_readBase_31 : decode prog_13_method_39_code 31 = .ok (.sipush (1000), 3) := by decide +kernel
theorem d_Md_readBase_34 : decode prog_13_method_39_code 34 = .ok (.aload_n 0, 1) := by decide +kernel
theorem d_Md_readBase_35 : decode prog_13_method_39_code 35 = .ok (.iload_n 1, 1) := by decide +kernel
theorem d_Md_readBase_36 : decode prog_13_method_39_code 36 = .ok (.iconst (2), 1) := by decide +kernel
theorem d_Md_readBase_37 : decode prog_13_method_39_code 37 = .ok (.iconst (0), 1) := by decide +kernel
theorem d_Md_readBase_43 : decode prog_13_method_39_code 43 = .ok (.aload_n 0, 1) := by decide +kernel
theorem d_Md_readBase_44 : decode prog_13_method_39_code 44 = .ok (.iconst (1), 1) := by decide +kernel
theorem d_Md_readBase_45 : decode prog_13_method_39_code 45 = .ok (.invokevirtual 240, 3) := by decide +kernel
theorem d_Md_readBase_48 : decode prog_13_method_39_code 48 = .ok (.istore_n 3, 1) := by decide +kernel
theorem d_Md_readBase_49 : decode prog_13_method_39_code 49 = .ok (.aload_n 0, 1) := by decide +kernel
theorem d_Md_readBase_50 : decode prog_13_method_39_code 50 = .ok (.bipush (41), 2) := by decide +kernel
theorem d_Md_readBase_52 : decode prog_13_method_39_code 52 = .ok (.invokevirtual 231, 3) := by decide +kernel
theorem d_Md_readBase_55 : decode prog_13_method_39_code 55 = .ok (.sipush (1000), 3) := by decide +kernel
theorem d_Md_readBase_58 : decode prog_13_method_39_code 58 = .ok (.aload_n 0, 1) := by decide +kernel
theorem d_Md_readBase_59 : decode prog_13_method_39_code 59 = .ok (.iload_n 1, 1) := by decide +kernel
theorem d_Md_readBase_60 : decode prog_13_method_39_code 60 = .ok (.iconst (1), 1) := by decide +kernel
theorem d_Md_readBase_61 : decode prog_13_method_39_code 61 = .ok (.iload_n 3, 1) := by decide +kernel
theorem d_Md_readBase_67 : decode prog_13_method_39_code 67 = .ok (.iload_n 2, 1) := by decide +kernel
theorem d_Md_readBase_68 : decode prog_13_method_39_code 68 = .ok (.bipush (42), 2) := by decide +kernel
theorem d_Md_readBase_70 : decode prog_13_method_39_code 70 = .ok (.if_icmp .ne (69), 3) := by decide +kernel
theorem d_Md_readBase_73 : decode prog_13_method_39_code 73 = .ok (.aload_n 0, 1) := by decide +kernel
theorem d_Md_readBase_74 : decode prog_13_method_39_code 74 = .ok (.aload_n 0, 1) := by decide +kernel
theorem d_Md_readBase_75 : decode prog_13_method_39_code 75 = .ok (.getfield 202, 3) := by decide +kernel
theorem d_Md_readBase_78 : decode prog_13_method_39_code 78 = .ok (.iconst (1), 1) := by decide +kernel
theorem d_Md_readBase_79 : decode prog_13_method_39_code 79 = .ok (.iadd, 1) := by decide +kernel
theorem d_Md_readBase_80 : decode prog_13_method_39_code 80 = .ok (.putfield 202, 3) := by decide +kernel
theorem d_Md_readBase_83 : decode prog_13_method_39_code 83 = .ok (.aload_n 0, 1) := by decide +kernel
theorem d_Md_readBase_84 : decode prog_13_method_39_code 84 = .ok (.iconst (1), 1) := by decide +kernel
theorem d_Md_readBase_85 : decode prog_13_method_39_code 85 = .ok (.invokevirtual 240, 3) := by decide +kernel
theorem d_Md_readBase_88 : decode prog_13_method_39_code 88 = .ok (.istore_n 3, 1) := by decide +kernel
theorem d_Md_readBase_89 : decode prog_13_method_39_code 89 = .ok (.aload_n 0, 1) := by decide +kernel
theorem d_Md_readBase_90 : decode prog_13_method_39_code 90 = .ok (.bipush (6), 2) := by decide +kernel
theorem d_Md_readBase_92 : decode prog_13_method_39_code 92 = .ok (.iconst (0), 1) := by decide +kernel
theorem d_Md_readBase_93 : decode prog_13_method_39_code 93 = .ok (.iconst (0), 1) := by decide +kernel
theorem d_Md_readBase_94 : decode prog_13_method_39_code 94 = .ok (.invokevirtual 267, 3) := by decide +kernel
theorem d_Md_readBase_97 : decode prog_13_method_39_code 97 = .ok (.aload_n 0, 1) := by decide +kernel
theorem d_Md_readBase_98 : decode prog_13_method_39_code 98 = .ok (.getfield 97, 3) := by decide +kernel
theorem d_Md_readBase_101 : decode prog_13_method_39_code 101 = .ok (.aload_n 0, 1) := by decide +kernel
theorem d_Md_readBase_102 : decode prog_13_method_39_code 102 = .ok (.getfield 244, 3) := by decide +kernel
theorem d_Md_readBase_105 : decode prog_13_method_39_code 105 = .ok (.iconst (1), 1) := by decide +kernel
theorem d_Md_readBase_106 : decode prog_13_method_39_code 106 = .ok (.isub, 1) := by decide +kernel
theorem d_Md_readBase_107 : decode prog_13_method_39_code 107 = .ok (.aload_n 0, 1) := by decide +kernel
theorem d_Md_readBase_108 : decode prog_13_method_39_code 108 = .ok (.getfield 97, 3) := by decide +kernel
theorem d_Md_readBase_111 : decode prog_13_method_39_code 111 = .ok (.aload_n 0, 1) := by decide +kernel
theorem d_Md_readBase_112 : decode prog_13_method_39_code 112 = .ok (.getfield 244, 3) := by decide +kernel
theorem d_Md_readBase_115 : decode prog_13_method_39_code 115 = .ok (.iconst (1), 1) := by decide +kernel
theorem d_Md_readBase_116 : decode prog_13_method_39_code 116 = .ok (.isub, 1) := by decide +kernel
theorem d_Md_readBase_139 : decode prog_13_method_39_code 139 = .ok (.aload_n 0, 1) := by decide +kernel
theorem d_Md_readBase_140 : decode prog_13_method_39_code 140 = .ok (.iconst (1), 1) := by decide +kernel
theorem d_Md_readBase_141 : decode prog_13_method_39_code 141 = .ok (.aload_n 0, 1) := by decide +kernel
theorem d_Md_readBase_142 : decode prog_13_method_39_code 142 = .ok (.bipush (97), 2) := by decide +kernel
theorem d_Md_readBase_144 : decode prog_13_method_39_code 144 = .ok (.bipush (122), 2) := by decide +kernel
theorem d_Md_readBase_146 : decode prog_13_method_39_code 146 = .ok (.invokevirtual 221, 3) := by decide +kernel
theorem d_Md_readBase_149 : decode prog_13_method_39_code 149 = .ok (.iconst (0), 1) := by decide +kernel
theorem d_Md_readBase_150 : decode prog_13_method_39_code 150 = .ok (.invokevirtual 267, 3) := by decide +kernel
theorem d_Md_readBase_153 : decode prog_13_method_39_code 153 = .ok (.iload_n 1, 1) := by decide +kernel
theorem d_Md_readBase_154 : decode prog_13_method_39_code 154 = .ok (.ireturn, 1) := by decide +kernel
theorem d_Md_readExpression_0 : decode prog_13_method_36_code 0 = .ok (.iconst (0), 1) := by decide +kernel
theorem d_Md_readExpression_1 : decode prog_13_method_36_code 1 = .ok (.istore_n 1, 1) := by decide +kernel
theorem d_Md_readExpression_2 : decode prog_13_method_36_code 2 = .ok (.iconst (1), 1) := by decide +kernel
theorem d_Md_readExpression_3 : decode prog_13_method_36_code 3 = .ok (.istore_n 2, 1) := by decide +kernel
theorem d_Md_readExpression_4 : decode prog_13_method_36_code 4 = .ok (.iconst (0), 1) := by decide +kernel
theorem d_Md_readExpression_5 : decode prog_13_method_36_code 5 = .ok (.istore_n 3, 1) := by decide +kernel
theorem d_Md_readExpression_6 : decode prog_13_method_36_code 6 = .ok (.aload_n 0, 1) := by decide +kernel
theorem d_Md_readExpression_7 : decode prog_13_method_36_code 7 = .ok (.getfield 212, 3) := by decide +kernel
theorem d_Md_readExpression_10 : decode prog_13_method_36_code 10 = .ok (.ifCond .ge (224), 3) := by decide +kernel
theorem d_Md_readExpression_13 : decode prog_13_method_36_code 13 = .ok (.iload_n 3, 1) := by decide +kernel
theorem d_Md_readExpression_14 : decode prog_13_method_36_code 14 = .ok (.ifCond .ne (220), 3) := by decide +kernel
theorem d_Md_readExpression_17 : decode prog_13_method_36_code 17 = .ok (.iload_n 2, 1) := by decide +kernel
theorem d_Md_readExpression_18 : decode prog_13_method_36_code 18 = .ok (.ifCond .eq (31), 3) := by decide +kernel
theorem d_Md_readExpression_21 : decode prog_13_method_36_code 21 = .ok (.aload_n 0, 1) := by decide +kernel
theorem d_Md_readExpression_22 : decode prog_13_method_36_code 22 = .ok (.iload_n 1, 1) := by decide +kernel
theorem d_Md_readExpression_23 : decode prog_13_method_36_code 23 = .ok (.invokevirtual 261, 3) := by decide +kernel
theorem d_Md_readExpression_26 : decode prog_13_method_36_code 26 = .ok (.istore_n 1, 1) := by decide +kernel
theorem d_Md_readExpression_27 : decode prog_13_method_36_code 27 = .ok (.iload_n 1, 1) := by decide +kernel
theorem d_Md_readExpression_28 : decode prog_13_method_36_code 28 = .ok (.sipush (1000), 3) := by decide +kernel
theorem d_Md_readExpression_31 : decode prog_13_method_36_code 31 = .ok (.if_icmp .lt (7), 3) := by decide +kernel
theorem d_Md_readExpression_34 : decode prog_13_method_36_code 34 = .ok (.iconst (1), 1) := by decide +kernel
theorem d_Md_readExpression_35 : decode prog_13_method_36_code 35 = .ok (.goto (4), 3) := by decide +kernel
theorem d_Md_readExpression_38 : decode prog_13_method_36_code 38 = .ok (.iconst (0), 1) := by decide +kernel
theorem d_Md_readExpression_39 : decode prog_13_method_36_code 39 = .ok (.istore_n 2, 1) := by decide +kernel
theorem d_Md_readExpression_40 : decode prog_13_method_36_code 40 = .ok (.iload_n 1, 1) := by decide +kernel
theorem d_Md_readExpression_41 : decode prog_13_method_36_code 41 = .ok (.sipush (1000), 3) := by decide +kernel
theorem d_Md_readExpression_44 : decode prog_13_method_36_code 44 = .ok (.irem, 1) := by decide +kernel
theorem d_Md_readExpression_45 : decode prog_13_method_36_code 45 = .ok (.istore_n 1, 1) := by decide +kernel
theorem d_Md_readExpression_46 : decode prog_13_method_36_code 46 = .ok (.goto (-40), 3) := by decide +kernel
theorem d_Md_readExpression_49 : decode prog_13_method_36_code 49 = .ok (.aload_n 0, 1) := by decide +kernel
theorem d_Md_readExpression_50 : decode prog_13_method_36_code 50 = .ok (.invokevirtual 208, 3) := by decide +kernel
theorem d_Md_readExpression_53 : decode prog_13_method_36_code 53 = .ok (.bipush (46), 2) := by decide +kernel
theorem d_Md_readExpression_55 : decode prog_13_method_36_code 55 = .ok (.if_icmp .ne (31), 3) := by decide +kernel
theorem d_Md_readExpression_58 : decode prog_13_method_36_code 58 = .ok (.aload_n 0, 1) := by decide +kernel
theorem d_Md_readExpression_59 : decode prog_13_method_36_code 59 = .ok (.iload_n 1, 1) := by decide +kernel
theorem d_Md_readExpression_76 : decode prog_13_method_36_code 76 = .ok (.istore_n 2, 1) := by decide +kernel
theorem d_Md_readExpression_77 : decode prog_13_method_36_code 77 = .ok (.iload_n 1, 1) := by decide +kernel
theorem d_Md_readExpression_78 : decode prog_13_method_36_code 78 = .ok (.sipush (1000), 3) := by decide +kernel
theorem d_Md_readExpression_81 : decode prog_13_method_36_code 81 = .ok (.irem, 1) := by decide +kernel
theorem d_Md_readExpression_82 : decode prog_13_method_36_code 82 = .ok (.istore_n 1, 1) := by decide +kernel
theorem d_Md_readExpression_83 : decode prog_13_method_36_code 83 = .ok (.goto (-77), 3) := by decide +kernel
theorem d_Md_readExpression_86 : decode prog_13_method_36_code 86 = .ok (.iload_n 1, 1) := by decide +kernel
theorem d_Md_readExpression_87 : decode prog_13_method_36_code 87 = .ok (.ifCond .ne (8), 3) := by decide +kernel
theorem d_Md_readExpression_90 : decode prog_13_method_36_code 90 = .ok (.iconst (1), 1) := by decide +kernel
theorem d_Md_readExpression_91 : decode prog_13_method_36_code 91 = .ok (.istore_n 3, 1) := by decide +kernel
theorem d_Md_readExpression_92 : decode prog_13_method_36_code 92 = .ok (.goto (-86), 3) := by decide +kernel
theorem d_Md_readExpression_95 : decode prog_13_method_36_code 95 = .ok (.aload_n 0, 1) := by decide +kernel
theorem d_Md_readExpression_96 : decode prog_13_method_36_code 96 = .ok (.getfield 104, 3) := by decide +kernel
theorem d_Md_readExpression_99 : decode prog_13_method_36_code 99 = .ok (.iload_n 1, 1) := by decide +kernel
theorem d_Md_readExpression_100 : decode prog_13_method_36_code 100 = .ok (.iconst (1), 1) := by decide +kernel
theorem d_Md_readExpression_101 : decode prog_13_method_36_code 101 = .ok (.isub, 1) := by decide +kernel
theorem d_Md_readExpression_102 : decode prog_13_method_36_code 102 = .ok (.iaload, 1) := by decide +kernel
theorem d_Md_readExpression_103 : decode prog_13_method_36_code 103 = .ok (.iconst (1), 1) := by decide +kernel
theorem d_Md_readExpression_104 : decode prog_13_method_36_code 104 = .ok (.if_icmp .ne (23), 3) := by decide +kernel
theorem d_Md_readExpression_107 : decode prog_13_method_36_code 107 = .ok (.iload_n 1, 1) := by decide +kernel
theorem d_Md_readExpression_108 : decode prog_13_method_36_code 108 = .ok (.iconst (1), 1) := by decide +kernel
theorem d_Md_readExpression_109 : decode prog_13_method_36_code 109 = .ok (.isub, 1) := by decide +kernel
theorem d_Md_readExpression_110 : decode prog_13_method_36_code 110 = .ok (.istore_n 1, 1) := by decide +kernel
theorem d_Md_readExpression_111 : decode prog_13_method_36_code 111 = .ok (.aload_n 0, 1) := by decide +kernel
theorem d_Md_readExpression_112 : decode prog_13_method_36_code 112 = .ok (.bipush (8), 2) := by decide +kernel
theorem d_Md_readExpression_114 : decode prog_13_method_36_code 114 = .ok (.iconst (0), 1) := by decide +kernel
theorem d_Md_readExpression_115 : decode prog_13_method_36_code 115 = .ok (.aload_n 0, 1) := by decide +kernel
theorem d_Md_readExpression_116 : decode prog_13_method_36_code 116 = .ok (.getfield 107, 3) := by decide +kernel
theorem d_Md_readExpression_119 : decode prog_13_method_36_code 119 = .ok (.iload_n 1, 1) := by decide +kernel
theorem d_Md_readExpression_120 : decode prog_13_method_36_code 120 = .ok (.iaload, 1) := by decide +kernel
theorem d_Md_readExpression_121 : decode prog_13_method_36_code 121 = .ok (.invokevirtual 267, 3) := by decide +kernel
theorem d_Md_readExpression_124 : decode prog_13_method_36_code 124 = .ok (.goto (-118), 3) := by decide +kernel
theorem d_Md_readExpression_127 : decode prog_13_method_36_code 127 = .ok (.aload_n 0, 1) := by decide +kernel
