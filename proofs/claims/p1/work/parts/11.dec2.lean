theorem d_Reader_take_35 : decode prog_9_method_6_code 35 = .ok (.castore, 1) := by decide +kernel
theorem d_Reader_take_36 : decode prog_9_method_6_code 36 = .ok (.return_, 1) := by decide +kernel
theorem d_Types_classType_0 : decode prog_11_method_10_code 0 = .ok (.iload_n 1, 1) := by decide +kernel
theorem d_Types_classType_1 : decode prog_11_method_10_code 1 = .ok (.bipush (31), 2) := by decide +kernel
theorem d_Types_classType_3 : decode prog_11_method_10_code 3 = .ok (.imul, 1) := by decide +kernel
theorem d_Types_classType_4 : decode prog_11_method_10_code 4 = .ok (.iload_n 2, 1) := by decide +kernel
theorem d_Types_classType_5 : decode prog_11_method_10_code 5 = .ok (.iadd, 1) := by decide +kernel
theorem d_Types_classType_6 : decode prog_11_method_10_code 6 = .ok (.bipush (31), 2) := by decide +kernel
theorem d_Types_classType_8 : decode prog_11_method_10_code 8 = .ok (.imul, 1) := by decide +kernel
theorem d_Types_classType_9 : decode prog_11_method_10_code 9 = .ok (.iload_n 3, 1) := by decide +kernel
theorem d_Types_classType_10 : decode prog_11_method_10_code 10 = .ok (.iadd, 1) := by decide +kernel
theorem d_Types_classType_11 : decode prog_11_method_10_code 11 = .ok (.bipush (31), 2) := by decide +kernel
theorem d_Types_classType_13 : decode prog_11_method_10_code 13 = .ok (.imul, 1) := by decide +kernel
theorem d_Types_classType_14 : decode prog_11_method_10_code 14 = .ok (.iload 4, 2) := by decide +kernel
theorem d_Types_classType_16 : decode prog_11_method_10_code 16 = .ok (.iadd, 1) := by decide +kernel
theorem d_Types_classType_17 : decode prog_11_method_10_code 17 = .ok (.istore 5, 2) := by decide +kernel
theorem d_Types_classType_19 : decode prog_11_method_10_code 19 = .ok (.iload 5, 2) := by decide +kernel
theorem d_Types_classType_21 : decode prog_11_method_10_code 21 = .ok (.iload 5, 2) := by decide +kernel
theorem d_Types_classType_23 : decode prog_11_method_10_code 23 = .ok (.bipush (10), 2) := by decide +kernel
theorem d_Types_classType_25 : decode prog_11_method_10_code 25 = .ok (.iushr, 1) := by decide +kernel
theorem d_Types_classType_26 : decode prog_11_method_10_code 26 = .ok (.ixor, 1) := by decide +kernel
theorem d_Types_classType_27 : decode prog_11_method_10_code 27 = .ok (.sipush (1023), 3) := by decide +kernel
theorem d_Types_classType_30 : decode prog_11_method_10_code 30 = .ok (.iand, 1) := by decide +kernel
theorem d_Types_classType_31 : decode prog_11_method_10_code 31 = .ok (.istore 6, 2) := by decide +kernel
theorem d_Types_classType_33 : decode prog_11_method_10_code 33 = .ok (.iconst (0), 1) := by decide +kernel
theorem d_Types_classType_34 : decode prog_11_method_10_code 34 = .ok (.istore 7, 2) := by decide +kernel
theorem d_Types_classType_36 : decode prog_11_method_10_code 36 = .ok (.aload_n 0, 1) := by decide +kernel
theorem d_Types_classType_37 : decode prog_11_method_10_code 37 = .ok (.getfield 27, 3) := by decide +kernel
theorem d_Types_classType_40 : decode prog_11_method_10_code 40 = .ok (.iload 6, 2) := by decide +kernel
theorem d_Types_classType_42 : decode prog_11_method_10_code 42 = .ok (.iaload, 1) := by decide +kernel
theorem d_Types_classType_43 : decode prog_11_method_10_code 43 = .ok (.istore 8, 2) := by decide +kernel
theorem d_Types_classType_45 : decode prog_11_method_10_code 45 = .ok (.iconst (0), 1) := by decide +kernel
theorem d_Types_classType_46 : decode prog_11_method_10_code 46 = .ok (.istore 9, 2) := by decide +kernel
theorem d_Types_classType_48 : decode prog_11_method_10_code 48 = .ok (.iload 9, 2) := by decide +kernel
theorem d_Types_classType_50 : decode prog_11_method_10_code 50 = .ok (.aload_n 0, 1) := by decide +kernel
theorem d_Types_classType_51 : decode prog_11_method_10_code 51 = .ok (.getfield 30, 3) := by decide +kernel
theorem d_Types_classType_54 : decode prog_11_method_10_code 54 = .ok (.if_icmp .ge (82), 3) := by decide +kernel
theorem d_Types_classType_57 : decode prog_11_method_10_code 57 = .ok (.iload 8, 2) := by decide +kernel
theorem d_Types_classType_59 : decode prog_11_method_10_code 59 = .ok (.iconst (-1), 1) := by decide +kernel
theorem d_Types_classType_60 : decode prog_11_method_10_code 60 = .ok (.if_icmp .eq (76), 3) := by decide +kernel
theorem d_Types_classType_63 : decode prog_11_method_10_code 63 = .ok (.iconst (3), 1) := by decide +kernel
theorem d_Types_classType_64 : decode prog_11_method_10_code 64 = .ok (.iload 8, 2) := by decide +kernel
theorem d_Types_classType_66 : decode prog_11_method_10_code 66 = .ok (.imul, 1) := by decide +kernel
theorem d_Types_classType_67 : decode prog_11_method_10_code 67 = .ok (.istore 7, 2) := by decide +kernel
theorem d_Types_classType_69 : decode prog_11_method_10_code 69 = .ok (.aload_n 0, 1) := by decide +kernel
theorem d_Types_classType_70 : decode prog_11_method_10_code 70 = .ok (.getfield 11, 3) := by decide +kernel
theorem d_Types_classType_73 : decode prog_11_method_10_code 73 = .ok (.iload 8, 2) := by decide +kernel
theorem d_Types_classType_75 : decode prog_11_method_10_code 75 = .ok (.iaload, 1) := by decide +kernel
theorem d_Types_classType_76 : decode prog_11_method_10_code 76 = .ok (.iload_n 1, 1) := by decide +kernel
theorem d_Types_classType_77 : decode prog_11_method_10_code 77 = .ok (.if_icmp .ne (44), 3) := by decide +kernel
theorem d_Types_classType_80 : decode prog_11_method_10_code 80 = .ok (.aload_n 0, 1) := by decide +kernel
theorem d_Types_classType_81 : decode prog_11_method_10_code 81 = .ok (.getfield 15, 3) := by decide +kernel
theorem d_Types_classType_84 : decode prog_11_method_10_code 84 = .ok (.iload 7, 2) := by decide +kernel
theorem d_Types_classType_86 : decode prog_11_method_10_code 86 = .ok (.iaload, 1) := by decide +kernel
theorem d_Types_classType_87 : decode prog_11_method_10_code 87 = .ok (.iload_n 2, 1) := by decide +kernel
theorem d_Types_classType_88 : decode prog_11_method_10_code 88 = .ok (.if_icmp .ne (33), 3) := by decide +kernel
theorem d_Types_classType_91 : decode prog_11_method_10_code 91 = .ok (.aload_n 0, 1) := by decide +kernel
theorem d_Types_classType_92 : decode prog_11_method_10_code 92 = .ok (.getfield 15, 3) := by decide +kernel
theorem d_Types_classType_95 : decode prog_11_method_10_code 95 = .ok (.iload 7, 2) := by decide +kernel
theorem d_Types_classType_97 : decode prog_11_method_10_code 97 = .ok (.iconst (1), 1) := by decide +kernel
theorem d_Types_classType_98 : decode prog_11_method_10_code 98 = .ok (.iadd, 1) := by decide +kernel
theorem d_Types_classType_99 : decode prog_11_method_10_code 99 = .ok (.iaload, 1) := by decide +kernel
theorem d_Types_classType_100 : decode prog_11_method_10_code 100 = .ok (.iload_n 3, 1) := by decide +kernel
theorem d_Types_classType_101 : decode prog_11_method_10_code 101 = .ok (.if_icmp .ne (20), 3) := by decide +kernel
theorem d_Types_classType_104 : decode prog_11_method_10_code 104 = .ok (.aload_n 0, 1) := by decide +kernel
theorem d_Types_classType_105 : decode prog_11_method_10_code 105 = .ok (.getfield 15, 3) := by decide +kernel
theorem d_Types_classType_108 : decode prog_11_method_10_code 108 = .ok (.iload 7, 2) := by decide +kernel
theorem d_Types_classType_110 : decode prog_11_method_10_code 110 = .ok (.iconst (2), 1) := by decide +kernel
theorem d_Types_classType_111 : decode prog_11_method_10_code 111 = .ok (.iadd, 1) := by decide +kernel
theorem d_Types_classType_112 : decode prog_11_method_10_code 112 = .ok (.iaload, 1) := by decide +kernel
theorem d_Types_classType_113 : decode prog_11_method_10_code 113 = .ok (.iload 4, 2) := by decide +kernel
theorem d_Types_classType_115 : decode prog_11_method_10_code 115 = .ok (.if_icmp .ne (6), 3) := by decide +kernel
theorem d_Types_classType_118 : decode prog_11_method_10_code 118 = .ok (.iload 8, 2) := by decide +kernel
theorem d_Types_classType_120 : decode prog_11_method_10_code 120 = .ok (.ireturn, 1) := by decide +kernel
theorem d_Types_classType_121 : decode prog_11_method_10_code 121 = .ok (.aload_n 0, 1) := by decide +kernel
theorem d_Types_classType_122 : decode prog_11_method_10_code 122 = .ok (.getfield 24, 3) := by decide +kernel
theorem d_Types_classType_125 : decode prog_11_method_10_code 125 = .ok (.iload 8, 2) := by decide +kernel
theorem d_Types_classType_127 : decode prog_11_method_10_code 127 = .ok (.iaload, 1) := by decide +kernel
theorem d_Types_classType_128 : decode prog_11_method_10_code 128 = .ok (.istore 8, 2) := by decide +kernel
theorem d_Types_classType_130 : decode prog_11_method_10_code 130 = .ok (.iinc 9 (1), 3) := by decide +kernel
theorem d_Types_classType_133 : decode prog_11_method_10_code 133 = .ok (.goto (-85), 3) := by decide +kernel
theorem d_Types_classType_136 : decode prog_11_method_10_code 136 = .ok (.aload_n 0, 1) := by decide +kernel
theorem d_Types_classType_137 : decode prog_11_method_10_code 137 = .ok (.getfield 30, 3) := by decide +kernel
theorem d_Types_classType_140 : decode prog_11_method_10_code 140 = .ok (.aload_n 0, 1) := by decide +kernel
theorem d_Types_classType_141 : decode prog_11_method_10_code 141 = .ok (.getfield 11, 3) := by decide +kernel
theorem d_Types_classType_144 : decode prog_11_method_10_code 144 = .ok (.arraylength, 1) := by decide +kernel
theorem d_Types_classType_145 : decode prog_11_method_10_code 145 = .ok (.if_icmp .lt (5), 3) := by decide +kernel
theorem d_Types_classType_148 : decode prog_11_method_10_code 148 = .ok (.iconst (-1), 1) := by decide +kernel
theorem d_Types_classType_149 : decode prog_11_method_10_code 149 = .ok (.ireturn, 1) := by decide +kernel
theorem d_Types_classType_150 : decode prog_11_method_10_code 150 = .ok (.aload_n 0, 1) := by decide +kernel
theorem d_Types_classType_151 : decode prog_11_method_10_code 151 = .ok (.getfield 30, 3) := by decide +kernel
theorem d_Types_classType_154 : decode prog_11_method_10_code 154 = .ok (.istore 8, 2) := by decide +kernel
theorem d_Types_classType_156 : decode prog_11_method_10_code 156 = .ok (.iconst (3), 1) := by decide +kernel
theorem d_Types_classType_157 : decode prog_11_method_10_code 157 = .ok (.iload 8, 2) := by decide +kernel
theorem d_Types_classType_159 : decode prog_11_method_10_code 159 = .ok (.imul, 1) := by decide +kernel
theorem d_Types_classType_160 : decode prog_11_method_10_code 160 = .ok (.istore 7, 2) := by decide +kernel
theorem d_Types_classType_162 : decode prog_11_method_10_code 162 = .ok (.aload_n 0, 1) := by decide +kernel
theorem d_Types_classType_163 : decode prog_11_method_10_code 163 = .ok (.getfield 11, 3) := by decide +kernel
theorem d_Types_classType_166 : decode prog_11_method_10_code 166 = .ok (.iload 8, 2) := by decide +kernel
theorem d_Types_classType_168 : decode prog_11_method_10_code 168 = .ok (.iload_n 1, 1) := by decide +kernel
theorem d_Types_classType_169 : decode prog_11_method_10_code 169 = .ok (.iastore, 1) := by decide +kernel
theorem d_Types_classType_170 : decode prog_11_method_10_code 170 = .ok (.aload_n 0, 1) := by decide +kernel
theorem d_Types_classType_171 : decode prog_11_method_10_code 171 = .ok (.getfield 15, 3) := by decide +kernel
theorem d_Types_classType_174 : decode prog_11_method_10_code 174 = .ok (.iload 7, 2) := by decide +kernel
theorem d_Types_classType_176 : decode prog_11_method_10_code 176 = .ok (.iload_n 2, 1) := by decide +kernel
theorem d_Types_classType_177 : decode prog_11_method_10_code 177 = .ok (.iastore, 1) := by decide +kernel
theorem d_Types_classType_178 : decode prog_11_method_10_code 178 = .ok (.aload_n 0, 1) := by decide +kernel
theorem d_Types_classType_179 : decode prog_11_method_10_code 179 = .ok (.getfield 15, 3) := by decide +kernel
theorem d_Types_classType_182 : decode prog_11_method_10_code 182 = .ok (.iload 7, 2) := by decide +kernel
theorem d_Types_classType_184 : decode prog_11_method_10_code 184 = .ok (.iconst (1), 1) := by decide +kernel
theorem d_Types_classType_185 : decode prog_11_method_10_code 185 = .ok (.iadd, 1) := by decide +kernel
theorem d_Types_classType_186 : decode prog_11_method_10_code 186 = .ok (.iload_n 3, 1) := by decide +kernel
theorem d_Types_classType_187 : decode prog_11_method_10_code 187 = .ok (.iastore, 1) := by decide +kernel
theorem d_Types_classType_188 : decode prog_11_method_10_code 188 = .ok (.aload_n 0, 1) := by decide +kernel
theorem d_Types_classType_189 : decode prog_11_method_10_code 189 = .ok (.getfield 15, 3) := by decide +kernel
theorem d_Types_classType_192 : decode prog_11_method_10_code 192 = .ok (.iload 7, 2) := by decide +kernel
theorem d_Types_classType_194 : decode prog_11_method_10_code 194 = .ok (.iconst (2), 1) := by decide +kernel
theorem d_Types_classType_195 : decode prog_11_method_10_code 195 = .ok (.iadd, 1) := by decide +kernel
theorem d_Types_classType_196 : decode prog_11_method_10_code 196 = .ok (.iload 4, 2) := by decide +kernel
theorem d_Types_classType_198 : decode prog_11_method_10_code 198 = .ok (.iastore, 1) := by decide +kernel
theorem d_Types_classType_199 : decode prog_11_method_10_code 199 = .ok (.aload_n 0, 1) := by decide +kernel
theorem d_Types_classType_200 : decode prog_11_method_10_code 200 = .ok (.getfield 18, 3) := by decide +kernel
theorem d_Types_classType_203 : decode prog_11_method_10_code 203 = .ok (.iload 8, 2) := by decide +kernel
theorem d_Types_classType_205 : decode prog_11_method_10_code 205 = .ok (.iconst (1), 1) := by decide +kernel
theorem d_Types_classType_206 : decode prog_11_method_10_code 206 = .ok (.bipush (8), 2) := by decide +kernel
theorem d_Types_classType_208 : decode prog_11_method_10_code 208 = .ok (.iload_n 1, 1) := by decide +kernel
theorem d_Types_classType_209 : decode prog_11_method_10_code 209 = .ok (.iadd, 1) := by decide +kernel
theorem d_Types_classType_210 : decode prog_11_method_10_code 210 = .ok (.ishl, 1) := by decide +kernel
theorem d_Types_classType_211 : decode prog_11_method_10_code 211 = .ok (.iastore, 1) := by decide +kernel
theorem d_Types_classType_212 : decode prog_11_method_10_code 212 = .ok (.iconst (0), 1) := by decide +kernel
theorem d_Types_classType_213 : decode prog_11_method_10_code 213 = .ok (.istore 9, 2) := by decide +kernel
theorem d_Types_classType_215 : decode prog_11_method_10_code 215 = .ok (.iload 9, 2) := by decide +kernel
theorem d_Types_classType_217 : decode prog_11_method_10_code 217 = .ok (.iconst (3), 1) := by decide +kernel
theorem d_Types_classType_218 : decode prog_11_method_10_code 218 = .ok (.if_icmp .ge (66), 3) := by decide +kernel
theorem d_Types_classType_221 : decode prog_11_method_10_code 221 = .ok (.aload_n 0, 1) := by decide +kernel
theorem d_Types_classType_222 : decode prog_11_method_10_code 222 = .ok (.getfield 18, 3) := by decide +kernel
theorem d_Types_classType_225 : decode prog_11_method_10_code 225 = .ok (.iload 8, 2) := by decide +kernel
theorem d_Types_classType_227 : decode prog_11_method_10_code 227 = .ok (.dup2, 1) := by decide +kernel
theorem d_Types_classType_228 : decode prog_11_method_10_code 228 = .ok (.iaload, 1) := by decide +kernel
theorem d_Types_classType_229 : decode prog_11_method_10_code 229 = .ok (.aload_n 0, 1) := by decide +kernel
theorem d_Types_classType_230 : decode prog_11_method_10_code 230 = .ok (.getfield 15, 3) := by decide +kernel
theorem d_Types_classType_233 : decode prog_11_method_10_code 233 = .ok (.iload 7, 2) := by decide +kernel
theorem d_Types_classType_235 : decode prog_11_method_10_code 235 = .ok (.iload 9, 2) := by decide +kernel
theorem d_Types_classType_237 : decode prog_11_method_10_code 237 = .ok (.iadd, 1) := by decide +kernel
theorem d_Types_classType_238 : decode prog_11_method_10_code 238 = .ok (.iaload, 1) := by decide +kernel
theorem d_Types_classType_239 : decode prog_11_method_10_code 239 = .ok (.ifCond .lt (36), 3) := by decide +kernel
theorem d_Types_classType_242 : decode prog_11_method_10_code 242 = .ok (.aload_n 0, 1) := by decide +kernel
theorem d_Types_classType_243 : decode prog_11_method_10_code 243 = .ok (.getfield 15, 3) := by decide +kernel
theorem d_Types_classType_246 : decode prog_11_method_10_code 246 = .ok (.iload 7, 2) := by decide +kernel
theorem d_Types_classType_248 : decode prog_11_method_10_code 248 = .ok (.iload 9, 2) := by decide +kernel
theorem d_Types_classType_250 : decode prog_11_method_10_code 250 = .ok (.iadd, 1) := by decide +kernel
theorem d_Types_classType_251 : decode prog_11_method_10_code 251 = .ok (.iaload, 1) := by decide +kernel
theorem d_Types_classType_252 : decode prog_11_method_10_code 252 = .ok (.iload 8, 2) := by decide +kernel
theorem d_Types_classType_254 : decode prog_11_method_10_code 254 = .ok (.if_icmp .ge (21), 3) := by decide +kernel
theorem d_Types_classType_257 : decode prog_11_method_10_code 257 = .ok (.aload_n 0, 1) := by decide +kernel
theorem d_Types_classType_258 : decode prog_11_method_10_code 258 = .ok (.getfield 18, 3) := by decide +kernel
theorem d_Types_classType_261 : decode prog_11_method_10_code 261 = .ok (.aload_n 0, 1) := by decide +kernel
theorem d_Types_classType_262 : decode prog_11_method_10_code 262 = .ok (.getfield 15, 3) := by decide +kernel
theorem d_Types_classType_265 : decode prog_11_method_10_code 265 = .ok (.iload 7, 2) := by decide +kernel
theorem d_Types_classType_267 : decode prog_11_method_10_code 267 = .ok (.iload 9, 2) := by decide +kernel
theorem d_Types_classType_269 : decode prog_11_method_10_code 269 = .ok (.iadd, 1) := by decide +kernel
theorem d_Types_classType_270 : decode prog_11_method_10_code 270 = .ok (.iaload, 1) := by decide +kernel
theorem d_Types_classType_271 : decode prog_11_method_10_code 271 = .ok (.iaload, 1) := by decide +kernel
theorem d_Types_classType_272 : decode prog_11_method_10_code 272 = .ok (.goto (4), 3) := by decide +kernel
theorem d_Types_classType_275 : decode prog_11_method_10_code 275 = .ok (.iconst (0), 1) := by decide +kernel
theorem d_Types_classType_276 : decode prog_11_method_10_code 276 = .ok (.ior, 1) := by decide +kernel
theorem d_Types_classType_277 : decode prog_11_method_10_code 277 = .ok (.iastore, 1) := by decide +kernel
theorem d_Types_classType_278 : decode prog_11_method_10_code 278 = .ok (.iinc 9 (1), 3) := by decide +kernel
theorem d_Types_classType_281 : decode prog_11_method_10_code 281 = .ok (.goto (-66), 3) := by decide +kernel
theorem d_Types_classType_284 : decode prog_11_method_10_code 284 = .ok (.aload_n 0, 1) := by decide +kernel
theorem d_Types_classType_285 : decode prog_11_method_10_code 285 = .ok (.getfield 21, 3) := by decide +kernel
theorem d_Types_classType_288 : decode prog_11_method_10_code 288 = .ok (.iload 8, 2) := by decide +kernel
theorem d_Types_classType_290 : decode prog_11_method_10_code 290 = .ok (.iload 6, 2) := by decide +kernel
theorem d_Types_classType_292 : decode prog_11_method_10_code 292 = .ok (.iastore, 1) := by decide +kernel
theorem d_Types_classType_293 : decode prog_11_method_10_code 293 = .ok (.aload_n 0, 1) := by decide +kernel
theorem d_Types_classType_294 : decode prog_11_method_10_code 294 = .ok (.getfield 24, 3) := by decide +kernel
theorem d_Types_classType_297 : decode prog_11_method_10_code 297 = .ok (.iload 8, 2) := by decide +kernel
theorem d_Types_classType_299 : decode prog_11_method_10_code 299 = .ok (.aload_n 0, 1) := by decide +kernel
theorem d_Types_classType_300 : decode prog_11_method_10_code 300 = .ok (.getfield 27, 3) := by decide +kernel
theorem d_Types_classType_303 : decode prog_11_method_10_code 303 = .ok (.iload 6, 2) := by decide +kernel
theorem d_Types_classType_305 : decode prog_11_method_10_code 305 = .ok (.iaload, 1) := by decide +kernel
theorem d_Types_classType_306 : decode prog_11_method_10_code 306 = .ok (.iastore, 1) := by decide +kernel
theorem d_Types_classType_307 : decode prog_11_method_10_code 307 = .ok (.aload_n 0, 1) := by decide +kernel
theorem d_Types_classType_308 : decode prog_11_method_10_code 308 = .ok (.getfield 27, 3) := by decide +kernel
theorem d_Types_classType_311 : decode prog_11_method_10_code 311 = .ok (.iload 6, 2) := by decide +kernel
theorem d_Types_classType_313 : decode prog_11_method_10_code 313 = .ok (.iload 8, 2) := by decide +kernel
theorem d_Types_classType_315 : decode prog_11_method_10_code 315 = .ok (.iastore, 1) := by decide +kernel
theorem d_Types_classType_316 : decode prog_11_method_10_code 316 = .ok (.aload_n 0, 1) := by decide +kernel
theorem d_Types_classType_317 : decode prog_11_method_10_code 317 = .ok (.dup, 1) := by decide +kernel
theorem d_Types_classType_318 : decode prog_11_method_10_code 318 = .ok (.getfield 30, 3) := by decide +kernel
theorem d_Types_classType_321 : decode prog_11_method_10_code 321 = .ok (.iconst (1), 1) := by decide +kernel
theorem d_Types_classType_322 : decode prog_11_method_10_code 322 = .ok (.iadd, 1) := by decide +kernel
theorem d_Types_classType_323 : decode prog_11_method_10_code 323 = .ok (.putfield 30, 3) := by decide +kernel
theorem d_Types_classType_326 : decode prog_11_method_10_code 326 = .ok (.iload 8, 2) := by decide +kernel
theorem d_Types_classType_328 : decode prog_11_method_10_code 328 = .ok (.ireturn, 1) := by decide +kernel
theorem d_Reader_readType_0 : decode prog_9_method_11_code 0 = .ok (.iload_n 1, 1) := by decide +kernel
theorem d_Reader_readType_1 : decode prog_9_method_11_code 1 = .ok (.ifCond .eq (56), 3) := by decide +kernel
theorem d_Reader_readType_4 : decode prog_9_method_11_code 4 = .ok (.aload_n 0, 1) := by decide +kernel
theorem d_Reader_readType_5 : decode prog_9_method_11_code 5 = .ok (.getfield 9, 3) := by decide +kernel
theorem d_Reader_readType_8 : decode prog_9_method_11_code 8 = .ok (.aload_n 0, 1) := by decide +kernel
theorem d_Reader_readType_9 : decode prog_9_method_11_code 9 = .ok (.getfield 70, 3) := by decide +kernel
theorem d_Reader_readType_12 : decode prog_9_method_11_code 12 = .ok (.caload, 1) := by decide +kernel
theorem d_Reader_readType_13 : decode prog_9_method_11_code 13 = .ok (.bipush (83), 2) := by decide +kernel
theorem d_Reader_readType_15 : decode prog_9_method_11_code 15 = .ok (.if_icmp .lt (42), 3) := by decide +kernel
theorem d_Reader_readType_18 : decode prog_9_method_11_code 18 = .ok (.aload_n 0, 1) := by decide +kernel
theorem d_Reader_readType_19 : decode prog_9_method_11_code 19 = .ok (.getfield 9, 3) := by decide +kernel
theorem d_Reader_readType_22 : decode prog_9_method_11_code 22 = .ok (.aload_n 0, 1) := by decide +kernel
theorem d_Reader_readType_23 : decode prog_9_method_11_code 23 = .ok (.getfield 70, 3) := by decide +kernel
theorem d_Reader_readType_26 : decode prog_9_method_11_code 26 = .ok (.caload, 1) := by decide +kernel
theorem d_Reader_readType_27 : decode prog_9_method_11_code 27 = .ok (.bipush (90), 2) := by decide +kernel
theorem d_Reader_readType_29 : decode prog_9_method_11_code 29 = .ok (.if_icmp .gt (28), 3) := by decide +kernel
theorem d_Reader_readType_32 : decode prog_9_method_11_code 32 = .ok (.aload_n 0, 1) := by decide +kernel
theorem d_Reader_readType_33 : decode prog_9_method_11_code 33 = .ok (.dup, 1) := by decide +kernel
theorem d_Reader_readType_34 : decode prog_9_method_11_code 34 = .ok (.getfield 70, 3) := by decide +kernel
theorem d_Reader_readType_37 : decode prog_9_method_11_code 37 = .ok (.iconst (1), 1) := by decide +kernel
theorem d_Reader_readType_38 : decode prog_9_method_11_code 38 = .ok (.iadd, 1) := by decide +kernel
theorem d_Reader_readType_39 : decode prog_9_method_11_code 39 = .ok (.putfield 70, 3) := by decide +kernel
theorem d_Reader_readType_42 : decode prog_9_method_11_code 42 = .ok (.aload_n 0, 1) := by decide +kernel
theorem d_Reader_readType_43 : decode prog_9_method_11_code 43 = .ok (.getfield 9, 3) := by decide +kernel
theorem d_Reader_readType_46 : decode prog_9_method_11_code 46 = .ok (.aload_n 0, 1) := by decide +kernel
theorem d_Reader_readType_47 : decode prog_9_method_11_code 47 = .ok (.getfield 70, 3) := by decide +kernel
theorem d_Reader_readType_50 : decode prog_9_method_11_code 50 = .ok (.iconst (1), 1) := by decide +kernel
theorem d_Reader_readType_51 : decode prog_9_method_11_code 51 = .ok (.isub, 1) := by decide +kernel
theorem d_Reader_readType_52 : decode prog_9_method_11_code 52 = .ok (.caload, 1) := by decide +kernel
theorem d_Reader_readType_53 : decode prog_9_method_11_code 53 = .ok (.bipush (83), 2) := by decide +kernel
theorem d_Reader_readType_55 : decode prog_9_method_11_code 55 = .ok (.isub, 1) := by decide +kernel
theorem d_Reader_readType_56 : decode prog_9_method_11_code 56 = .ok (.ireturn, 1) := by decide +kernel
theorem d_Reader_readType_57 : decode prog_9_method_11_code 57 = .ok (.aload_n 0, 1) := by decide +kernel
theorem d_Reader_readType_58 : decode prog_9_method_11_code 58 = .ok (.bipush (65), 2) := by decide +kernel
theorem d_Reader_readType_60 : decode prog_9_method_11_code 60 = .ok (.bipush (72), 2) := by decide +kernel
theorem d_Reader_readType_62 : decode prog_9_method_11_code 62 = .ok (.invokevirtual 37, 3) := by decide +kernel
theorem d_Reader_readType_65 : decode prog_9_method_11_code 65 = .ok (.istore_n 2, 1) := by decide +kernel
theorem d_Reader_readType_66 : decode prog_9_method_11_code 66 = .ok (.aload_n 0, 1) := by decide +kernel
theorem d_Reader_readType_67 : decode prog_9_method_11_code 67 = .ok (.getfield 9, 3) := by decide +kernel
theorem d_Reader_readType_70 : decode prog_9_method_11_code 70 = .ok (.aload_n 0, 1) := by decide +kernel
theorem d_Reader_readType_71 : decode prog_9_method_11_code 71 = .ok (.getfield 70, 3) := by decide +kernel
theorem d_Reader_readType_74 : decode prog_9_method_11_code 74 = .ok (.caload, 1) := by decide +kernel
theorem d_Reader_readType_75 : decode prog_9_method_11_code 75 = .ok (.bipush (91), 2) := by decide +kernel
theorem d_Reader_readType_77 : decode prog_9_method_11_code 77 = .ok (.if_icmp .ne (11), 3) := by decide +kernel
theorem d_Reader_readType_80 : decode prog_9_method_11_code 80 = .ok (.aload_n 0, 1) := by decide +kernel
theorem d_Reader_readType_81 : decode prog_9_method_11_code 81 = .ok (.iload_n 2, 1) := by decide +kernel
theorem d_Reader_readType_88 : decode prog_9_method_11_code 88 = .ok (.aload_n 0, 1) := by decide +kernel
theorem d_Reader_readType_89 : decode prog_9_method_11_code 89 = .ok (.getfield 25, 3) := by decide +kernel
theorem d_Reader_readType_92 : decode prog_9_method_11_code 92 = .ok (.iload_n 2, 1) := by decide +kernel
theorem d_Reader_readType_93 : decode prog_9_method_11_code 93 = .ok (.iconst (-1), 1) := by decide +kernel
theorem d_Reader_readType_94 : decode prog_9_method_11_code 94 = .ok (.iconst (-1), 1) := by decide +kernel
theorem d_Reader_readType_95 : decode prog_9_method_11_code 95 = .ok (.iconst (-1), 1) := by decide +kernel
theorem d_Reader_readType_96 : decode prog_9_method_11_code 96 = .ok (.invokevirtual 113, 3) := by decide +kernel
theorem d_Reader_readType_99 : decode prog_9_method_11_code 99 = .ok (.ireturn, 1) := by decide +kernel
theorem d_Reader_close_0 : decode prog_9_method_10_code 0 = .ok (.aload_n 0, 1) := by decide +kernel
theorem d_Reader_close_1 : decode prog_9_method_10_code 1 = .ok (.getfield 9, 3) := by decide +kernel
theorem d_Reader_close_4 : decode prog_9_method_10_code 4 = .ok (.aload_n 0, 1) := by decide +kernel
theorem d_Reader_close_5 : decode prog_9_method_10_code 5 = .ok (.getfield 70, 3) := by decide +kernel
theorem d_Reader_close_8 : decode prog_9_method_10_code 8 = .ok (.caload, 1) := by decide +kernel
theorem d_Reader_close_9 : decode prog_9_method_10_code 9 = .ok (.iload_n 1, 1) := by decide +kernel
theorem d_Reader_close_10 : decode prog_9_method_10_code 10 = .ok (.if_icmp .ne (26), 3) := by decide +kernel
theorem d_Reader_close_13 : decode prog_9_method_10_code 13 = .ok (.aload_n 0, 1) := by decide +kernel
theorem d_Reader_close_14 : decode prog_9_method_10_code 14 = .ok (.dup, 1) := by decide +kernel
theorem d_Reader_close_15 : decode prog_9_method_10_code 15 = .ok (.getfield 70, 3) := by decide +kernel
theorem d_Reader_close_18 : decode prog_9_method_10_code 18 = .ok (.iconst (1), 1) := by decide +kernel
theorem d_Reader_close_19 : decode prog_9_method_10_code 19 = .ok (.iadd, 1) := by decide +kernel
theorem d_Reader_close_20 : decode prog_9_method_10_code 20 = .ok (.putfield 70, 3) := by decide +kernel
theorem d_Reader_close_23 : decode prog_9_method_10_code 23 = .ok (.aload_n 0, 1) := by decide +kernel
theorem d_Reader_close_24 : decode prog_9_method_10_code 24 = .ok (.dup, 1) := by decide +kernel
theorem d_Reader_close_25 : decode prog_9_method_10_code 25 = .ok (.getfield 97, 3) := by decide +kernel
theorem d_Reader_close_28 : decode prog_9_method_10_code 28 = .ok (.iconst (1), 1) := by decide +kernel
theorem d_Reader_close_29 : decode prog_9_method_10_code 29 = .ok (.isub, 1) := by decide +kernel
theorem d_Reader_close_30 : decode prog_9_method_10_code 30 = .ok (.putfield 97, 3) := by decide +kernel
theorem d_Reader_close_33 : decode prog_9_method_10_code 33 = .ok (.goto (13), 3) := by decide +kernel
theorem d_Reader_close_36 : decode prog_9_method_10_code 36 = .ok (.aload_n 0, 1) := by decide +kernel
theorem d_Reader_close_37 : decode prog_9_method_10_code 37 = .ok (.getfield 9, 3) := by decide +kernel
theorem d_Reader_close_40 : decode prog_9_method_10_code 40 = .ok (.aload_n 0, 1) := by decide +kernel
theorem d_Reader_close_41 : decode prog_9_method_10_code 41 = .ok (.getfield 70, 3) := by decide +kernel
theorem d_Reader_close_44 : decode prog_9_method_10_code 44 = .ok (.iconst (1), 1) := by decide +kernel
theorem d_Reader_close_45 : decode prog_9_method_10_code 45 = .ok (.castore, 1) := by decide +kernel
theorem d_Reader_close_46 : decode prog_9_method_10_code 46 = .ok (.return_, 1) := by decide +kernel
theorem d_Reader_readBounds_0 : decode prog_9_method_13_code 0 = .ok (.aload_n 0, 1) := by decide +kernel
theorem d_Reader_readBounds_1 : decode prog_9_method_13_code 1 = .ok (.getfield 9, 3) := by decide +kernel
theorem d_Reader_readBounds_4 : decode prog_9_method_13_code 4 = .ok (.aload_n 0, 1) := by decide +kernel
theorem d_Reader_readBounds_5 : decode prog_9_method_13_code 5 = .ok (.getfield 70, 3) := by decide +kernel
theorem d_Reader_readBounds_8 : decode prog_9_method_13_code 8 = .ok (.caload, 1) := by decide +kernel
theorem d_Reader_readBounds_9 : decode prog_9_method_13_code 9 = .ok (.bipush (91), 2) := by decide +kernel
theorem d_Reader_readBounds_11 : decode prog_9_method_13_code 11 = .ok (.if_icmp .eq (4), 3) := by decide +kernel
theorem d_Reader_readBounds_14 : decode prog_9_method_13_code 14 = .ok (.return_, 1) := by decide +kernel
theorem d_Reader_readBounds_15 : decode prog_9_method_13_code 15 = .ok (.aload_n 0, 1) := by decide +kernel
theorem d_Reader_readBounds_16 : decode prog_9_method_13_code 16 = .ok (.bipush (91), 2) := by decide +kernel
theorem d_Reader_readBounds_18 : decode prog_9_method_13_code 18 = .ok (.invokevirtual 67, 3) := by decide +kernel
theorem d_Reader_readBounds_21 : decode prog_9_method_13_code 21 = .ok (.iconst (1), 1) := by decide +kernel
theorem d_Reader_readBounds_22 : decode prog_9_method_13_code 22 = .ok (.istore_n 2, 1) := by decide +kernel
theorem d_Reader_readBounds_23 : decode prog_9_method_13_code 23 = .ok (.iconst (0), 1) := by decide +kernel
theorem d_Reader_readBounds_24 : decode prog_9_method_13_code 24 = .ok (.istore_n 3, 1) := by decide +kernel
theorem d_Reader_readBounds_25 : decode prog_9_method_13_code 25 = .ok (.iload_n 3, 1) := by decide +kernel
theorem d_Reader_readBounds_26 : decode prog_9_method_13_code 26 = .ok (.iconst (3), 1) := by decide +kernel
theorem d_Reader_readBounds_27 : decode prog_9_method_13_code 27 = .ok (.if_icmp .ge (57), 3) := by decide +kernel
theorem d_Reader_readBounds_30 : decode prog_9_method_13_code 30 = .ok (.iload_n 2, 1) := by decide +kernel
theorem d_Reader_readBounds_31 : decode prog_9_method_13_code 31 = .ok (.ifCond .eq (53), 3) := by decide +kernel
theorem d_Reader_readBounds_34 : decode prog_9_method_13_code 34 = .ok (.aload_n 0, 1) := by decide +kernel
theorem d_Reader_readBounds_35 : decode prog_9_method_13_code 35 = .ok (.bipush (83), 2) := by decide +kernel
theorem d_Reader_readBounds_37 : decode prog_9_method_13_code 37 = .ok (.bipush (90), 2) := by decide +kernel
theorem d_Reader_readBounds_39 : decode prog_9_method_13_code 39 = .ok (.invokevirtual 37, 3) := by decide +kernel
