theorem d_Law_law_15 : decode code 15 = .ok (.astore_n 2, 1) := by decide +kernel
theorem d_Law_law_16 : decode code 16 = .ok (.iconst (0), 1) := by decide +kernel
theorem d_Law_law_17 : decode code 17 = .ok (.istore_n 3, 1) := by decide +kernel
theorem d_Law_law_18 : decode code 18 = .ok (.iload_n 3, 1) := by decide +kernel
theorem d_Law_law_19 : decode code 19 = .ok (.aload_n 0, 1) := by decide +kernel
theorem d_Law_law_20 : decode code 20 = .ok (.arraylength, 1) := by decide +kernel
theorem d_Law_law_21 : decode code 21 = .ok (.iconst (3), 1) := by decide +kernel
theorem d_Law_law_22 : decode code 22 = .ok (.isub, 1) := by decide +kernel
theorem d_Law_law_23 : decode code 23 = .ok (.if_icmp .gt (237), 3) := by decide +kernel
theorem d_Law_law_26 : decode code 26 = .ok (.aload_n 0, 1) := by decide +kernel
theorem d_Law_law_27 : decode code 27 = .ok (.iload_n 3, 1) := by decide +kernel
theorem d_Law_law_28 : decode code 28 = .ok (.iaload, 1) := by decide +kernel
theorem d_Law_law_29 : decode code 29 = .ok (.bipush (7), 2) := by decide +kernel
theorem d_Law_law_31 : decode code 31 = .ok (.iand, 1) := by decide +kernel
theorem d_Law_law_32 : decode code 32 = .ok (.tableswitch (222) (0) (7) #[48, 81, 94, 117, 130, 153, 166, 189], 48) := by decide +kernel
theorem d_Law_law_80 : decode code 80 = .ok (.aload_n 1, 1) := by decide +kernel
theorem d_Law_law_81 : decode code 81 = .ok (.aload_n 0, 1) := by decide +kernel
theorem d_Law_law_82 : decode code 82 = .ok (.iload_n 3, 1) := by decide +kernel
theorem d_Law_law_83 : decode code 83 = .ok (.iconst (1), 1) := by decide +kernel
theorem d_Law_law_84 : decode code 84 = .ok (.iadd, 1) := by decide +kernel
theorem d_Law_law_85 : decode code 85 = .ok (.iaload, 1) := by decide +kernel
theorem d_Law_law_86 : decode code 86 = .ok (.aload_n 0, 1) := by decide +kernel
theorem d_Law_law_87 : decode code 87 = .ok (.iload_n 3, 1) := by decide +kernel
theorem d_Law_law_88 : decode code 88 = .ok (.iconst (2), 1) := by decide +kernel
theorem d_Law_law_89 : decode code 89 = .ok (.iadd, 1) := by decide +kernel
theorem d_Law_law_90 : decode code 90 = .ok (.iaload, 1) := by decide +kernel
theorem d_Law_law_91 : decode code 91 = .ok (.invokevirtual 13, 3) := by decide +kernel
theorem d_Law_law_94 : decode code 94 = .ok (.aload_n 2, 1) := by decide +kernel
theorem d_Law_law_95 : decode code 95 = .ok (.aload_n 0, 1) := by decide +kernel
theorem d_Law_law_96 : decode code 96 = .ok (.iload_n 3, 1) := by decide +kernel
theorem d_Law_law_97 : decode code 97 = .ok (.iconst (1), 1) := by decide +kernel
theorem d_Law_law_98 : decode code 98 = .ok (.iadd, 1) := by decide +kernel
theorem d_Law_law_99 : decode code 99 = .ok (.iaload, 1) := by decide +kernel
theorem d_Law_law_100 : decode code 100 = .ok (.aload_n 0, 1) := by decide +kernel
theorem d_Law_law_101 : decode code 101 = .ok (.iload_n 3, 1) := by decide +kernel
theorem d_Law_law_102 : decode code 102 = .ok (.iconst (2), 1) := by decide +kernel
theorem d_Law_law_103 : decode code 103 = .ok (.iadd, 1) := by decide +kernel
theorem d_Law_law_104 : decode code 104 = .ok (.iaload, 1) := by decide +kernel
theorem d_Law_law_105 : decode code 105 = .ok (.invokevirtual 17, 3) := by decide +kernel
theorem d_Law_law_108 : decode code 108 = .ok (.if_icmp .eq (146), 3) := by decide +kernel
theorem d_Law_law_111 : decode code 111 = .ok (.iconst (0), 1) := by decide +kernel
theorem d_Law_law_113 : decode code 113 = .ok (.aload_n 1, 1) := by decide +kernel
theorem d_Law_law_114 : decode code 114 = .ok (.invokevirtual 18, 3) := by decide +kernel
theorem d_Law_law_117 : decode code 117 = .ok (.aload_n 2, 1) := by decide +kernel
theorem d_Law_law_118 : decode code 118 = .ok (.invokevirtual 22, 3) := by decide +kernel
theorem d_Law_law_121 : decode code 121 = .ok (.if_icmp .eq (133), 3) := by decide +kernel
theorem d_Law_law_124 : decode code 124 = .ok (.iconst (0), 1) := by decide +kernel
theorem d_Law_law_126 : decode code 126 = .ok (.aload_n 1, 1) := by decide +kernel
theorem d_Law_law_127 : decode code 127 = .ok (.aload_n 0, 1) := by decide +kernel
theorem d_Law_law_128 : decode code 128 = .ok (.iload_n 3, 1) := by decide +kernel
theorem d_Law_law_129 : decode code 129 = .ok (.iconst (1), 1) := by decide +kernel
theorem d_Law_law_130 : decode code 130 = .ok (.iadd, 1) := by decide +kernel
theorem d_Law_law_131 : decode code 131 = .ok (.iaload, 1) := by decide +kernel
theorem d_Law_law_132 : decode code 132 = .ok (.invokevirtual 23, 3) := by decide +kernel
theorem d_Law_law_135 : decode code 135 = .ok (.aload_n 2, 1) := by decide +kernel
theorem d_Law_law_136 : decode code 136 = .ok (.aload_n 0, 1) := by decide +kernel
theorem d_Law_law_137 : decode code 137 = .ok (.iload_n 3, 1) := by decide +kernel
theorem d_Law_law_138 : decode code 138 = .ok (.iconst (1), 1) := by decide +kernel
theorem d_Law_law_139 : decode code 139 = .ok (.iadd, 1) := by decide +kernel
theorem d_Law_law_140 : decode code 140 = .ok (.iaload, 1) := by decide +kernel
theorem d_Law_law_141 : decode code 141 = .ok (.invokevirtual 27, 3) := by decide +kernel
theorem d_Law_law_144 : decode code 144 = .ok (.if_icmp .eq (110), 3) := by decide +kernel
theorem d_Law_law_147 : decode code 147 = .ok (.iconst (0), 1) := by decide +kernel
theorem d_Law_law_149 : decode code 149 = .ok (.aload_n 1, 1) := by decide +kernel
theorem d_Law_law_150 : decode code 150 = .ok (.invokevirtual 28, 3) := by decide +kernel
theorem d_Law_law_153 : decode code 153 = .ok (.aload_n 2, 1) := by decide +kernel
theorem d_Law_law_154 : decode code 154 = .ok (.invokevirtual 31, 3) := by decide +kernel
theorem d_Law_law_157 : decode code 157 = .ok (.if_icmp .eq (97), 3) := by decide +kernel
theorem d_Law_law_160 : decode code 160 = .ok (.iconst (0), 1) := by decide +kernel
theorem d_Law_law_162 : decode code 162 = .ok (.aload_n 1, 1) := by decide +kernel
theorem d_Law_law_163 : decode code 163 = .ok (.aload_n 0, 1) := by decide +kernel
theorem d_Law_law_164 : decode code 164 = .ok (.iload_n 3, 1) := by decide +kernel
theorem d_Law_law_165 : decode code 165 = .ok (.iconst (1), 1) := by decide +kernel
theorem d_Law_law_166 : decode code 166 = .ok (.iadd, 1) := by decide +kernel
theorem d_Law_law_167 : decode code 167 = .ok (.iaload, 1) := by decide +kernel
theorem d_Law_law_168 : decode code 168 = .ok (.invokevirtual 32, 3) := by decide +kernel
theorem d_Law_law_171 : decode code 171 = .ok (.aload_n 2, 1) := by decide +kernel
theorem d_Law_law_172 : decode code 172 = .ok (.aload_n 0, 1) := by decide +kernel
theorem d_Law_law_173 : decode code 173 = .ok (.iload_n 3, 1) := by decide +kernel
theorem d_Law_law_174 : decode code 174 = .ok (.iconst (1), 1) := by decide +kernel
theorem d_Law_law_175 : decode code 175 = .ok (.iadd, 1) := by decide +kernel
theorem d_Law_law_176 : decode code 176 = .ok (.iaload, 1) := by decide +kernel
theorem d_Law_law_177 : decode code 177 = .ok (.invokevirtual 35, 3) := by decide +kernel
theorem d_Law_law_180 : decode code 180 = .ok (.if_icmp .eq (74), 3) := by decide +kernel
theorem d_Law_law_183 : decode code 183 = .ok (.iconst (0), 1) := by decide +kernel
theorem d_Law_law_185 : decode code 185 = .ok (.aload_n 1, 1) := by decide +kernel
theorem d_Law_law_186 : decode code 186 = .ok (.invokevirtual 36, 3) := by decide +kernel
theorem d_Law_law_189 : decode code 189 = .ok (.aload_n 2, 1) := by decide +kernel
theorem d_Law_law_190 : decode code 190 = .ok (.invokevirtual 39, 3) := by decide +kernel
theorem d_Law_law_193 : decode code 193 = .ok (.if_icmp .eq (61), 3) := by decide +kernel
theorem d_Law_law_196 : decode code 196 = .ok (.iconst (0), 1) := by decide +kernel
theorem d_Law_law_198 : decode code 198 = .ok (.aload_n 1, 1) := by decide +kernel
theorem d_Law_law_199 : decode code 199 = .ok (.aload_n 0, 1) := by decide +kernel
theorem d_Law_law_200 : decode code 200 = .ok (.iload_n 3, 1) := by decide +kernel
theorem d_Law_law_201 : decode code 201 = .ok (.iconst (1), 1) := by decide +kernel
theorem d_Law_law_202 : decode code 202 = .ok (.iadd, 1) := by decide +kernel
theorem d_Law_law_203 : decode code 203 = .ok (.iaload, 1) := by decide +kernel
theorem d_Law_law_204 : decode code 204 = .ok (.invokevirtual 40, 3) := by decide +kernel
theorem d_Law_law_207 : decode code 207 = .ok (.aload_n 2, 1) := by decide +kernel
theorem d_Law_law_208 : decode code 208 = .ok (.aload_n 0, 1) := by decide +kernel
theorem d_Law_law_209 : decode code 209 = .ok (.iload_n 3, 1) := by decide +kernel
theorem d_Law_law_210 : decode code 210 = .ok (.iconst (1), 1) := by decide +kernel
theorem d_Law_law_211 : decode code 211 = .ok (.iadd, 1) := by decide +kernel
theorem d_Law_law_212 : decode code 212 = .ok (.iaload, 1) := by decide +kernel
theorem d_Law_law_213 : decode code 213 = .ok (.invokevirtual 43, 3) := by decide +kernel
theorem d_Law_law_216 : decode code 216 = .ok (.if_icmp .eq (38), 3) := by decide +kernel
theorem d_Law_law_219 : decode code 219 = .ok (.iconst (0), 1) := by decide +kernel
theorem d_Law_law_221 : decode code 221 = .ok (.aload_n 1, 1) := by decide +kernel
theorem d_Law_law_222 : decode code 222 = .ok (.aload_n 0, 1) := by decide +kernel
theorem d_Law_law_223 : decode code 223 = .ok (.iload_n 3, 1) := by decide +kernel
theorem d_Law_law_224 : decode code 224 = .ok (.iconst (1), 1) := by decide +kernel
theorem d_Law_law_225 : decode code 225 = .ok (.iadd, 1) := by decide +kernel
theorem d_Law_law_226 : decode code 226 = .ok (.iaload, 1) := by decide +kernel
theorem d_Law_law_227 : decode code 227 = .ok (.aload_n 0, 1) := by decide +kernel
theorem d_Law_law_228 : decode code 228 = .ok (.iload_n 3, 1) := by decide +kernel
theorem d_Law_law_229 : decode code 229 = .ok (.iconst (2), 1) := by decide +kernel
theorem d_Law_law_230 : decode code 230 = .ok (.iadd, 1) := by decide +kernel
theorem d_Law_law_231 : decode code 231 = .ok (.iaload, 1) := by decide +kernel
theorem d_Law_law_232 : decode code 232 = .ok (.invokevirtual 44, 3) := by decide +kernel
theorem d_Law_law_235 : decode code 235 = .ok (.aload_n 2, 1) := by decide +kernel
theorem d_Law_law_236 : decode code 236 = .ok (.aload_n 0, 1) := by decide +kernel
theorem d_Law_law_237 : decode code 237 = .ok (.iload_n 3, 1) := by decide +kernel
theorem d_Law_law_238 : decode code 238 = .ok (.iconst (1), 1) := by decide +kernel
theorem d_Law_law_239 : decode code 239 = .ok (.iadd, 1) := by decide +kernel
theorem d_Law_law_240 : decode code 240 = .ok (.iaload, 1) := by decide +kernel
theorem d_Law_law_241 : decode code 241 = .ok (.aload_n 0, 1) := by decide +kernel
theorem d_Law_law_242 : decode code 242 = .ok (.iload_n 3, 1) := by decide +kernel
theorem d_Law_law_243 : decode code 243 = .ok (.iconst (2), 1) := by decide +kernel
theorem d_Law_law_244 : decode code 244 = .ok (.iadd, 1) := by decide +kernel
theorem d_Law_law_245 : decode code 245 = .ok (.iaload, 1) := by decide +kernel
theorem d_Law_law_246 : decode code 246 = .ok (.invokevirtual 48, 3) := by decide +kernel
theorem d_Law_law_249 : decode code 249 = .ok (.if_icmp .eq (5), 3) := by decide +kernel
theorem d_Law_law_252 : decode code 252 = .ok (.iconst (0), 1) := by decide +kernel
theorem d_Law_law_254 : decode code 254 = .ok (.iinc 3 (3), 3) := by decide +kernel
theorem d_Law_law_257 : decode code 257 = .ok (.goto (-239), 3) := by decide +kernel
theorem d_Law_law_260 : decode code 260 = .ok (.iconst (1), 1) := by decide +kernel
theorem d_Law_law_261 : decode code 261 = .ok (.ireturn, 1) := by decide +kernel
