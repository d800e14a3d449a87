theorem dL_at_0 : decode cL_at 0 = .ok (.iload_n 1, 1) := by decide +kernel
theorem dL_at_1 : decode cL_at 1 = .ok (.aload_n 0, 1) := by decide +kernel
theorem dL_at_2 : decode cL_at 2 = .ok (.arraylength, 1) := by decide +kernel
theorem dL_at_3 : decode cL_at 3 = .ok (.if_icmp .ge 9, 3) := by decide +kernel
theorem dL_at_6 : decode cL_at 6 = .ok (.aload_n 0, 1) := by decide +kernel
theorem dL_at_7 : decode cL_at 7 = .ok (.iload_n 1, 1) := by decide +kernel
theorem dL_at_8 : decode cL_at 8 = .ok (.iaload, 1) := by decide +kernel
theorem dL_at_9 : decode cL_at 9 = .ok (.goto 4, 3) := by decide +kernel
theorem dL_at_12 : decode cL_at 12 = .ok (.iconst 0, 1) := by decide +kernel
theorem dL_at_13 : decode cL_at 13 = .ok (.ireturn, 1) := by decide +kernel
theorem dL_put_0 : decode cL_put 0 = .ok (.iconst 0, 1) := by decide +kernel
theorem dL_put_1 : decode cL_put 1 = .ok (.istore_n 2, 1) := by decide +kernel
theorem dL_put_2 : decode cL_put 2 = .ok (.iload_n 2, 1) := by decide +kernel
theorem dL_put_3 : decode cL_put 3 = .ok (.aload_n 1, 1) := by decide +kernel
theorem dL_put_4 : decode cL_put 4 = .ok (.invokevirtual 7, 3) := by decide +kernel
theorem dL_put_7 : decode cL_put 7 = .ok (.if_icmp .ge 19, 3) := by decide +kernel
theorem dL_put_10 : decode cL_put 10 = .ok (.aload_n 0, 1) := by decide +kernel
theorem dL_put_11 : decode cL_put 11 = .ok (.aload_n 1, 1) := by decide +kernel
theorem dL_put_12 : decode cL_put 12 = .ok (.iload_n 2, 1) := by decide +kernel
theorem dL_put_13 : decode cL_put 13 = .ok (.invokevirtual 13, 3) := by decide +kernel
theorem dL_put_16 : decode cL_put 16 = .ok (.invokevirtual 17, 3) := by decide +kernel
theorem dL_put_19 : decode cL_put 19 = .ok (.pop, 1) := by decide +kernel
theorem dL_put_20 : decode cL_put 20 = .ok (.iinc 2 1, 3) := by decide +kernel
theorem dL_put_23 : decode cL_put 23 = .ok (.goto (-21), 3) := by decide +kernel
theorem dL_put_26 : decode cL_put 26 = .ok (.return_, 1) := by decide +kernel
theorem dL_build_0 : decode cL_build 0 = .ok (.new 18, 3) := by decide +kernel
theorem dL_build_3 : decode cL_build 3 = .ok (.dup, 1) := by decide +kernel
theorem dL_build_4 : decode cL_build 4 = .ok (.invokespecial 23, 3) := by decide +kernel
theorem dL_build_7 : decode cL_build 7 = .ok (.astore_n 1, 1) := by decide +kernel
theorem dL_build_8 : decode cL_build 8 = .ok (.aload_n 0, 1) := by decide +kernel
theorem dL_build_9 : decode cL_build 9 = .ok (.iconst 0, 1) := by decide +kernel
theorem dL_build_10 : decode cL_build 10 = .ok (.invokestatic 24, 3) := by decide +kernel
theorem dL_build_13 : decode cL_build 13 = .ok (.istore_n 2, 1) := by decide +kernel
theorem dL_build_14 : decode cL_build 14 = .ok (.iconst 0, 1) := by decide +kernel
theorem dL_build_15 : decode cL_build 15 = .ok (.istore_n 3, 1) := by decide +kernel
theorem dL_build_16 : decode cL_build 16 = .ok (.iload_n 3, 1) := by decide +kernel
theorem dL_build_17 : decode cL_build 17 = .ok (.iconst 2, 1) := by decide +kernel
theorem dL_build_18 : decode cL_build 18 = .ok (.iload_n 2, 1) := by decide +kernel
theorem dL_build_19 : decode cL_build 19 = .ok (.iconst 3, 1) := by decide +kernel
theorem dL_build_20 : decode cL_build 20 = .ok (.iand, 1) := by decide +kernel
theorem dL_build_21 : decode cL_build 21 = .ok (.iadd, 1) := by decide +kernel
theorem dL_build_22 : decode cL_build 22 = .ok (.if_icmp .ge 35, 3) := by decide +kernel
theorem dL_build_25 : decode cL_build 25 = .ok (.aload_n 1, 1) := by decide +kernel
theorem dL_build_26 : decode cL_build 26 = .ok (.iconst 0, 1) := by decide +kernel
theorem dL_build_27 : decode cL_build 27 = .ok (.iload_n 2, 1) := by decide +kernel
theorem dL_build_28 : decode cL_build 28 = .ok (.iconst 2, 1) := by decide +kernel
theorem dL_build_29 : decode cL_build 29 = .ok (.iload_n 3, 1) := by decide +kernel
theorem dL_build_30 : decode cL_build 30 = .ok (.iadd, 1) := by decide +kernel
theorem dL_build_31 : decode cL_build 31 = .ok (.ishr, 1) := by decide +kernel
theorem dL_build_32 : decode cL_build 32 = .ok (.iconst 3, 1) := by decide +kernel
theorem dL_build_33 : decode cL_build 33 = .ok (.iand, 1) := by decide +kernel
theorem dL_build_34 : decode cL_build 34 = .ok (.iconst 1, 1) := by decide +kernel
theorem dL_build_35 : decode cL_build 35 = .ok (.iload_n 2, 1) := by decide +kernel
theorem dL_build_36 : decode cL_build 36 = .ok (.bipush 6, 2) := by decide +kernel
theorem dL_build_38 : decode cL_build 38 = .ok (.iconst 3, 1) := by decide +kernel
theorem dL_build_39 : decode cL_build 39 = .ok (.iload_n 3, 1) := by decide +kernel
theorem dL_build_40 : decode cL_build 40 = .ok (.imul, 1) := by decide +kernel
theorem dL_build_41 : decode cL_build 41 = .ok (.iadd, 1) := by decide +kernel
theorem dL_build_42 : decode cL_build 42 = .ok (.ishr, 1) := by decide +kernel
theorem dL_build_43 : decode cL_build 43 = .ok (.bipush 7, 2) := by decide +kernel
theorem dL_build_45 : decode cL_build 45 = .ok (.iand, 1) := by decide +kernel
theorem dL_build_46 : decode cL_build 46 = .ok (.iadd, 1) := by decide +kernel
theorem dL_build_47 : decode cL_build 47 = .ok (.invokestatic 30, 3) := by decide +kernel
theorem dL_build_50 : decode cL_build 50 = .ok (.pop, 1) := by decide +kernel
theorem dL_build_51 : decode cL_build 51 = .ok (.iinc 3 1, 3) := by decide +kernel
theorem dL_build_54 : decode cL_build 54 = .ok (.goto (-38), 3) := by decide +kernel
theorem dL_build_57 : decode cL_build 57 = .ok (.aload_n 1, 1) := by decide +kernel
theorem dL_build_58 : decode cL_build 58 = .ok (.bipush 6, 2) := by decide +kernel
theorem dL_build_60 : decode cL_build 60 = .ok (.bipush 30, 2) := by decide +kernel
theorem dL_build_62 : decode cL_build 62 = .ok (.iconst 0, 1) := by decide +kernel
theorem dL_build_63 : decode cL_build 63 = .ok (.invokestatic 30, 3) := by decide +kernel
theorem dL_build_66 : decode cL_build 66 = .ok (.pop, 1) := by decide +kernel
theorem dL_build_67 : decode cL_build 67 = .ok (.aload_n 1, 1) := by decide +kernel
theorem dL_build_68 : decode cL_build 68 = .ok (.iconst 5, 1) := by decide +kernel
theorem dL_build_69 : decode cL_build 69 = .ok (.bipush 40, 2) := by decide +kernel
theorem dL_build_71 : decode cL_build 71 = .ok (.iload_n 2, 1) := by decide +kernel
theorem dL_build_72 : decode cL_build 72 = .ok (.bipush 24, 2) := by decide +kernel
theorem dL_build_74 : decode cL_build 74 = .ok (.ishr, 1) := by decide +kernel
theorem dL_build_75 : decode cL_build 75 = .ok (.bipush 63, 2) := by decide +kernel
theorem dL_build_77 : decode cL_build 77 = .ok (.iand, 1) := by decide +kernel
theorem dL_build_78 : decode cL_build 78 = .ok (.iadd, 1) := by decide +kernel
theorem dL_build_79 : decode cL_build 79 = .ok (.iconst 0, 1) := by decide +kernel
theorem dL_build_80 : decode cL_build 80 = .ok (.invokestatic 30, 3) := by decide +kernel
theorem dL_build_83 : decode cL_build 83 = .ok (.pop, 1) := by decide +kernel
theorem dL_build_84 : decode cL_build 84 = .ok (.iconst 1, 1) := by decide +kernel
theorem dL_build_85 : decode cL_build 85 = .ok (.istore_n 3, 1) := by decide +kernel
theorem dL_build_86 : decode cL_build 86 = .ok (.iload_n 3, 1) := by decide +kernel
theorem dL_build_87 : decode cL_build 87 = .ok (.bipush 13, 2) := by decide +kernel
theorem dL_build_89 : decode cL_build 89 = .ok (.if_icmp .ge 540, 3) := by decide +kernel
theorem dL_build_92 : decode cL_build 92 = .ok (.aload_n 0, 1) := by decide +kernel
theorem dL_build_93 : decode cL_build 93 = .ok (.iload_n 3, 1) := by decide +kernel
theorem dL_build_94 : decode cL_build 94 = .ok (.invokestatic 24, 3) := by decide +kernel
theorem dL_build_97 : decode cL_build 97 = .ok (.istore 4, 2) := by decide +kernel
theorem dL_build_99 : decode cL_build 99 = .ok (.iconst 1, 1) := by decide +kernel
theorem dL_build_100 : decode cL_build 100 = .ok (.aload_n 1, 1) := by decide +kernel
theorem dL_build_101 : decode cL_build 101 = .ok (.invokevirtual 34, 3) := by decide +kernel
theorem dL_build_104 : decode cL_build 104 = .ok (.invokestatic 37, 3) := by decide +kernel
theorem dL_build_107 : decode cL_build 107 = .ok (.istore 5, 2) := by decide +kernel
theorem dL_build_109 : decode cL_build 109 = .ok (.iload 4, 2) := by decide +kernel
theorem dL_build_111 : decode cL_build 111 = .ok (.bipush 7, 2) := by decide +kernel
theorem dL_build_113 : decode cL_build 113 = .ok (.iand, 1) := by decide +kernel
theorem dL_build_114 : decode cL_build 114 = .ok (.iload 5, 2) := by decide +kernel
theorem dL_build_116 : decode cL_build 116 = .ok (.irem, 1) := by decide +kernel
theorem dL_build_117 : decode cL_build 117 = .ok (.istore 6, 2) := by decide +kernel
theorem dL_build_119 : decode cL_build 119 = .ok (.aload_n 1, 1) := by decide +kernel
theorem dL_build_120 : decode cL_build 120 = .ok (.bipush 7, 2) := by decide +kernel
theorem dL_build_122 : decode cL_build 122 = .ok (.iload 6, 2) := by decide +kernel
theorem dL_build_124 : decode cL_build 124 = .ok (.iconst 1, 1) := by decide +kernel
theorem dL_build_125 : decode cL_build 125 = .ok (.iload 4, 2) := by decide +kernel
theorem dL_build_127 : decode cL_build 127 = .ok (.iconst 3, 1) := by decide +kernel
theorem dL_build_128 : decode cL_build 128 = .ok (.ishr, 1) := by decide +kernel
theorem dL_build_129 : decode cL_build 129 = .ok (.iconst 3, 1) := by decide +kernel
theorem dL_build_130 : decode cL_build 130 = .ok (.iand, 1) := by decide +kernel
theorem dL_build_131 : decode cL_build 131 = .ok (.iadd, 1) := by decide +kernel
theorem dL_build_132 : decode cL_build 132 = .ok (.invokestatic 30, 3) := by decide +kernel
theorem dL_build_135 : decode cL_build 135 = .ok (.pop, 1) := by decide +kernel
theorem dL_build_136 : decode cL_build 136 = .ok (.iload 4, 2) := by decide +kernel
theorem dL_build_138 : decode cL_build 138 = .ok (.iconst 5, 1) := by decide +kernel
theorem dL_build_139 : decode cL_build 139 = .ok (.ishr, 1) := by decide +kernel
theorem dL_build_140 : decode cL_build 140 = .ok (.iconst 3, 1) := by decide +kernel
theorem dL_build_141 : decode cL_build 141 = .ok (.iand, 1) := by decide +kernel
theorem dL_build_142 : decode cL_build 142 = .ok (.ifCond .ne 32, 3) := by decide +kernel
theorem dL_build_145 : decode cL_build 145 = .ok (.aload_n 1, 1) := by decide +kernel
theorem dL_build_146 : decode cL_build 146 = .ok (.iconst 3, 1) := by decide +kernel
theorem dL_build_147 : decode cL_build 147 = .ok (.iload 4, 2) := by decide +kernel
theorem dL_build_149 : decode cL_build 149 = .ok (.bipush 7, 2) := by decide +kernel
theorem dL_build_151 : decode cL_build 151 = .ok (.ishr, 1) := by decide +kernel
theorem dL_build_152 : decode cL_build 152 = .ok (.bipush 7, 2) := by decide +kernel
theorem dL_build_154 : decode cL_build 154 = .ok (.iand, 1) := by decide +kernel
theorem dL_build_155 : decode cL_build 155 = .ok (.iload 5, 2) := by decide +kernel
theorem dL_build_157 : decode cL_build 157 = .ok (.irem, 1) := by decide +kernel
theorem dL_build_158 : decode cL_build 158 = .ok (.iconst 1, 1) := by decide +kernel
theorem dL_build_159 : decode cL_build 159 = .ok (.iload 4, 2) := by decide +kernel
theorem dL_build_161 : decode cL_build 161 = .ok (.bipush 10, 2) := by decide +kernel
theorem dL_build_163 : decode cL_build 163 = .ok (.ishr, 1) := by decide +kernel
theorem dL_build_164 : decode cL_build 164 = .ok (.bipush 7, 2) := by decide +kernel
theorem dL_build_166 : decode cL_build 166 = .ok (.iand, 1) := by decide +kernel
theorem dL_build_167 : decode cL_build 167 = .ok (.iconst 5, 1) := by decide +kernel
theorem dL_build_168 : decode cL_build 168 = .ok (.irem, 1) := by decide +kernel
theorem dL_build_169 : decode cL_build 169 = .ok (.iadd, 1) := by decide +kernel
theorem dL_build_170 : decode cL_build 170 = .ok (.invokestatic 30, 3) := by decide +kernel
theorem dL_build_173 : decode cL_build 173 = .ok (.pop, 1) := by decide +kernel
theorem dL_build_174 : decode cL_build 174 = .ok (.iload 4, 2) := by decide +kernel
theorem dL_build_176 : decode cL_build 176 = .ok (.iconst 5, 1) := by decide +kernel
theorem dL_build_177 : decode cL_build 177 = .ok (.ishr, 1) := by decide +kernel
theorem dL_build_178 : decode cL_build 178 = .ok (.bipush 7, 2) := by decide +kernel
theorem dL_build_180 : decode cL_build 180 = .ok (.iand, 1) := by decide +kernel
theorem dL_build_181 : decode cL_build 181 = .ok (.iconst 1, 1) := by decide +kernel
theorem dL_build_182 : decode cL_build 182 = .ok (.if_icmp .ne 20, 3) := by decide +kernel
theorem dL_build_185 : decode cL_build 185 = .ok (.aload_n 1, 1) := by decide +kernel
theorem dL_build_186 : decode cL_build 186 = .ok (.iconst 5, 1) := by decide +kernel
theorem dL_build_187 : decode cL_build 187 = .ok (.iconst 1, 1) := by decide +kernel
theorem dL_build_188 : decode cL_build 188 = .ok (.iload 4, 2) := by decide +kernel
theorem dL_build_190 : decode cL_build 190 = .ok (.bipush 8, 2) := by decide +kernel
theorem dL_build_192 : decode cL_build 192 = .ok (.ishr, 1) := by decide +kernel
theorem dL_build_193 : decode cL_build 193 = .ok (.bipush 63, 2) := by decide +kernel
theorem dL_build_195 : decode cL_build 195 = .ok (.iand, 1) := by decide +kernel
theorem dL_build_196 : decode cL_build 196 = .ok (.iadd, 1) := by decide +kernel
theorem dL_build_197 : decode cL_build 197 = .ok (.iconst 0, 1) := by decide +kernel
theorem dL_build_198 : decode cL_build 198 = .ok (.invokestatic 30, 3) := by decide +kernel
theorem dL_build_201 : decode cL_build 201 = .ok (.pop, 1) := by decide +kernel
theorem dL_build_202 : decode cL_build 202 = .ok (.iload 4, 2) := by decide +kernel
theorem dL_build_204 : decode cL_build 204 = .ok (.iconst 5, 1) := by decide +kernel
theorem dL_build_205 : decode cL_build 205 = .ok (.ishr, 1) := by decide +kernel
theorem dL_build_206 : decode cL_build 206 = .ok (.bipush 7, 2) := by decide +kernel
theorem dL_build_208 : decode cL_build 208 = .ok (.iand, 1) := by decide +kernel
theorem dL_build_209 : decode cL_build 209 = .ok (.iconst 2, 1) := by decide +kernel
theorem dL_build_210 : decode cL_build 210 = .ok (.if_icmp .ne 22, 3) := by decide +kernel
theorem dL_build_213 : decode cL_build 213 = .ok (.aload_n 1, 1) := by decide +kernel
theorem dL_build_214 : decode cL_build 214 = .ok (.bipush 9, 2) := by decide +kernel
theorem dL_build_216 : decode cL_build 216 = .ok (.iload 4, 2) := by decide +kernel
theorem dL_build_218 : decode cL_build 218 = .ok (.bipush 8, 2) := by decide +kernel
theorem dL_build_220 : decode cL_build 220 = .ok (.ishr, 1) := by decide +kernel
theorem dL_build_221 : decode cL_build 221 = .ok (.bipush 7, 2) := by decide +kernel
theorem dL_build_223 : decode cL_build 223 = .ok (.iand, 1) := by decide +kernel
theorem dL_build_224 : decode cL_build 224 = .ok (.iload 5, 2) := by decide +kernel
theorem dL_build_226 : decode cL_build 226 = .ok (.irem, 1) := by decide +kernel
theorem dL_build_227 : decode cL_build 227 = .ok (.iconst 0, 1) := by decide +kernel
theorem dL_build_228 : decode cL_build 228 = .ok (.invokestatic 30, 3) := by decide +kernel
theorem dL_build_231 : decode cL_build 231 = .ok (.pop, 1) := by decide +kernel
theorem dL_build_232 : decode cL_build 232 = .ok (.iload 4, 2) := by decide +kernel
theorem dL_build_234 : decode cL_build 234 = .ok (.iconst 5, 1) := by decide +kernel
theorem dL_build_235 : decode cL_build 235 = .ok (.ishr, 1) := by decide +kernel
theorem dL_build_236 : decode cL_build 236 = .ok (.bipush 7, 2) := by decide +kernel
theorem dL_build_238 : decode cL_build 238 = .ok (.iand, 1) := by decide +kernel
theorem dL_build_239 : decode cL_build 239 = .ok (.iconst 3, 1) := by decide +kernel
theorem dL_build_240 : decode cL_build 240 = .ok (.if_icmp .ne 42, 3) := by decide +kernel
theorem dL_build_243 : decode cL_build 243 = .ok (.aload_n 1, 1) := by decide +kernel
theorem dL_build_244 : decode cL_build 244 = .ok (.bipush 10, 2) := by decide +kernel
theorem dL_build_246 : decode cL_build 246 = .ok (.iload 4, 2) := by decide +kernel
theorem dL_build_248 : decode cL_build 248 = .ok (.bipush 8, 2) := by decide +kernel
theorem dL_build_250 : decode cL_build 250 = .ok (.ishr, 1) := by decide +kernel
theorem dL_build_251 : decode cL_build 251 = .ok (.bipush 7, 2) := by decide +kernel
theorem dL_build_253 : decode cL_build 253 = .ok (.iand, 1) := by decide +kernel
theorem dL_build_254 : decode cL_build 254 = .ok (.iconst 1, 1) := by decide +kernel
theorem dL_build_255 : decode cL_build 255 = .ok (.aload_n 1, 1) := by decide +kernel
theorem dL_build_256 : decode cL_build 256 = .ok (.invokevirtual 43, 3) := by decide +kernel
theorem dL_build_259 : decode cL_build 259 = .ok (.invokestatic 37, 3) := by decide +kernel
theorem dL_build_262 : decode cL_build 262 = .ok (.irem, 1) := by decide +kernel
theorem dL_build_263 : decode cL_build 263 = .ok (.iload 4, 2) := by decide +kernel
theorem dL_build_265 : decode cL_build 265 = .ok (.bipush 11, 2) := by decide +kernel
theorem dL_build_267 : decode cL_build 267 = .ok (.ishr, 1) := by decide +kernel
theorem dL_build_268 : decode cL_build 268 = .ok (.bipush 7, 2) := by decide +kernel
theorem dL_build_270 : decode cL_build 270 = .ok (.iand, 1) := by decide +kernel
theorem dL_build_271 : decode cL_build 271 = .ok (.iload 5, 2) := by decide +kernel
theorem dL_build_273 : decode cL_build 273 = .ok (.iconst 1, 1) := by decide +kernel
theorem dL_build_274 : decode cL_build 274 = .ok (.iadd, 1) := by decide +kernel
theorem dL_build_275 : decode cL_build 275 = .ok (.irem, 1) := by decide +kernel
theorem dL_build_276 : decode cL_build 276 = .ok (.iconst 1, 1) := by decide +kernel
theorem dL_build_277 : decode cL_build 277 = .ok (.isub, 1) := by decide +kernel
theorem dL_build_278 : decode cL_build 278 = .ok (.invokestatic 30, 3) := by decide +kernel
theorem dL_build_281 : decode cL_build 281 = .ok (.pop, 1) := by decide +kernel
theorem dL_build_282 : decode cL_build 282 = .ok (.iload 4, 2) := by decide +kernel
theorem dL_build_284 : decode cL_build 284 = .ok (.iconst 5, 1) := by decide +kernel
theorem dL_build_285 : decode cL_build 285 = .ok (.ishr, 1) := by decide +kernel
theorem dL_build_286 : decode cL_build 286 = .ok (.bipush 7, 2) := by decide +kernel
theorem dL_build_288 : decode cL_build 288 = .ok (.iand, 1) := by decide +kernel
theorem dL_build_289 : decode cL_build 289 = .ok (.iconst 5, 1) := by decide +kernel
theorem dL_build_290 : decode cL_build 290 = .ok (.if_icmp .ne 12, 3) := by decide +kernel
theorem dL_build_293 : decode cL_build 293 = .ok (.aload_n 1, 1) := by decide +kernel
theorem dL_build_294 : decode cL_build 294 = .ok (.bipush 12, 2) := by decide +kernel
theorem dL_build_296 : decode cL_build 296 = .ok (.iconst 0, 1) := by decide +kernel
theorem dL_build_297 : decode cL_build 297 = .ok (.iconst 0, 1) := by decide +kernel
theorem dL_build_298 : decode cL_build 298 = .ok (.invokestatic 30, 3) := by decide +kernel
theorem dL_build_301 : decode cL_build 301 = .ok (.pop, 1) := by decide +kernel
theorem dL_build_302 : decode cL_build 302 = .ok (.iload 4, 2) := by decide +kernel
theorem dL_build_304 : decode cL_build 304 = .ok (.iconst 5, 1) := by decide +kernel
theorem dL_build_305 : decode cL_build 305 = .ok (.ishr, 1) := by decide +kernel
theorem dL_build_306 : decode cL_build 306 = .ok (.bipush 7, 2) := by decide +kernel
theorem dL_build_308 : decode cL_build 308 = .ok (.iand, 1) := by decide +kernel
theorem dL_build_309 : decode cL_build 309 = .ok (.bipush 6, 2) := by decide +kernel
theorem dL_build_311 : decode cL_build 311 = .ok (.if_icmp .ne 23, 3) := by decide +kernel
theorem dL_build_314 : decode cL_build 314 = .ok (.aload_n 1, 1) := by decide +kernel
theorem dL_build_315 : decode cL_build 315 = .ok (.bipush 11, 2) := by decide +kernel
theorem dL_build_317 : decode cL_build 317 = .ok (.iconst 1, 1) := by decide +kernel
theorem dL_build_318 : decode cL_build 318 = .ok (.iload 4, 2) := by decide +kernel
theorem dL_build_320 : decode cL_build 320 = .ok (.bipush 8, 2) := by decide +kernel
theorem dL_build_322 : decode cL_build 322 = .ok (.ishr, 1) := by decide +kernel
theorem dL_build_323 : decode cL_build 323 = .ok (.bipush 7, 2) := by decide +kernel
theorem dL_build_325 : decode cL_build 325 = .ok (.iand, 1) := by decide +kernel
theorem dL_build_326 : decode cL_build 326 = .ok (.iconst 5, 1) := by decide +kernel
theorem dL_build_327 : decode cL_build 327 = .ok (.irem, 1) := by decide +kernel
theorem dL_build_328 : decode cL_build 328 = .ok (.iadd, 1) := by decide +kernel
theorem dL_build_329 : decode cL_build 329 = .ok (.iconst 0, 1) := by decide +kernel
theorem dL_build_330 : decode cL_build 330 = .ok (.invokestatic 30, 3) := by decide +kernel
theorem dL_build_333 : decode cL_build 333 = .ok (.pop, 1) := by decide +kernel
theorem dL_build_334 : decode cL_build 334 = .ok (.iload 4, 2) := by decide +kernel
theorem dL_build_336 : decode cL_build 336 = .ok (.iconst 5, 1) := by decide +kernel
theorem dL_build_337 : decode cL_build 337 = .ok (.ishr, 1) := by decide +kernel
theorem dL_build_338 : decode cL_build 338 = .ok (.bipush 7, 2) := by decide +kernel
theorem dL_build_340 : decode cL_build 340 = .ok (.iand, 1) := by decide +kernel
theorem dL_build_341 : decode cL_build 341 = .ok (.bipush 7, 2) := by decide +kernel
theorem dL_build_343 : decode cL_build 343 = .ok (.if_icmp .ne 27, 3) := by decide +kernel
theorem dL_build_346 : decode cL_build 346 = .ok (.aload_n 1, 1) := by decide +kernel
theorem dL_build_347 : decode cL_build 347 = .ok (.iconst 4, 1) := by decide +kernel
theorem dL_build_348 : decode cL_build 348 = .ok (.iload 4, 2) := by decide +kernel
theorem dL_build_350 : decode cL_build 350 = .ok (.bipush 8, 2) := by decide +kernel
theorem dL_build_352 : decode cL_build 352 = .ok (.ishr, 1) := by decide +kernel
theorem dL_build_353 : decode cL_build 353 = .ok (.bipush 7, 2) := by decide +kernel
theorem dL_build_355 : decode cL_build 355 = .ok (.iand, 1) := by decide +kernel
theorem dL_build_356 : decode cL_build 356 = .ok (.iload 5, 2) := by decide +kernel
theorem dL_build_358 : decode cL_build 358 = .ok (.irem, 1) := by decide +kernel
theorem dL_build_359 : decode cL_build 359 = .ok (.iload 4, 2) := by decide +kernel
theorem dL_build_361 : decode cL_build 361 = .ok (.bipush 11, 2) := by decide +kernel
theorem dL_build_363 : decode cL_build 363 = .ok (.ishr, 1) := by decide +kernel
theorem dL_build_364 : decode cL_build 364 = .ok (.iconst 1, 1) := by decide +kernel
theorem dL_build_365 : decode cL_build 365 = .ok (.iand, 1) := by decide +kernel
theorem dL_build_366 : decode cL_build 366 = .ok (.invokestatic 30, 3) := by decide +kernel
theorem dL_build_369 : decode cL_build 369 = .ok (.pop, 1) := by decide +kernel
theorem dL_build_370 : decode cL_build 370 = .ok (.iload 4, 2) := by decide +kernel
theorem dL_build_372 : decode cL_build 372 = .ok (.bipush 12, 2) := by decide +kernel
theorem dL_build_374 : decode cL_build 374 = .ok (.ishr, 1) := by decide +kernel
theorem dL_build_375 : decode cL_build 375 = .ok (.iconst 3, 1) := by decide +kernel
theorem dL_build_376 : decode cL_build 376 = .ok (.iand, 1) := by decide +kernel
theorem dL_build_377 : decode cL_build 377 = .ok (.ifCond .ne 12, 3) := by decide +kernel
theorem dL_build_380 : decode cL_build 380 = .ok (.aload_n 1, 1) := by decide +kernel
theorem dL_build_381 : decode cL_build 381 = .ok (.bipush 12, 2) := by decide +kernel
theorem dL_build_383 : decode cL_build 383 = .ok (.iconst 0, 1) := by decide +kernel
theorem dL_build_384 : decode cL_build 384 = .ok (.iconst 0, 1) := by decide +kernel
theorem dL_build_385 : decode cL_build 385 = .ok (.invokestatic 30, 3) := by decide +kernel
theorem dL_build_388 : decode cL_build 388 = .ok (.pop, 1) := by decide +kernel
theorem dL_build_389 : decode cL_build 389 = .ok (.iload 4, 2) := by decide +kernel
theorem dL_build_391 : decode cL_build 391 = .ok (.bipush 12, 2) := by decide +kernel
theorem dL_build_393 : decode cL_build 393 = .ok (.ishr, 1) := by decide +kernel
theorem dL_build_394 : decode cL_build 394 = .ok (.bipush 7, 2) := by decide +kernel
theorem dL_build_396 : decode cL_build 396 = .ok (.iand, 1) := by decide +kernel
theorem dL_build_397 : decode cL_build 397 = .ok (.iconst 1, 1) := by decide +kernel
theorem dL_build_398 : decode cL_build 398 = .ok (.if_icmp .ne 12, 3) := by decide +kernel
theorem dL_build_401 : decode cL_build 401 = .ok (.aload_n 1, 1) := by decide +kernel
theorem dL_build_402 : decode cL_build 402 = .ok (.bipush 13, 2) := by decide +kernel
theorem dL_build_404 : decode cL_build 404 = .ok (.iconst 0, 1) := by decide +kernel
theorem dL_build_405 : decode cL_build 405 = .ok (.iconst 0, 1) := by decide +kernel
theorem dL_build_406 : decode cL_build 406 = .ok (.invokestatic 30, 3) := by decide +kernel
theorem dL_build_409 : decode cL_build 409 = .ok (.pop, 1) := by decide +kernel
theorem dL_build_410 : decode cL_build 410 = .ok (.iload 4, 2) := by decide +kernel
theorem dL_build_412 : decode cL_build 412 = .ok (.bipush 12, 2) := by decide +kernel
theorem dL_build_414 : decode cL_build 414 = .ok (.ishr, 1) := by decide +kernel
theorem dL_build_415 : decode cL_build 415 = .ok (.bipush 7, 2) := by decide +kernel
theorem dL_build_417 : decode cL_build 417 = .ok (.iand, 1) := by decide +kernel
theorem dL_build_418 : decode cL_build 418 = .ok (.iconst 2, 1) := by decide +kernel
theorem dL_build_419 : decode cL_build 419 = .ok (.if_icmp .ne 31, 3) := by decide +kernel
theorem dL_build_422 : decode cL_build 422 = .ok (.aload_n 1, 1) := by decide +kernel
theorem dL_build_423 : decode cL_build 423 = .ok (.bipush 14, 2) := by decide +kernel
theorem dL_build_425 : decode cL_build 425 = .ok (.iload 4, 2) := by decide +kernel
theorem dL_build_427 : decode cL_build 427 = .ok (.bipush 15, 2) := by decide +kernel
theorem dL_build_429 : decode cL_build 429 = .ok (.ishr, 1) := by decide +kernel
theorem dL_build_430 : decode cL_build 430 = .ok (.bipush 7, 2) := by decide +kernel
theorem dL_build_432 : decode cL_build 432 = .ok (.iand, 1) := by decide +kernel
theorem dL_build_433 : decode cL_build 433 = .ok (.iload 5, 2) := by decide +kernel
theorem dL_build_435 : decode cL_build 435 = .ok (.irem, 1) := by decide +kernel
theorem dL_build_436 : decode cL_build 436 = .ok (.iconst 1, 1) := by decide +kernel
theorem dL_build_437 : decode cL_build 437 = .ok (.iload 4, 2) := by decide +kernel
theorem dL_build_439 : decode cL_build 439 = .ok (.bipush 18, 2) := by decide +kernel
theorem dL_build_441 : decode cL_build 441 = .ok (.ishr, 1) := by decide +kernel
theorem dL_build_442 : decode cL_build 442 = .ok (.bipush 15, 2) := by decide +kernel
theorem dL_build_444 : decode cL_build 444 = .ok (.iand, 1) := by decide +kernel
theorem dL_build_445 : decode cL_build 445 = .ok (.iadd, 1) := by decide +kernel
theorem dL_build_446 : decode cL_build 446 = .ok (.invokestatic 30, 3) := by decide +kernel
theorem dL_build_449 : decode cL_build 449 = .ok (.pop, 1) := by decide +kernel
theorem dL_build_450 : decode cL_build 450 = .ok (.iload 4, 2) := by decide +kernel
theorem dL_build_452 : decode cL_build 452 = .ok (.bipush 12, 2) := by decide +kernel
theorem dL_build_454 : decode cL_build 454 = .ok (.ishr, 1) := by decide +kernel
theorem dL_build_455 : decode cL_build 455 = .ok (.bipush 15, 2) := by decide +kernel
theorem dL_build_457 : decode cL_build 457 = .ok (.iand, 1) := by decide +kernel
theorem dL_build_458 : decode cL_build 458 = .ok (.iconst 3, 1) := by decide +kernel
theorem dL_build_459 : decode cL_build 459 = .ok (.if_icmp .ne 21, 3) := by decide +kernel
theorem dL_build_462 : decode cL_build 462 = .ok (.aload_n 1, 1) := by decide +kernel
theorem dL_build_463 : decode cL_build 463 = .ok (.iconst 1, 1) := by decide +kernel
theorem dL_build_464 : decode cL_build 464 = .ok (.iload 4, 2) := by decide +kernel
theorem dL_build_466 : decode cL_build 466 = .ok (.bipush 16, 2) := by decide +kernel
theorem dL_build_468 : decode cL_build 468 = .ok (.ishr, 1) := by decide +kernel
theorem dL_build_469 : decode cL_build 469 = .ok (.bipush 7, 2) := by decide +kernel
theorem dL_build_471 : decode cL_build 471 = .ok (.iand, 1) := by decide +kernel
theorem dL_build_472 : decode cL_build 472 = .ok (.iload 5, 2) := by decide +kernel
theorem dL_build_474 : decode cL_build 474 = .ok (.irem, 1) := by decide +kernel
theorem dL_build_475 : decode cL_build 475 = .ok (.iconst 0, 1) := by decide +kernel
theorem dL_build_476 : decode cL_build 476 = .ok (.invokestatic 30, 3) := by decide +kernel
theorem dL_build_479 : decode cL_build 479 = .ok (.pop, 1) := by decide +kernel
theorem dL_build_480 : decode cL_build 480 = .ok (.iload 4, 2) := by decide +kernel
theorem dL_build_482 : decode cL_build 482 = .ok (.bipush 12, 2) := by decide +kernel
theorem dL_build_484 : decode cL_build 484 = .ok (.ishr, 1) := by decide +kernel
theorem dL_build_485 : decode cL_build 485 = .ok (.bipush 15, 2) := by decide +kernel
theorem dL_build_487 : decode cL_build 487 = .ok (.iand, 1) := by decide +kernel
theorem dL_build_488 : decode cL_build 488 = .ok (.bipush 11, 2) := by decide +kernel
theorem dL_build_490 : decode cL_build 490 = .ok (.if_icmp .ne 30, 3) := by decide +kernel
theorem dL_build_493 : decode cL_build 493 = .ok (.aload_n 1, 1) := by decide +kernel
theorem dL_build_494 : decode cL_build 494 = .ok (.iconst 2, 1) := by decide +kernel
theorem dL_build_495 : decode cL_build 495 = .ok (.iload 4, 2) := by decide +kernel
theorem dL_build_497 : decode cL_build 497 = .ok (.bipush 16, 2) := by decide +kernel
theorem dL_build_499 : decode cL_build 499 = .ok (.ishr, 1) := by decide +kernel
