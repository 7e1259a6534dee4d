theorem dL_turns_336 : decode cL_turns 336 = .ok (.iconst 1, 1) := by decide +kernel
theorem dL_turns_337 : decode cL_turns 337 = .ok (.iadd, 1) := by decide +kernel
theorem dL_turns_338 : decode cL_turns 338 = .ok (.iastore, 1) := by decide +kernel
theorem dL_turns_339 : decode cL_turns 339 = .ok (.return_, 1) := by decide +kernel
theorem dL_areTowns_0 : decode cL_areTowns 0 = .ok (.iconst 0, 1) := by decide +kernel
theorem dL_areTowns_1 : decode cL_areTowns 1 = .ok (.istore 6, 2) := by decide +kernel
theorem dL_areTowns_3 : decode cL_areTowns 3 = .ok (.iconst 0, 1) := by decide +kernel
theorem dL_areTowns_4 : decode cL_areTowns 4 = .ok (.istore 7, 2) := by decide +kernel
theorem dL_areTowns_6 : decode cL_areTowns 6 = .ok (.iconst 0, 1) := by decide +kernel
theorem dL_areTowns_7 : decode cL_areTowns 7 = .ok (.istore 8, 2) := by decide +kernel
theorem dL_areTowns_9 : decode cL_areTowns 9 = .ok (.iconst 0, 1) := by decide +kernel
theorem dL_areTowns_10 : decode cL_areTowns 10 = .ok (.istore 9, 2) := by decide +kernel
theorem dL_areTowns_12 : decode cL_areTowns 12 = .ok (.aload_n 0, 1) := by decide +kernel
theorem dL_areTowns_13 : decode cL_areTowns 13 = .ok (.bipush 6, 2) := by decide +kernel
theorem dL_areTowns_15 : decode cL_areTowns 15 = .ok (.iconst 0, 1) := by decide +kernel
theorem dL_areTowns_16 : decode cL_areTowns 16 = .ok (.invokevirtual 31, 3) := by decide +kernel
theorem dL_areTowns_19 : decode cL_areTowns 19 = .ok (.iconst (-1), 1) := by decide +kernel
theorem dL_areTowns_20 : decode cL_areTowns 20 = .ok (.if_icmp .ne 19, 3) := by decide +kernel
theorem dL_areTowns_23 : decode cL_areTowns 23 = .ok (.aload_n 0, 1) := by decide +kernel
theorem dL_areTowns_24 : decode cL_areTowns 24 = .ok (.iconst 0, 1) := by decide +kernel
theorem dL_areTowns_25 : decode cL_areTowns 25 = .ok (.bipush 9, 2) := by decide +kernel
theorem dL_areTowns_27 : decode cL_areTowns 27 = .ok (.invokevirtual 31, 3) := by decide +kernel
theorem dL_areTowns_30 : decode cL_areTowns 30 = .ok (.bipush (-2), 2) := by decide +kernel
theorem dL_areTowns_32 : decode cL_areTowns 32 = .ok (.if_icmp .ne 7, 3) := by decide +kernel
theorem dL_areTowns_35 : decode cL_areTowns 35 = .ok (.iconst 1, 1) := by decide +kernel
theorem dL_areTowns_36 : decode cL_areTowns 36 = .ok (.goto 4, 3) := by decide +kernel
theorem dL_areTowns_39 : decode cL_areTowns 39 = .ok (.iconst 0, 1) := by decide +kernel
theorem dL_areTowns_40 : decode cL_areTowns 40 = .ok (.istore 10, 2) := by decide +kernel
theorem dL_areTowns_42 : decode cL_areTowns 42 = .ok (.iconst 0, 1) := by decide +kernel
theorem dL_areTowns_43 : decode cL_areTowns 43 = .ok (.istore 11, 2) := by decide +kernel
theorem dL_areTowns_45 : decode cL_areTowns 45 = .ok (.iload 11, 2) := by decide +kernel
theorem dL_areTowns_47 : decode cL_areTowns 47 = .ok (.bipush 6, 2) := by decide +kernel
theorem dL_areTowns_49 : decode cL_areTowns 49 = .ok (.if_icmp .ge 465, 3) := by decide +kernel
theorem dL_areTowns_52 : decode cL_areTowns 52 = .ok (.iload 10, 2) := by decide +kernel
theorem dL_areTowns_54 : decode cL_areTowns 54 = .ok (.ifCond .eq 460, 3) := by decide +kernel
theorem dL_areTowns_57 : decode cL_areTowns 57 = .ok (.iconst 0, 1) := by decide +kernel
theorem dL_areTowns_58 : decode cL_areTowns 58 = .ok (.istore 12, 2) := by decide +kernel
theorem dL_areTowns_60 : decode cL_areTowns 60 = .ok (.iload 12, 2) := by decide +kernel
theorem dL_areTowns_62 : decode cL_areTowns 62 = .ok (.bipush 9, 2) := by decide +kernel
theorem dL_areTowns_64 : decode cL_areTowns 64 = .ok (.if_icmp .ge 42, 3) := by decide +kernel
theorem dL_areTowns_67 : decode cL_areTowns 67 = .ok (.iload 10, 2) := by decide +kernel
theorem dL_areTowns_69 : decode cL_areTowns 69 = .ok (.ifCond .eq 28, 3) := by decide +kernel
theorem dL_areTowns_72 : decode cL_areTowns 72 = .ok (.aload_n 0, 1) := by decide +kernel
theorem dL_areTowns_73 : decode cL_areTowns 73 = .ok (.iload 11, 2) := by decide +kernel
theorem dL_areTowns_75 : decode cL_areTowns 75 = .ok (.iload 12, 2) := by decide +kernel
theorem dL_areTowns_77 : decode cL_areTowns 77 = .ok (.invokevirtual 31, 3) := by decide +kernel
theorem dL_areTowns_80 : decode cL_areTowns 80 = .ok (.aload_n 1, 1) := by decide +kernel
theorem dL_areTowns_81 : decode cL_areTowns 81 = .ok (.bipush 9, 2) := by decide +kernel
theorem dL_areTowns_83 : decode cL_areTowns 83 = .ok (.iload 11, 2) := by decide +kernel
theorem dL_areTowns_85 : decode cL_areTowns 85 = .ok (.imul, 1) := by decide +kernel
theorem dL_areTowns_86 : decode cL_areTowns 86 = .ok (.iload 12, 2) := by decide +kernel
theorem dL_areTowns_88 : decode cL_areTowns 88 = .ok (.iadd, 1) := by decide +kernel
theorem dL_areTowns_89 : decode cL_areTowns 89 = .ok (.iaload, 1) := by decide +kernel
theorem dL_areTowns_90 : decode cL_areTowns 90 = .ok (.if_icmp .ne 7, 3) := by decide +kernel
theorem dL_areTowns_93 : decode cL_areTowns 93 = .ok (.iconst 1, 1) := by decide +kernel
theorem dL_areTowns_94 : decode cL_areTowns 94 = .ok (.goto 4, 3) := by decide +kernel
theorem dL_areTowns_97 : decode cL_areTowns 97 = .ok (.iconst 0, 1) := by decide +kernel
theorem dL_areTowns_98 : decode cL_areTowns 98 = .ok (.istore 10, 2) := by decide +kernel
theorem dL_areTowns_100 : decode cL_areTowns 100 = .ok (.iinc 12 1, 3) := by decide +kernel
theorem dL_areTowns_103 : decode cL_areTowns 103 = .ok (.goto (-43), 3) := by decide +kernel
theorem dL_areTowns_106 : decode cL_areTowns 106 = .ok (.aload_n 1, 1) := by decide +kernel
theorem dL_areTowns_107 : decode cL_areTowns 107 = .ok (.aload_n 2, 1) := by decide +kernel
theorem dL_areTowns_108 : decode cL_areTowns 108 = .ok (.aload_n 3, 1) := by decide +kernel
theorem dL_areTowns_109 : decode cL_areTowns 109 = .ok (.aload 5, 2) := by decide +kernel
theorem dL_areTowns_111 : decode cL_areTowns 111 = .ok (.iload 11, 2) := by decide +kernel
theorem dL_areTowns_113 : decode cL_areTowns 113 = .ok (.aload_n 1, 1) := by decide +kernel
theorem dL_areTowns_114 : decode cL_areTowns 114 = .ok (.bipush 9, 2) := by decide +kernel
theorem dL_areTowns_116 : decode cL_areTowns 116 = .ok (.iload 11, 2) := by decide +kernel
theorem dL_areTowns_118 : decode cL_areTowns 118 = .ok (.imul, 1) := by decide +kernel
theorem dL_areTowns_119 : decode cL_areTowns 119 = .ok (.iconst 4, 1) := by decide +kernel
theorem dL_areTowns_120 : decode cL_areTowns 120 = .ok (.iadd, 1) := by decide +kernel
theorem dL_areTowns_121 : decode cL_areTowns 121 = .ok (.iaload, 1) := by decide +kernel
theorem dL_areTowns_122 : decode cL_areTowns 122 = .ok (.invokestatic 15, 3) := by decide +kernel
theorem dL_areTowns_125 : decode cL_areTowns 125 = .ok (.istore 12, 2) := by decide +kernel
theorem dL_areTowns_127 : decode cL_areTowns 127 = .ok (.iload 10, 2) := by decide +kernel
theorem dL_areTowns_129 : decode cL_areTowns 129 = .ok (.ifCond .eq 44, 3) := by decide +kernel
theorem dL_areTowns_132 : decode cL_areTowns 132 = .ok (.aload_n 0, 1) := by decide +kernel
theorem dL_areTowns_133 : decode cL_areTowns 133 = .ok (.iload 11, 2) := by decide +kernel
theorem dL_areTowns_135 : decode cL_areTowns 135 = .ok (.invokevirtual 37, 3) := by decide +kernel
theorem dL_areTowns_138 : decode cL_areTowns 138 = .ok (.aload_n 2, 1) := by decide +kernel
theorem dL_areTowns_139 : decode cL_areTowns 139 = .ok (.iload 11, 2) := by decide +kernel
theorem dL_areTowns_141 : decode cL_areTowns 141 = .ok (.iload 12, 2) := by decide +kernel
theorem dL_areTowns_143 : decode cL_areTowns 143 = .ok (.invokestatic 19, 3) := by decide +kernel
theorem dL_areTowns_146 : decode cL_areTowns 146 = .ok (.if_icmp .ne 27, 3) := by decide +kernel
theorem dL_areTowns_149 : decode cL_areTowns 149 = .ok (.aload_n 0, 1) := by decide +kernel
theorem dL_areTowns_150 : decode cL_areTowns 150 = .ok (.iload 11, 2) := by decide +kernel
theorem dL_areTowns_152 : decode cL_areTowns 152 = .ok (.aload_n 1, 1) := by decide +kernel
theorem dL_areTowns_153 : decode cL_areTowns 153 = .ok (.bipush 9, 2) := by decide +kernel
theorem dL_areTowns_155 : decode cL_areTowns 155 = .ok (.iload 11, 2) := by decide +kernel
theorem dL_areTowns_157 : decode cL_areTowns 157 = .ok (.imul, 1) := by decide +kernel
theorem dL_areTowns_158 : decode cL_areTowns 158 = .ok (.iconst 3, 1) := by decide +kernel
theorem dL_areTowns_159 : decode cL_areTowns 159 = .ok (.iadd, 1) := by decide +kernel
theorem dL_areTowns_160 : decode cL_areTowns 160 = .ok (.iaload, 1) := by decide +kernel
theorem dL_areTowns_161 : decode cL_areTowns 161 = .ok (.iconst 0, 1) := by decide +kernel
theorem dL_areTowns_162 : decode cL_areTowns 162 = .ok (.invokevirtual 41, 3) := by decide +kernel
theorem dL_areTowns_165 : decode cL_areTowns 165 = .ok (.iconst (-1), 1) := by decide +kernel
theorem dL_areTowns_166 : decode cL_areTowns 166 = .ok (.if_icmp .ne 7, 3) := by decide +kernel
theorem dL_areTowns_169 : decode cL_areTowns 169 = .ok (.iconst 1, 1) := by decide +kernel
theorem dL_areTowns_170 : decode cL_areTowns 170 = .ok (.goto 4, 3) := by decide +kernel
theorem dL_areTowns_173 : decode cL_areTowns 173 = .ok (.iconst 0, 1) := by decide +kernel
theorem dL_areTowns_174 : decode cL_areTowns 174 = .ok (.istore 10, 2) := by decide +kernel
theorem dL_areTowns_176 : decode cL_areTowns 176 = .ok (.iconst 0, 1) := by decide +kernel
theorem dL_areTowns_177 : decode cL_areTowns 177 = .ok (.istore 13, 2) := by decide +kernel
theorem dL_areTowns_179 : decode cL_areTowns 179 = .ok (.iload 13, 2) := by decide +kernel
theorem dL_areTowns_181 : decode cL_areTowns 181 = .ok (.aload_n 1, 1) := by decide +kernel
theorem dL_areTowns_182 : decode cL_areTowns 182 = .ok (.bipush 9, 2) := by decide +kernel
theorem dL_areTowns_184 : decode cL_areTowns 184 = .ok (.iload 11, 2) := by decide +kernel
theorem dL_areTowns_186 : decode cL_areTowns 186 = .ok (.imul, 1) := by decide +kernel
theorem dL_areTowns_187 : decode cL_areTowns 187 = .ok (.iconst 3, 1) := by decide +kernel
theorem dL_areTowns_188 : decode cL_areTowns 188 = .ok (.iadd, 1) := by decide +kernel
theorem dL_areTowns_189 : decode cL_areTowns 189 = .ok (.iaload, 1) := by decide +kernel
theorem dL_areTowns_190 : decode cL_areTowns 190 = .ok (.if_icmp .ge 266, 3) := by decide +kernel
theorem dL_areTowns_193 : decode cL_areTowns 193 = .ok (.iload 10, 2) := by decide +kernel
theorem dL_areTowns_195 : decode cL_areTowns 195 = .ok (.ifCond .eq 261, 3) := by decide +kernel
theorem dL_areTowns_198 : decode cL_areTowns 198 = .ok (.aload 5, 2) := by decide +kernel
theorem dL_areTowns_200 : decode cL_areTowns 200 = .ok (.iconst 2, 1) := by decide +kernel
theorem dL_areTowns_201 : decode cL_areTowns 201 = .ok (.iaload, 1) := by decide +kernel
theorem dL_areTowns_202 : decode cL_areTowns 202 = .ok (.bipush 7, 2) := by decide +kernel
theorem dL_areTowns_204 : decode cL_areTowns 204 = .ok (.irem, 1) := by decide +kernel
theorem dL_areTowns_205 : decode cL_areTowns 205 = .ok (.aload_n 1, 1) := by decide +kernel
theorem dL_areTowns_206 : decode cL_areTowns 206 = .ok (.bipush 9, 2) := by decide +kernel
theorem dL_areTowns_208 : decode cL_areTowns 208 = .ok (.iload 11, 2) := by decide +kernel
theorem dL_areTowns_210 : decode cL_areTowns 210 = .ok (.imul, 1) := by decide +kernel
theorem dL_areTowns_211 : decode cL_areTowns 211 = .ok (.iconst 5, 1) := by decide +kernel
theorem dL_areTowns_212 : decode cL_areTowns 212 = .ok (.iadd, 1) := by decide +kernel
theorem dL_areTowns_213 : decode cL_areTowns 213 = .ok (.iaload, 1) := by decide +kernel
theorem dL_areTowns_214 : decode cL_areTowns 214 = .ok (.if_icmp .eq 21, 3) := by decide +kernel
theorem dL_areTowns_217 : decode cL_areTowns 217 = .ok (.aload_n 1, 1) := by decide +kernel
theorem dL_areTowns_218 : decode cL_areTowns 218 = .ok (.bipush 9, 2) := by decide +kernel
theorem dL_areTowns_220 : decode cL_areTowns 220 = .ok (.iload 11, 2) := by decide +kernel
theorem dL_areTowns_222 : decode cL_areTowns 222 = .ok (.imul, 1) := by decide +kernel
theorem dL_areTowns_223 : decode cL_areTowns 223 = .ok (.iconst 4, 1) := by decide +kernel
theorem dL_areTowns_224 : decode cL_areTowns 224 = .ok (.iadd, 1) := by decide +kernel
theorem dL_areTowns_225 : decode cL_areTowns 225 = .ok (.iaload, 1) := by decide +kernel
theorem dL_areTowns_226 : decode cL_areTowns 226 = .ok (.iload 13, 2) := by decide +kernel
theorem dL_areTowns_228 : decode cL_areTowns 228 = .ok (.ishr, 1) := by decide +kernel
theorem dL_areTowns_229 : decode cL_areTowns 229 = .ok (.iconst 1, 1) := by decide +kernel
theorem dL_areTowns_230 : decode cL_areTowns 230 = .ok (.iand, 1) := by decide +kernel
theorem dL_areTowns_231 : decode cL_areTowns 231 = .ok (.iconst 1, 1) := by decide +kernel
theorem dL_areTowns_232 : decode cL_areTowns 232 = .ok (.if_icmp .ne 7, 3) := by decide +kernel
theorem dL_areTowns_235 : decode cL_areTowns 235 = .ok (.iconst 1, 1) := by decide +kernel
theorem dL_areTowns_236 : decode cL_areTowns 236 = .ok (.goto 4, 3) := by decide +kernel
theorem dL_areTowns_239 : decode cL_areTowns 239 = .ok (.iconst 0, 1) := by decide +kernel
theorem dL_areTowns_240 : decode cL_areTowns 240 = .ok (.istore 14, 2) := by decide +kernel
theorem dL_areTowns_242 : decode cL_areTowns 242 = .ok (.aload_n 1, 1) := by decide +kernel
theorem dL_areTowns_243 : decode cL_areTowns 243 = .ok (.bipush 9, 2) := by decide +kernel
theorem dL_areTowns_245 : decode cL_areTowns 245 = .ok (.iload 11, 2) := by decide +kernel
theorem dL_areTowns_247 : decode cL_areTowns 247 = .ok (.imul, 1) := by decide +kernel
theorem dL_areTowns_248 : decode cL_areTowns 248 = .ok (.bipush 6, 2) := by decide +kernel
theorem dL_areTowns_250 : decode cL_areTowns 250 = .ok (.iadd, 1) := by decide +kernel
theorem dL_areTowns_251 : decode cL_areTowns 251 = .ok (.iaload, 1) := by decide +kernel
theorem dL_areTowns_252 : decode cL_areTowns 252 = .ok (.ifCond .le 7, 3) := by decide +kernel
theorem dL_areTowns_255 : decode cL_areTowns 255 = .ok (.iconst 1, 1) := by decide +kernel
theorem dL_areTowns_256 : decode cL_areTowns 256 = .ok (.goto 44, 3) := by decide +kernel
theorem dL_areTowns_259 : decode cL_areTowns 259 = .ok (.iload 14, 2) := by decide +kernel
theorem dL_areTowns_261 : decode cL_areTowns 261 = .ok (.ifCond .ne 7, 3) := by decide +kernel
theorem dL_areTowns_264 : decode cL_areTowns 264 = .ok (.iconst 2, 1) := by decide +kernel
theorem dL_areTowns_265 : decode cL_areTowns 265 = .ok (.goto 35, 3) := by decide +kernel
theorem dL_areTowns_268 : decode cL_areTowns 268 = .ok (.aload_n 3, 1) := by decide +kernel
theorem dL_areTowns_269 : decode cL_areTowns 269 = .ok (.iconst 5, 1) := by decide +kernel
theorem dL_areTowns_270 : decode cL_areTowns 270 = .ok (.iload 11, 2) := by decide +kernel
theorem dL_areTowns_272 : decode cL_areTowns 272 = .ok (.imul, 1) := by decide +kernel
theorem dL_areTowns_273 : decode cL_areTowns 273 = .ok (.iload 13, 2) := by decide +kernel
theorem dL_areTowns_275 : decode cL_areTowns 275 = .ok (.iadd, 1) := by decide +kernel
theorem dL_areTowns_276 : decode cL_areTowns 276 = .ok (.iaload, 1) := by decide +kernel
theorem dL_areTowns_277 : decode cL_areTowns 277 = .ok (.iconst 5, 1) := by decide +kernel
theorem dL_areTowns_278 : decode cL_areTowns 278 = .ok (.if_icmp .le 7, 3) := by decide +kernel
theorem dL_areTowns_281 : decode cL_areTowns 281 = .ok (.iconst 3, 1) := by decide +kernel
theorem dL_areTowns_282 : decode cL_areTowns 282 = .ok (.goto 18, 3) := by decide +kernel
theorem dL_areTowns_285 : decode cL_areTowns 285 = .ok (.iload 12, 2) := by decide +kernel
theorem dL_areTowns_287 : decode cL_areTowns 287 = .ok (.iload 13, 2) := by decide +kernel
theorem dL_areTowns_289 : decode cL_areTowns 289 = .ok (.ishr, 1) := by decide +kernel
theorem dL_areTowns_290 : decode cL_areTowns 290 = .ok (.iconst 1, 1) := by decide +kernel
theorem dL_areTowns_291 : decode cL_areTowns 291 = .ok (.iand, 1) := by decide +kernel
theorem dL_areTowns_292 : decode cL_areTowns 292 = .ok (.ifCond .ne 7, 3) := by decide +kernel
theorem dL_areTowns_295 : decode cL_areTowns 295 = .ok (.iconst 4, 1) := by decide +kernel
theorem dL_areTowns_296 : decode cL_areTowns 296 = .ok (.goto 4, 3) := by decide +kernel
theorem dL_areTowns_299 : decode cL_areTowns 299 = .ok (.iconst 0, 1) := by decide +kernel
theorem dL_areTowns_300 : decode cL_areTowns 300 = .ok (.istore 15, 2) := by decide +kernel
theorem dL_areTowns_302 : decode cL_areTowns 302 = .ok (.aload_n 0, 1) := by decide +kernel
theorem dL_areTowns_303 : decode cL_areTowns 303 = .ok (.iload 11, 2) := by decide +kernel
theorem dL_areTowns_305 : decode cL_areTowns 305 = .ok (.iload 13, 2) := by decide +kernel
theorem dL_areTowns_307 : decode cL_areTowns 307 = .ok (.iconst 0, 1) := by decide +kernel
theorem dL_areTowns_308 : decode cL_areTowns 308 = .ok (.invokevirtual 41, 3) := by decide +kernel
theorem dL_areTowns_311 : decode cL_areTowns 311 = .ok (.aload_n 2, 1) := by decide +kernel
theorem dL_areTowns_312 : decode cL_areTowns 312 = .ok (.iconst 5, 1) := by decide +kernel
theorem dL_areTowns_313 : decode cL_areTowns 313 = .ok (.iload 11, 2) := by decide +kernel
theorem dL_areTowns_315 : decode cL_areTowns 315 = .ok (.imul, 1) := by decide +kernel
theorem dL_areTowns_316 : decode cL_areTowns 316 = .ok (.iload 13, 2) := by decide +kernel
theorem dL_areTowns_318 : decode cL_areTowns 318 = .ok (.iadd, 1) := by decide +kernel
theorem dL_areTowns_319 : decode cL_areTowns 319 = .ok (.iaload, 1) := by decide +kernel
theorem dL_areTowns_320 : decode cL_areTowns 320 = .ok (.if_icmp .ne 103, 3) := by decide +kernel
theorem dL_areTowns_323 : decode cL_areTowns 323 = .ok (.aload_n 0, 1) := by decide +kernel
theorem dL_areTowns_324 : decode cL_areTowns 324 = .ok (.iload 11, 2) := by decide +kernel
theorem dL_areTowns_326 : decode cL_areTowns 326 = .ok (.iload 13, 2) := by decide +kernel
theorem dL_areTowns_328 : decode cL_areTowns 328 = .ok (.iconst 1, 1) := by decide +kernel
theorem dL_areTowns_329 : decode cL_areTowns 329 = .ok (.invokevirtual 41, 3) := by decide +kernel
theorem dL_areTowns_332 : decode cL_areTowns 332 = .ok (.aload_n 3, 1) := by decide +kernel
theorem dL_areTowns_333 : decode cL_areTowns 333 = .ok (.iconst 5, 1) := by decide +kernel
theorem dL_areTowns_334 : decode cL_areTowns 334 = .ok (.iload 11, 2) := by decide +kernel
theorem dL_areTowns_336 : decode cL_areTowns 336 = .ok (.imul, 1) := by decide +kernel
theorem dL_areTowns_337 : decode cL_areTowns 337 = .ok (.iload 13, 2) := by decide +kernel
theorem dL_areTowns_339 : decode cL_areTowns 339 = .ok (.iadd, 1) := by decide +kernel
theorem dL_areTowns_340 : decode cL_areTowns 340 = .ok (.iaload, 1) := by decide +kernel
theorem dL_areTowns_341 : decode cL_areTowns 341 = .ok (.if_icmp .ne 82, 3) := by decide +kernel
theorem dL_areTowns_344 : decode cL_areTowns 344 = .ok (.aload_n 0, 1) := by decide +kernel
theorem dL_areTowns_345 : decode cL_areTowns 345 = .ok (.iload 11, 2) := by decide +kernel
theorem dL_areTowns_347 : decode cL_areTowns 347 = .ok (.iload 13, 2) := by decide +kernel
theorem dL_areTowns_349 : decode cL_areTowns 349 = .ok (.iconst 2, 1) := by decide +kernel
theorem dL_areTowns_350 : decode cL_areTowns 350 = .ok (.invokevirtual 41, 3) := by decide +kernel
theorem dL_areTowns_353 : decode cL_areTowns 353 = .ok (.aload_n 2, 1) := by decide +kernel
theorem dL_areTowns_354 : decode cL_areTowns 354 = .ok (.iconst 5, 1) := by decide +kernel
theorem dL_areTowns_355 : decode cL_areTowns 355 = .ok (.iload 11, 2) := by decide +kernel
theorem dL_areTowns_357 : decode cL_areTowns 357 = .ok (.imul, 1) := by decide +kernel
theorem dL_areTowns_358 : decode cL_areTowns 358 = .ok (.iload 13, 2) := by decide +kernel
theorem dL_areTowns_360 : decode cL_areTowns 360 = .ok (.iadd, 1) := by decide +kernel
theorem dL_areTowns_361 : decode cL_areTowns 361 = .ok (.iaload, 1) := by decide +kernel
theorem dL_areTowns_362 : decode cL_areTowns 362 = .ok (.iconst 1, 1) := by decide +kernel
theorem dL_areTowns_363 : decode cL_areTowns 363 = .ok (.iadd, 1) := by decide +kernel
theorem dL_areTowns_364 : decode cL_areTowns 364 = .ok (.iconst 2, 1) := by decide +kernel
theorem dL_areTowns_365 : decode cL_areTowns 365 = .ok (.idiv, 1) := by decide +kernel
theorem dL_areTowns_366 : decode cL_areTowns 366 = .ok (.if_icmp .ne 57, 3) := by decide +kernel
theorem dL_areTowns_369 : decode cL_areTowns 369 = .ok (.aload_n 0, 1) := by decide +kernel
theorem dL_areTowns_370 : decode cL_areTowns 370 = .ok (.iload 11, 2) := by decide +kernel
theorem dL_areTowns_372 : decode cL_areTowns 372 = .ok (.iload 13, 2) := by decide +kernel
theorem dL_areTowns_374 : decode cL_areTowns 374 = .ok (.iconst 3, 1) := by decide +kernel
theorem dL_areTowns_375 : decode cL_areTowns 375 = .ok (.invokevirtual 41, 3) := by decide +kernel
theorem dL_areTowns_378 : decode cL_areTowns 378 = .ok (.aload 4, 2) := by decide +kernel
theorem dL_areTowns_380 : decode cL_areTowns 380 = .ok (.iconst 5, 1) := by decide +kernel
theorem dL_areTowns_381 : decode cL_areTowns 381 = .ok (.iload 11, 2) := by decide +kernel
theorem dL_areTowns_383 : decode cL_areTowns 383 = .ok (.imul, 1) := by decide +kernel
theorem dL_areTowns_384 : decode cL_areTowns 384 = .ok (.iload 13, 2) := by decide +kernel
theorem dL_areTowns_386 : decode cL_areTowns 386 = .ok (.iadd, 1) := by decide +kernel
theorem dL_areTowns_387 : decode cL_areTowns 387 = .ok (.iaload, 1) := by decide +kernel
theorem dL_areTowns_388 : decode cL_areTowns 388 = .ok (.if_icmp .ne 35, 3) := by decide +kernel
theorem dL_areTowns_391 : decode cL_areTowns 391 = .ok (.aload_n 0, 1) := by decide +kernel
theorem dL_areTowns_392 : decode cL_areTowns 392 = .ok (.iload 11, 2) := by decide +kernel
theorem dL_areTowns_394 : decode cL_areTowns 394 = .ok (.iload 13, 2) := by decide +kernel
theorem dL_areTowns_396 : decode cL_areTowns 396 = .ok (.iconst 4, 1) := by decide +kernel
theorem dL_areTowns_397 : decode cL_areTowns 397 = .ok (.invokevirtual 41, 3) := by decide +kernel
theorem dL_areTowns_400 : decode cL_areTowns 400 = .ok (.iload 15, 2) := by decide +kernel
theorem dL_areTowns_402 : decode cL_areTowns 402 = .ok (.if_icmp .ne 21, 3) := by decide +kernel
theorem dL_areTowns_405 : decode cL_areTowns 405 = .ok (.aload_n 0, 1) := by decide +kernel
theorem dL_areTowns_406 : decode cL_areTowns 406 = .ok (.iload 11, 2) := by decide +kernel
theorem dL_areTowns_408 : decode cL_areTowns 408 = .ok (.iload 13, 2) := by decide +kernel
theorem dL_areTowns_410 : decode cL_areTowns 410 = .ok (.iconst 5, 1) := by decide +kernel
theorem dL_areTowns_411 : decode cL_areTowns 411 = .ok (.invokevirtual 41, 3) := by decide +kernel
theorem dL_areTowns_414 : decode cL_areTowns 414 = .ok (.bipush (-2), 2) := by decide +kernel
theorem dL_areTowns_416 : decode cL_areTowns 416 = .ok (.if_icmp .ne 7, 3) := by decide +kernel
theorem dL_areTowns_419 : decode cL_areTowns 419 = .ok (.iconst 1, 1) := by decide +kernel
theorem dL_areTowns_420 : decode cL_areTowns 420 = .ok (.goto 4, 3) := by decide +kernel
theorem dL_areTowns_423 : decode cL_areTowns 423 = .ok (.iconst 0, 1) := by decide +kernel
theorem dL_areTowns_424 : decode cL_areTowns 424 = .ok (.istore 10, 2) := by decide +kernel
theorem dL_areTowns_426 : decode cL_areTowns 426 = .ok (.iload 7, 2) := by decide +kernel
theorem dL_areTowns_428 : decode cL_areTowns 428 = .ok (.aload_n 3, 1) := by decide +kernel
theorem dL_areTowns_429 : decode cL_areTowns 429 = .ok (.iconst 5, 1) := by decide +kernel
theorem dL_areTowns_430 : decode cL_areTowns 430 = .ok (.iload 11, 2) := by decide +kernel
theorem dL_areTowns_432 : decode cL_areTowns 432 = .ok (.imul, 1) := by decide +kernel
theorem dL_areTowns_433 : decode cL_areTowns 433 = .ok (.iload 13, 2) := by decide +kernel
theorem dL_areTowns_435 : decode cL_areTowns 435 = .ok (.iadd, 1) := by decide +kernel
theorem dL_areTowns_436 : decode cL_areTowns 436 = .ok (.iaload, 1) := by decide +kernel
theorem dL_areTowns_437 : decode cL_areTowns 437 = .ok (.bipush 6, 2) := by decide +kernel
theorem dL_areTowns_439 : decode cL_areTowns 439 = .ok (.if_icmp .ne 7, 3) := by decide +kernel
theorem dL_areTowns_442 : decode cL_areTowns 442 = .ok (.iconst 1, 1) := by decide +kernel
theorem dL_areTowns_443 : decode cL_areTowns 443 = .ok (.goto 4, 3) := by decide +kernel
theorem dL_areTowns_446 : decode cL_areTowns 446 = .ok (.iconst 0, 1) := by decide +kernel
theorem dL_areTowns_447 : decode cL_areTowns 447 = .ok (.iadd, 1) := by decide +kernel
theorem dL_areTowns_448 : decode cL_areTowns 448 = .ok (.istore 7, 2) := by decide +kernel
theorem dL_areTowns_450 : decode cL_areTowns 450 = .ok (.iinc 13 1, 3) := by decide +kernel
theorem dL_areTowns_453 : decode cL_areTowns 453 = .ok (.goto (-274), 3) := by decide +kernel
theorem dL_areTowns_456 : decode cL_areTowns 456 = .ok (.iload 6, 2) := by decide +kernel
theorem dL_areTowns_458 : decode cL_areTowns 458 = .ok (.aload_n 1, 1) := by decide +kernel
theorem dL_areTowns_459 : decode cL_areTowns 459 = .ok (.bipush 9, 2) := by decide +kernel
theorem dL_areTowns_461 : decode cL_areTowns 461 = .ok (.iload 11, 2) := by decide +kernel
theorem dL_areTowns_463 : decode cL_areTowns 463 = .ok (.imul, 1) := by decide +kernel
theorem dL_areTowns_464 : decode cL_areTowns 464 = .ok (.iconst 3, 1) := by decide +kernel
theorem dL_areTowns_465 : decode cL_areTowns 465 = .ok (.iadd, 1) := by decide +kernel
theorem dL_areTowns_466 : decode cL_areTowns 466 = .ok (.iaload, 1) := by decide +kernel
theorem dL_areTowns_467 : decode cL_areTowns 467 = .ok (.iadd, 1) := by decide +kernel
theorem dL_areTowns_468 : decode cL_areTowns 468 = .ok (.istore 6, 2) := by decide +kernel
theorem dL_areTowns_470 : decode cL_areTowns 470 = .ok (.iload 8, 2) := by decide +kernel
theorem dL_areTowns_472 : decode cL_areTowns 472 = .ok (.aload_n 1, 1) := by decide +kernel
theorem dL_areTowns_473 : decode cL_areTowns 473 = .ok (.bipush 9, 2) := by decide +kernel
theorem dL_areTowns_475 : decode cL_areTowns 475 = .ok (.iload 11, 2) := by decide +kernel
theorem dL_areTowns_477 : decode cL_areTowns 477 = .ok (.imul, 1) := by decide +kernel
theorem dL_areTowns_478 : decode cL_areTowns 478 = .ok (.bipush 6, 2) := by decide +kernel
theorem dL_areTowns_480 : decode cL_areTowns 480 = .ok (.iadd, 1) := by decide +kernel
theorem dL_areTowns_481 : decode cL_areTowns 481 = .ok (.iaload, 1) := by decide +kernel
theorem dL_areTowns_482 : decode cL_areTowns 482 = .ok (.ifCond .le 7, 3) := by decide +kernel
theorem dL_areTowns_485 : decode cL_areTowns 485 = .ok (.iconst 1, 1) := by decide +kernel
theorem dL_areTowns_486 : decode cL_areTowns 486 = .ok (.goto 4, 3) := by decide +kernel
theorem dL_areTowns_489 : decode cL_areTowns 489 = .ok (.iconst 0, 1) := by decide +kernel
theorem dL_areTowns_490 : decode cL_areTowns 490 = .ok (.iadd, 1) := by decide +kernel
theorem dL_areTowns_491 : decode cL_areTowns 491 = .ok (.istore 8, 2) := by decide +kernel
theorem dL_areTowns_493 : decode cL_areTowns 493 = .ok (.iload 9, 2) := by decide +kernel
theorem dL_areTowns_495 : decode cL_areTowns 495 = .ok (.aload_n 1, 1) := by decide +kernel
theorem dL_areTowns_496 : decode cL_areTowns 496 = .ok (.bipush 9, 2) := by decide +kernel
theorem dL_areTowns_498 : decode cL_areTowns 498 = .ok (.iload 11, 2) := by decide +kernel
theorem dL_areTowns_500 : decode cL_areTowns 500 = .ok (.imul, 1) := by decide +kernel
theorem dL_areTowns_501 : decode cL_areTowns 501 = .ok (.bipush 7, 2) := by decide +kernel
theorem dL_areTowns_503 : decode cL_areTowns 503 = .ok (.iadd, 1) := by decide +kernel
theorem dL_areTowns_504 : decode cL_areTowns 504 = .ok (.iaload, 1) := by decide +kernel
theorem dL_areTowns_505 : decode cL_areTowns 505 = .ok (.iadd, 1) := by decide +kernel
theorem dL_areTowns_506 : decode cL_areTowns 506 = .ok (.istore 9, 2) := by decide +kernel
theorem dL_areTowns_508 : decode cL_areTowns 508 = .ok (.iinc 11 1, 3) := by decide +kernel
theorem dL_areTowns_511 : decode cL_areTowns 511 = .ok (.goto (-466), 3) := by decide +kernel
theorem dL_areTowns_514 : decode cL_areTowns 514 = .ok (.iconst 0, 1) := by decide +kernel
theorem dL_areTowns_515 : decode cL_areTowns 515 = .ok (.istore 11, 2) := by decide +kernel
theorem dL_areTowns_517 : decode cL_areTowns 517 = .ok (.iload 11, 2) := by decide +kernel
theorem dL_areTowns_519 : decode cL_areTowns 519 = .ok (.bipush 6, 2) := by decide +kernel
theorem dL_areTowns_521 : decode cL_areTowns 521 = .ok (.if_icmp .ge 55, 3) := by decide +kernel
theorem dL_areTowns_524 : decode cL_areTowns 524 = .ok (.iload 10, 2) := by decide +kernel
theorem dL_areTowns_526 : decode cL_areTowns 526 = .ok (.ifCond .eq 41, 3) := by decide +kernel
theorem dL_areTowns_529 : decode cL_areTowns 529 = .ok (.aload_n 0, 1) := by decide +kernel
theorem dL_areTowns_530 : decode cL_areTowns 530 = .ok (.iload 11, 2) := by decide +kernel
theorem dL_areTowns_532 : decode cL_areTowns 532 = .ok (.invokevirtual 45, 3) := by decide +kernel
theorem dL_areTowns_535 : decode cL_areTowns 535 = .ok (.iload 9, 2) := by decide +kernel
theorem dL_areTowns_537 : decode cL_areTowns 537 = .ok (.ifCond .ne 7, 3) := by decide +kernel
theorem dL_areTowns_540 : decode cL_areTowns 540 = .ok (.dconst 0, 1) := by decide +kernel
theorem dL_areTowns_541 : decode cL_areTowns 541 = .ok (.goto 18, 3) := by decide +kernel
theorem dL_areTowns_544 : decode cL_areTowns 544 = .ok (.aload_n 1, 1) := by decide +kernel
theorem dL_areTowns_545 : decode cL_areTowns 545 = .ok (.bipush 9, 2) := by decide +kernel
theorem dL_areTowns_547 : decode cL_areTowns 547 = .ok (.iload 11, 2) := by decide +kernel
theorem dL_areTowns_549 : decode cL_areTowns 549 = .ok (.imul, 1) := by decide +kernel
theorem dL_areTowns_550 : decode cL_areTowns 550 = .ok (.bipush 7, 2) := by decide +kernel
theorem dL_areTowns_552 : decode cL_areTowns 552 = .ok (.iadd, 1) := by decide +kernel
theorem dL_areTowns_553 : decode cL_areTowns 553 = .ok (.iaload, 1) := by decide +kernel
theorem dL_areTowns_554 : decode cL_areTowns 554 = .ok (.i2d, 1) := by decide +kernel
theorem dL_areTowns_555 : decode cL_areTowns 555 = .ok (.iload 9, 2) := by decide +kernel
theorem dL_areTowns_557 : decode cL_areTowns 557 = .ok (.i2d, 1) := by decide +kernel
theorem dL_areTowns_558 : decode cL_areTowns 558 = .ok (.ddiv, 1) := by decide +kernel
theorem dL_areTowns_559 : decode cL_areTowns 559 = .ok (.dcmp .l, 1) := by decide +kernel
theorem dL_areTowns_560 : decode cL_areTowns 560 = .ok (.ifCond .ne 7, 3) := by decide +kernel
theorem dL_areTowns_563 : decode cL_areTowns 563 = .ok (.iconst 1, 1) := by decide +kernel
theorem dL_areTowns_564 : decode cL_areTowns 564 = .ok (.goto 4, 3) := by decide +kernel
theorem dL_areTowns_567 : decode cL_areTowns 567 = .ok (.iconst 0, 1) := by decide +kernel
theorem dL_areTowns_568 : decode cL_areTowns 568 = .ok (.istore 10, 2) := by decide +kernel
theorem dL_areTowns_570 : decode cL_areTowns 570 = .ok (.iinc 11 1, 3) := by decide +kernel
theorem dL_areTowns_573 : decode cL_areTowns 573 = .ok (.goto (-56), 3) := by decide +kernel
theorem dL_areTowns_576 : decode cL_areTowns 576 = .ok (.iload 10, 2) := by decide +kernel
theorem dL_areTowns_578 : decode cL_areTowns 578 = .ok (.ifCond .eq 121, 3) := by decide +kernel
theorem dL_areTowns_581 : decode cL_areTowns 581 = .ok (.aload_n 0, 1) := by decide +kernel
theorem dL_areTowns_582 : decode cL_areTowns 582 = .ok (.iconst 0, 1) := by decide +kernel
theorem dL_areTowns_583 : decode cL_areTowns 583 = .ok (.invokevirtual 49, 3) := by decide +kernel
theorem dL_areTowns_586 : decode cL_areTowns 586 = .ok (.aload 5, 2) := by decide +kernel
theorem dL_areTowns_588 : decode cL_areTowns 588 = .ok (.iconst 2, 1) := by decide +kernel
theorem dL_areTowns_589 : decode cL_areTowns 589 = .ok (.iaload, 1) := by decide +kernel
theorem dL_areTowns_590 : decode cL_areTowns 590 = .ok (.if_icmp .ne 109, 3) := by decide +kernel
theorem dL_areTowns_593 : decode cL_areTowns 593 = .ok (.aload_n 0, 1) := by decide +kernel
theorem dL_areTowns_594 : decode cL_areTowns 594 = .ok (.iconst 1, 1) := by decide +kernel
theorem dL_areTowns_595 : decode cL_areTowns 595 = .ok (.invokevirtual 49, 3) := by decide +kernel
theorem dL_areTowns_598 : decode cL_areTowns 598 = .ok (.iload 6, 2) := by decide +kernel
theorem dL_areTowns_600 : decode cL_areTowns 600 = .ok (.if_icmp .ne 99, 3) := by decide +kernel
theorem dL_areTowns_603 : decode cL_areTowns 603 = .ok (.aload_n 0, 1) := by decide +kernel
theorem dL_areTowns_604 : decode cL_areTowns 604 = .ok (.iconst 2, 1) := by decide +kernel
theorem dL_areTowns_605 : decode cL_areTowns 605 = .ok (.invokevirtual 49, 3) := by decide +kernel
theorem dL_areTowns_608 : decode cL_areTowns 608 = .ok (.iload 7, 2) := by decide +kernel
theorem dL_areTowns_610 : decode cL_areTowns 610 = .ok (.if_icmp .ne 89, 3) := by decide +kernel
theorem dL_areTowns_613 : decode cL_areTowns 613 = .ok (.aload_n 0, 1) := by decide +kernel
theorem dL_areTowns_614 : decode cL_areTowns 614 = .ok (.iconst 3, 1) := by decide +kernel
theorem dL_areTowns_615 : decode cL_areTowns 615 = .ok (.invokevirtual 49, 3) := by decide +kernel
theorem dL_areTowns_618 : decode cL_areTowns 618 = .ok (.iload 8, 2) := by decide +kernel
theorem dL_areTowns_620 : decode cL_areTowns 620 = .ok (.if_icmp .ne 79, 3) := by decide +kernel
theorem dL_areTowns_623 : decode cL_areTowns 623 = .ok (.aload_n 0, 1) := by decide +kernel
theorem dL_areTowns_624 : decode cL_areTowns 624 = .ok (.iconst 4, 1) := by decide +kernel
theorem dL_areTowns_625 : decode cL_areTowns 625 = .ok (.invokevirtual 49, 3) := by decide +kernel
theorem dL_areTowns_628 : decode cL_areTowns 628 = .ok (.iload 9, 2) := by decide +kernel
theorem dL_areTowns_630 : decode cL_areTowns 630 = .ok (.if_icmp .ne 69, 3) := by decide +kernel
theorem dL_areTowns_633 : decode cL_areTowns 633 = .ok (.aload_n 0, 1) := by decide +kernel
theorem dL_areTowns_634 : decode cL_areTowns 634 = .ok (.iconst 5, 1) := by decide +kernel
theorem dL_areTowns_635 : decode cL_areTowns 635 = .ok (.invokevirtual 49, 3) := by decide +kernel
theorem dL_areTowns_638 : decode cL_areTowns 638 = .ok (.aload 5, 2) := by decide +kernel
theorem dL_areTowns_640 : decode cL_areTowns 640 = .ok (.iconst 4, 1) := by decide +kernel
theorem dL_areTowns_641 : decode cL_areTowns 641 = .ok (.iaload, 1) := by decide +kernel
theorem dL_areTowns_642 : decode cL_areTowns 642 = .ok (.if_icmp .ne 57, 3) := by decide +kernel
theorem dL_areTowns_645 : decode cL_areTowns 645 = .ok (.aload_n 0, 1) := by decide +kernel
theorem dL_areTowns_646 : decode cL_areTowns 646 = .ok (.bipush 6, 2) := by decide +kernel
theorem dL_areTowns_648 : decode cL_areTowns 648 = .ok (.invokevirtual 49, 3) := by decide +kernel
theorem dL_areTowns_651 : decode cL_areTowns 651 = .ok (.aload 5, 2) := by decide +kernel
theorem dL_areTowns_653 : decode cL_areTowns 653 = .ok (.iconst 3, 1) := by decide +kernel
theorem dL_areTowns_654 : decode cL_areTowns 654 = .ok (.iaload, 1) := by decide +kernel
theorem dL_areTowns_655 : decode cL_areTowns 655 = .ok (.if_icmp .ne 44, 3) := by decide +kernel
theorem dL_areTowns_658 : decode cL_areTowns 658 = .ok (.aload_n 0, 1) := by decide +kernel
theorem dL_areTowns_659 : decode cL_areTowns 659 = .ok (.bipush 7, 2) := by decide +kernel
theorem dL_areTowns_661 : decode cL_areTowns 661 = .ok (.invokevirtual 49, 3) := by decide +kernel
theorem dL_areTowns_664 : decode cL_areTowns 664 = .ok (.aload 5, 2) := by decide +kernel
theorem dL_areTowns_666 : decode cL_areTowns 666 = .ok (.iconst 0, 1) := by decide +kernel
theorem dL_areTowns_667 : decode cL_areTowns 667 = .ok (.iaload, 1) := by decide +kernel
theorem dL_areTowns_668 : decode cL_areTowns 668 = .ok (.if_icmp .ne 31, 3) := by decide +kernel
theorem dL_areTowns_671 : decode cL_areTowns 671 = .ok (.aload_n 0, 1) := by decide +kernel
theorem dL_areTowns_672 : decode cL_areTowns 672 = .ok (.bipush 8, 2) := by decide +kernel
theorem dL_areTowns_674 : decode cL_areTowns 674 = .ok (.invokevirtual 49, 3) := by decide +kernel
theorem dL_areTowns_677 : decode cL_areTowns 677 = .ok (.aload 5, 2) := by decide +kernel
theorem dL_areTowns_679 : decode cL_areTowns 679 = .ok (.iconst 1, 1) := by decide +kernel
theorem dL_areTowns_680 : decode cL_areTowns 680 = .ok (.iaload, 1) := by decide +kernel
theorem dL_areTowns_681 : decode cL_areTowns 681 = .ok (.if_icmp .ne 18, 3) := by decide +kernel
theorem dL_areTowns_684 : decode cL_areTowns 684 = .ok (.aload_n 0, 1) := by decide +kernel
theorem dL_areTowns_685 : decode cL_areTowns 685 = .ok (.bipush 11, 2) := by decide +kernel
theorem dL_areTowns_687 : decode cL_areTowns 687 = .ok (.invokevirtual 49, 3) := by decide +kernel
theorem dL_areTowns_690 : decode cL_areTowns 690 = .ok (.bipush (-2), 2) := by decide +kernel
theorem dL_areTowns_692 : decode cL_areTowns 692 = .ok (.if_icmp .ne 7, 3) := by decide +kernel
theorem dL_areTowns_695 : decode cL_areTowns 695 = .ok (.iconst 1, 1) := by decide +kernel
theorem dL_areTowns_696 : decode cL_areTowns 696 = .ok (.goto 4, 3) := by decide +kernel
theorem dL_areTowns_699 : decode cL_areTowns 699 = .ok (.iconst 0, 1) := by decide +kernel
theorem dL_areTowns_700 : decode cL_areTowns 700 = .ok (.ireturn, 1) := by decide +kernel
theorem dL_areHeard_0 : decode cL_areHeard 0 = .ok (.bipush 6, 2) := by decide +kernel
theorem dL_areHeard_2 : decode cL_areHeard 2 = .ok (.newarray .int, 2) := by decide +kernel
theorem dL_areHeard_4 : decode cL_areHeard 4 = .ok (.astore 5, 2) := by decide +kernel
theorem dL_areHeard_6 : decode cL_areHeard 6 = .ok (.aload_n 1, 1) := by decide +kernel
theorem dL_areHeard_7 : decode cL_areHeard 7 = .ok (.aload_n 2, 1) := by decide +kernel
theorem dL_areHeard_8 : decode cL_areHeard 8 = .ok (.aload_n 3, 1) := by decide +kernel
theorem dL_areHeard_9 : decode cL_areHeard 9 = .ok (.aload 4, 2) := by decide +kernel
theorem dL_areHeard_11 : decode cL_areHeard 11 = .ok (.aload 5, 2) := by decide +kernel
theorem dL_areHeard_13 : decode cL_areHeard 13 = .ok (.invokestatic 23, 3) := by decide +kernel
theorem dL_areHeard_16 : decode cL_areHeard 16 = .ok (.aload_n 0, 1) := by decide +kernel
theorem dL_areHeard_17 : decode cL_areHeard 17 = .ok (.bipush 6, 2) := by decide +kernel
theorem dL_areHeard_19 : decode cL_areHeard 19 = .ok (.iconst 0, 1) := by decide +kernel
theorem dL_areHeard_20 : decode cL_areHeard 20 = .ok (.invokevirtual 52, 3) := by decide +kernel
theorem dL_areHeard_23 : decode cL_areHeard 23 = .ok (.iconst (-1), 1) := by decide +kernel
theorem dL_areHeard_24 : decode cL_areHeard 24 = .ok (.if_icmp .ne 16, 3) := by decide +kernel
theorem dL_areHeard_27 : decode cL_areHeard 27 = .ok (.aload_n 0, 1) := by decide +kernel
theorem dL_areHeard_28 : decode cL_areHeard 28 = .ok (.iconst (-1), 1) := by decide +kernel
theorem dL_areHeard_29 : decode cL_areHeard 29 = .ok (.invokevirtual 55, 3) := by decide +kernel
theorem dL_areHeard_32 : decode cL_areHeard 32 = .ok (.iconst (-1), 1) := by decide +kernel
theorem dL_areHeard_33 : decode cL_areHeard 33 = .ok (.if_icmp .ne 7, 3) := by decide +kernel
theorem dL_areHeard_36 : decode cL_areHeard 36 = .ok (.iconst 1, 1) := by decide +kernel
theorem dL_areHeard_37 : decode cL_areHeard 37 = .ok (.goto 4, 3) := by decide +kernel
theorem dL_areHeard_40 : decode cL_areHeard 40 = .ok (.iconst 0, 1) := by decide +kernel
theorem dL_areHeard_41 : decode cL_areHeard 41 = .ok (.istore 6, 2) := by decide +kernel
theorem dL_areHeard_43 : decode cL_areHeard 43 = .ok (.iconst 0, 1) := by decide +kernel
theorem dL_areHeard_44 : decode cL_areHeard 44 = .ok (.istore 7, 2) := by decide +kernel
theorem dL_areHeard_46 : decode cL_areHeard 46 = .ok (.iload 7, 2) := by decide +kernel
theorem dL_areHeard_48 : decode cL_areHeard 48 = .ok (.bipush 6, 2) := by decide +kernel
theorem dL_areHeard_50 : decode cL_areHeard 50 = .ok (.if_icmp .ge 91, 3) := by decide +kernel
theorem dL_areHeard_53 : decode cL_areHeard 53 = .ok (.iload 6, 2) := by decide +kernel
theorem dL_areHeard_55 : decode cL_areHeard 55 = .ok (.ifCond .eq 26, 3) := by decide +kernel
theorem dL_areHeard_58 : decode cL_areHeard 58 = .ok (.aload_n 0, 1) := by decide +kernel
theorem dL_areHeard_59 : decode cL_areHeard 59 = .ok (.iload 7, 2) := by decide +kernel
theorem dL_areHeard_61 : decode cL_areHeard 61 = .ok (.invokevirtual 55, 3) := by decide +kernel
theorem dL_areHeard_64 : decode cL_areHeard 64 = .ok (.aload_n 1, 1) := by decide +kernel
theorem dL_areHeard_65 : decode cL_areHeard 65 = .ok (.aload 4, 2) := by decide +kernel
theorem dL_areHeard_67 : decode cL_areHeard 67 = .ok (.aload 5, 2) := by decide +kernel
theorem dL_areHeard_69 : decode cL_areHeard 69 = .ok (.iload 7, 2) := by decide +kernel
theorem dL_areHeard_71 : decode cL_areHeard 71 = .ok (.invokestatic 27, 3) := by decide +kernel
theorem dL_areHeard_74 : decode cL_areHeard 74 = .ok (.if_icmp .ne 7, 3) := by decide +kernel
theorem dL_areHeard_77 : decode cL_areHeard 77 = .ok (.iconst 1, 1) := by decide +kernel
theorem dL_areHeard_78 : decode cL_areHeard 78 = .ok (.goto 4, 3) := by decide +kernel
theorem dL_areHeard_81 : decode cL_areHeard 81 = .ok (.iconst 0, 1) := by decide +kernel
theorem dL_areHeard_82 : decode cL_areHeard 82 = .ok (.istore 6, 2) := by decide +kernel
theorem dL_areHeard_84 : decode cL_areHeard 84 = .ok (.iconst 0, 1) := by decide +kernel
theorem dL_areHeard_85 : decode cL_areHeard 85 = .ok (.istore 8, 2) := by decide +kernel
theorem dL_areHeard_87 : decode cL_areHeard 87 = .ok (.iload 8, 2) := by decide +kernel
theorem dL_areHeard_89 : decode cL_areHeard 89 = .ok (.bipush 6, 2) := by decide +kernel
theorem dL_areHeard_91 : decode cL_areHeard 91 = .ok (.if_icmp .ge 44, 3) := by decide +kernel
theorem dL_areHeard_94 : decode cL_areHeard 94 = .ok (.iload 6, 2) := by decide +kernel
theorem dL_areHeard_96 : decode cL_areHeard 96 = .ok (.ifCond .eq 30, 3) := by decide +kernel
theorem dL_areHeard_99 : decode cL_areHeard 99 = .ok (.aload_n 0, 1) := by decide +kernel
theorem dL_areHeard_100 : decode cL_areHeard 100 = .ok (.iload 8, 2) := by decide +kernel
theorem dL_areHeard_102 : decode cL_areHeard 102 = .ok (.iload 7, 2) := by decide +kernel
theorem dL_areHeard_104 : decode cL_areHeard 104 = .ok (.invokevirtual 52, 3) := by decide +kernel
theorem dL_areHeard_107 : decode cL_areHeard 107 = .ok (.aload_n 1, 1) := by decide +kernel
theorem dL_areHeard_108 : decode cL_areHeard 108 = .ok (.aload 4, 2) := by decide +kernel
theorem dL_areHeard_110 : decode cL_areHeard 110 = .ok (.aload 5, 2) := by decide +kernel
theorem dL_areHeard_112 : decode cL_areHeard 112 = .ok (.iload 8, 2) := by decide +kernel
theorem dL_areHeard_114 : decode cL_areHeard 114 = .ok (.iload 7, 2) := by decide +kernel
theorem dL_areHeard_116 : decode cL_areHeard 116 = .ok (.invokestatic 9, 3) := by decide +kernel
theorem dL_areHeard_119 : decode cL_areHeard 119 = .ok (.if_icmp .ne 7, 3) := by decide +kernel
theorem dL_areHeard_122 : decode cL_areHeard 122 = .ok (.iconst 1, 1) := by decide +kernel
theorem dL_areHeard_123 : decode cL_areHeard 123 = .ok (.goto 4, 3) := by decide +kernel
theorem dL_areHeard_126 : decode cL_areHeard 126 = .ok (.iconst 0, 1) := by decide +kernel
theorem dL_areHeard_127 : decode cL_areHeard 127 = .ok (.istore 6, 2) := by decide +kernel
theorem dL_areHeard_129 : decode cL_areHeard 129 = .ok (.iinc 8 1, 3) := by decide +kernel
theorem dL_areHeard_132 : decode cL_areHeard 132 = .ok (.goto (-45), 3) := by decide +kernel
theorem dL_areHeard_135 : decode cL_areHeard 135 = .ok (.iinc 7 1, 3) := by decide +kernel
theorem dL_areHeard_138 : decode cL_areHeard 138 = .ok (.goto (-92), 3) := by decide +kernel
theorem dL_areHeard_141 : decode cL_areHeard 141 = .ok (.iload 6, 2) := by decide +kernel
theorem dL_areHeard_143 : decode cL_areHeard 143 = .ok (.ireturn, 1) := by decide +kernel
theorem dL_isPlanned_0 : decode cL_isPlanned 0 = .ok (.bipush 6, 2) := by decide +kernel
theorem dL_isPlanned_2 : decode cL_isPlanned 2 = .ok (.newarray .int, 2) := by decide +kernel
theorem dL_isPlanned_4 : decode cL_isPlanned 4 = .ok (.astore 6, 2) := by decide +kernel
theorem dL_isPlanned_6 : decode cL_isPlanned 6 = .ok (.aload_n 1, 1) := by decide +kernel
theorem dL_isPlanned_7 : decode cL_isPlanned 7 = .ok (.aload_n 2, 1) := by decide +kernel
theorem dL_isPlanned_8 : decode cL_isPlanned 8 = .ok (.aload_n 3, 1) := by decide +kernel
theorem dL_isPlanned_9 : decode cL_isPlanned 9 = .ok (.aload 4, 2) := by decide +kernel
theorem dL_isPlanned_11 : decode cL_isPlanned 11 = .ok (.aload 6, 2) := by decide +kernel
theorem dL_isPlanned_13 : decode cL_isPlanned 13 = .ok (.invokestatic 23, 3) := by decide +kernel
theorem dL_isPlanned_16 : decode cL_isPlanned 16 = .ok (.bipush (-5), 2) := by decide +kernel
theorem dL_isPlanned_18 : decode cL_isPlanned 18 = .ok (.istore 7, 2) := by decide +kernel
theorem dL_isPlanned_20 : decode cL_isPlanned 20 = .ok (.iconst 0, 1) := by decide +kernel
theorem dL_isPlanned_21 : decode cL_isPlanned 21 = .ok (.istore 8, 2) := by decide +kernel
theorem dL_isPlanned_23 : decode cL_isPlanned 23 = .ok (.aload_n 0, 1) := by decide +kernel
theorem dL_isPlanned_24 : decode cL_isPlanned 24 = .ok (.iload 5, 2) := by decide +kernel
theorem dL_isPlanned_26 : decode cL_isPlanned 26 = .ok (.iconst 1, 1) := by decide +kernel
theorem dL_isPlanned_27 : decode cL_isPlanned 27 = .ok (.aload_n 1, 1) := by decide +kernel
theorem dL_isPlanned_28 : decode cL_isPlanned 28 = .ok (.bipush 9, 2) := by decide +kernel
theorem dL_isPlanned_30 : decode cL_isPlanned 30 = .ok (.iload 5, 2) := by decide +kernel
theorem dL_isPlanned_32 : decode cL_isPlanned 32 = .ok (.imul, 1) := by decide +kernel
theorem dL_isPlanned_33 : decode cL_isPlanned 33 = .ok (.iconst 3, 1) := by decide +kernel
theorem dL_isPlanned_34 : decode cL_isPlanned 34 = .ok (.iadd, 1) := by decide +kernel
theorem dL_isPlanned_35 : decode cL_isPlanned 35 = .ok (.iaload, 1) := by decide +kernel
