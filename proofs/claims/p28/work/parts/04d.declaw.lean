theorem dL_settles_9 : decode cL_settles 9 = .ok (.iload_n 3, 1) := by decide +kernel
theorem dL_settles_10 : decode cL_settles 10 = .ok (.bipush 6, 2) := by decide +kernel
theorem dL_settles_12 : decode cL_settles 12 = .ok (.ishr, 1) := by decide +kernel
theorem dL_settles_13 : decode cL_settles 13 = .ok (.bipush 20, 2) := by decide +kernel
theorem dL_settles_15 : decode cL_settles 15 = .ok (.invokestatic 74, 3) := by decide +kernel
theorem dL_settles_18 : decode cL_settles 18 = .ok (.iadd, 1) := by decide +kernel
theorem dL_settles_19 : decode cL_settles 19 = .ok (.istore 5, 2) := by decide +kernel
theorem dL_settles_21 : decode cL_settles 21 = .ok (.iconst 0, 1) := by decide +kernel
theorem dL_settles_22 : decode cL_settles 22 = .ok (.istore 6, 2) := by decide +kernel
theorem dL_settles_24 : decode cL_settles 24 = .ok (.iload 6, 2) := by decide +kernel
theorem dL_settles_26 : decode cL_settles 26 = .ok (.bipush 6, 2) := by decide +kernel
theorem dL_settles_28 : decode cL_settles 28 = .ok (.if_icmp .ge 47, 3) := by decide +kernel
theorem dL_settles_31 : decode cL_settles 31 = .ok (.iload 6, 2) := by decide +kernel
theorem dL_settles_33 : decode cL_settles 33 = .ok (.iload_n 2, 1) := by decide +kernel
theorem dL_settles_34 : decode cL_settles 34 = .ok (.if_icmp .eq 35, 3) := by decide +kernel
theorem dL_settles_37 : decode cL_settles 37 = .ok (.aload_n 1, 1) := by decide +kernel
theorem dL_settles_38 : decode cL_settles 38 = .ok (.bipush 9, 2) := by decide +kernel
theorem dL_settles_40 : decode cL_settles 40 = .ok (.iload 6, 2) := by decide +kernel
theorem dL_settles_42 : decode cL_settles 42 = .ok (.imul, 1) := by decide +kernel
theorem dL_settles_43 : decode cL_settles 43 = .ok (.iaload, 1) := by decide +kernel
theorem dL_settles_44 : decode cL_settles 44 = .ok (.iload 4, 2) := by decide +kernel
theorem dL_settles_46 : decode cL_settles 46 = .ok (.if_icmp .ne 23, 3) := by decide +kernel
theorem dL_settles_49 : decode cL_settles 49 = .ok (.aload_n 0, 1) := by decide +kernel
theorem dL_settles_50 : decode cL_settles 50 = .ok (.iload_n 2, 1) := by decide +kernel
theorem dL_settles_51 : decode cL_settles 51 = .ok (.iload 4, 2) := by decide +kernel
theorem dL_settles_53 : decode cL_settles 53 = .ok (.iload 5, 2) := by decide +kernel
theorem dL_settles_55 : decode cL_settles 55 = .ok (.invokevirtual 86, 3) := by decide +kernel
theorem dL_settles_58 : decode cL_settles 58 = .ok (.bipush (-4), 2) := by decide +kernel
theorem dL_settles_60 : decode cL_settles 60 = .ok (.if_icmp .ne 7, 3) := by decide +kernel
theorem dL_settles_63 : decode cL_settles 63 = .ok (.iconst 1, 1) := by decide +kernel
theorem dL_settles_64 : decode cL_settles 64 = .ok (.goto 4, 3) := by decide +kernel
theorem dL_settles_67 : decode cL_settles 67 = .ok (.iconst 0, 1) := by decide +kernel
theorem dL_settles_68 : decode cL_settles 68 = .ok (.ireturn, 1) := by decide +kernel
theorem dL_settles_69 : decode cL_settles 69 = .ok (.iinc 6 1, 3) := by decide +kernel
theorem dL_settles_72 : decode cL_settles 72 = .ok (.goto (-48), 3) := by decide +kernel
theorem dL_settles_75 : decode cL_settles 75 = .ok (.aload_n 1, 1) := by decide +kernel
theorem dL_settles_76 : decode cL_settles 76 = .ok (.bipush 9, 2) := by decide +kernel
theorem dL_settles_78 : decode cL_settles 78 = .ok (.iload_n 2, 1) := by decide +kernel
theorem dL_settles_79 : decode cL_settles 79 = .ok (.imul, 1) := by decide +kernel
theorem dL_settles_80 : decode cL_settles 80 = .ok (.iload 4, 2) := by decide +kernel
theorem dL_settles_82 : decode cL_settles 82 = .ok (.iastore, 1) := by decide +kernel
theorem dL_settles_83 : decode cL_settles 83 = .ok (.aload_n 1, 1) := by decide +kernel
theorem dL_settles_84 : decode cL_settles 84 = .ok (.bipush 9, 2) := by decide +kernel
theorem dL_settles_86 : decode cL_settles 86 = .ok (.iload_n 2, 1) := by decide +kernel
theorem dL_settles_87 : decode cL_settles 87 = .ok (.imul, 1) := by decide +kernel
theorem dL_settles_88 : decode cL_settles 88 = .ok (.iconst 1, 1) := by decide +kernel
theorem dL_settles_89 : decode cL_settles 89 = .ok (.iadd, 1) := by decide +kernel
theorem dL_settles_90 : decode cL_settles 90 = .ok (.iload 5, 2) := by decide +kernel
theorem dL_settles_92 : decode cL_settles 92 = .ok (.iastore, 1) := by decide +kernel
theorem dL_settles_93 : decode cL_settles 93 = .ok (.aload_n 1, 1) := by decide +kernel
theorem dL_settles_94 : decode cL_settles 94 = .ok (.bipush 9, 2) := by decide +kernel
theorem dL_settles_96 : decode cL_settles 96 = .ok (.iload_n 2, 1) := by decide +kernel
theorem dL_settles_97 : decode cL_settles 97 = .ok (.imul, 1) := by decide +kernel
theorem dL_settles_98 : decode cL_settles 98 = .ok (.iconst 2, 1) := by decide +kernel
theorem dL_settles_99 : decode cL_settles 99 = .ok (.iadd, 1) := by decide +kernel
theorem dL_settles_100 : decode cL_settles 100 = .ok (.iload 5, 2) := by decide +kernel
theorem dL_settles_102 : decode cL_settles 102 = .ok (.aload_n 1, 1) := by decide +kernel
theorem dL_settles_103 : decode cL_settles 103 = .ok (.bipush 9, 2) := by decide +kernel
theorem dL_settles_105 : decode cL_settles 105 = .ok (.iload_n 2, 1) := by decide +kernel
theorem dL_settles_106 : decode cL_settles 106 = .ok (.imul, 1) := by decide +kernel
theorem dL_settles_107 : decode cL_settles 107 = .ok (.iconst 2, 1) := by decide +kernel
theorem dL_settles_108 : decode cL_settles 108 = .ok (.iadd, 1) := by decide +kernel
theorem dL_settles_109 : decode cL_settles 109 = .ok (.iaload, 1) := by decide +kernel
theorem dL_settles_110 : decode cL_settles 110 = .ok (.if_icmp .ge 8, 3) := by decide +kernel
theorem dL_settles_113 : decode cL_settles 113 = .ok (.iload 5, 2) := by decide +kernel
theorem dL_settles_115 : decode cL_settles 115 = .ok (.goto 11, 3) := by decide +kernel
theorem dL_settles_118 : decode cL_settles 118 = .ok (.aload_n 1, 1) := by decide +kernel
theorem dL_settles_119 : decode cL_settles 119 = .ok (.bipush 9, 2) := by decide +kernel
theorem dL_settles_121 : decode cL_settles 121 = .ok (.iload_n 2, 1) := by decide +kernel
theorem dL_settles_122 : decode cL_settles 122 = .ok (.imul, 1) := by decide +kernel
theorem dL_settles_123 : decode cL_settles 123 = .ok (.iconst 2, 1) := by decide +kernel
theorem dL_settles_124 : decode cL_settles 124 = .ok (.iadd, 1) := by decide +kernel
theorem dL_settles_125 : decode cL_settles 125 = .ok (.iaload, 1) := by decide +kernel
theorem dL_settles_126 : decode cL_settles 126 = .ok (.iastore, 1) := by decide +kernel
theorem dL_settles_127 : decode cL_settles 127 = .ok (.aload_n 0, 1) := by decide +kernel
theorem dL_settles_128 : decode cL_settles 128 = .ok (.iload_n 2, 1) := by decide +kernel
theorem dL_settles_129 : decode cL_settles 129 = .ok (.iload 4, 2) := by decide +kernel
theorem dL_settles_131 : decode cL_settles 131 = .ok (.iload 5, 2) := by decide +kernel
theorem dL_settles_133 : decode cL_settles 133 = .ok (.invokevirtual 86, 3) := by decide +kernel
theorem dL_settles_136 : decode cL_settles 136 = .ok (.aload_n 1, 1) := by decide +kernel
theorem dL_settles_137 : decode cL_settles 137 = .ok (.bipush 9, 2) := by decide +kernel
theorem dL_settles_139 : decode cL_settles 139 = .ok (.iload_n 2, 1) := by decide +kernel
theorem dL_settles_140 : decode cL_settles 140 = .ok (.imul, 1) := by decide +kernel
theorem dL_settles_141 : decode cL_settles 141 = .ok (.iconst 2, 1) := by decide +kernel
theorem dL_settles_142 : decode cL_settles 142 = .ok (.iadd, 1) := by decide +kernel
theorem dL_settles_143 : decode cL_settles 143 = .ok (.iaload, 1) := by decide +kernel
theorem dL_settles_144 : decode cL_settles 144 = .ok (.if_icmp .ne 7, 3) := by decide +kernel
theorem dL_settles_147 : decode cL_settles 147 = .ok (.iconst 1, 1) := by decide +kernel
theorem dL_settles_148 : decode cL_settles 148 = .ok (.goto 4, 3) := by decide +kernel
theorem dL_settles_151 : decode cL_settles 151 = .ok (.iconst 0, 1) := by decide +kernel
theorem dL_settles_152 : decode cL_settles 152 = .ok (.ireturn, 1) := by decide +kernel
theorem dL_acts_0 : decode cL_acts 0 = .ok (.iload 7, 2) := by decide +kernel
theorem dL_acts_2 : decode cL_acts 2 = .ok (.bipush 6, 2) := by decide +kernel
theorem dL_acts_4 : decode cL_acts 4 = .ok (.invokestatic 74, 3) := by decide +kernel
theorem dL_acts_7 : decode cL_acts 7 = .ok (.istore 8, 2) := by decide +kernel
theorem dL_acts_9 : decode cL_acts 9 = .ok (.iload 6, 2) := by decide +kernel
theorem dL_acts_11 : decode cL_acts 11 = .ok (.tableswitch 305 0 10 #[57, 57, 74, 91, 91, 108, 120, 120, 120, 181, 236], 57) := by decide +kernel
theorem dL_acts_68 : decode cL_acts 68 = .ok (.aload_n 0, 1) := by decide +kernel
theorem dL_acts_69 : decode cL_acts 69 = .ok (.aload_n 1, 1) := by decide +kernel
theorem dL_acts_70 : decode cL_acts 70 = .ok (.aload_n 2, 1) := by decide +kernel
theorem dL_acts_71 : decode cL_acts 71 = .ok (.aload_n 3, 1) := by decide +kernel
theorem dL_acts_72 : decode cL_acts 72 = .ok (.aload 4, 2) := by decide +kernel
theorem dL_acts_74 : decode cL_acts 74 = .ok (.iload 8, 2) := by decide +kernel
theorem dL_acts_76 : decode cL_acts 76 = .ok (.iconst 0, 1) := by decide +kernel
theorem dL_acts_77 : decode cL_acts 77 = .ok (.iload 7, 2) := by decide +kernel
theorem dL_acts_79 : decode cL_acts 79 = .ok (.iconst 3, 1) := by decide +kernel
theorem dL_acts_80 : decode cL_acts 80 = .ok (.ishr, 1) := by decide +kernel
theorem dL_acts_81 : decode cL_acts 81 = .ok (.invokestatic 89, 3) := by decide +kernel
theorem dL_acts_84 : decode cL_acts 84 = .ok (.ireturn, 1) := by decide +kernel
theorem dL_acts_85 : decode cL_acts 85 = .ok (.aload_n 0, 1) := by decide +kernel
theorem dL_acts_86 : decode cL_acts 86 = .ok (.aload_n 1, 1) := by decide +kernel
theorem dL_acts_87 : decode cL_acts 87 = .ok (.aload_n 2, 1) := by decide +kernel
theorem dL_acts_88 : decode cL_acts 88 = .ok (.aload_n 3, 1) := by decide +kernel
theorem dL_acts_89 : decode cL_acts 89 = .ok (.aload 4, 2) := by decide +kernel
theorem dL_acts_91 : decode cL_acts 91 = .ok (.iload 8, 2) := by decide +kernel
theorem dL_acts_93 : decode cL_acts 93 = .ok (.iconst 2, 1) := by decide +kernel
theorem dL_acts_94 : decode cL_acts 94 = .ok (.iload 7, 2) := by decide +kernel
theorem dL_acts_96 : decode cL_acts 96 = .ok (.iconst 3, 1) := by decide +kernel
theorem dL_acts_97 : decode cL_acts 97 = .ok (.ishr, 1) := by decide +kernel
theorem dL_acts_98 : decode cL_acts 98 = .ok (.invokestatic 89, 3) := by decide +kernel
theorem dL_acts_101 : decode cL_acts 101 = .ok (.ireturn, 1) := by decide +kernel
theorem dL_acts_102 : decode cL_acts 102 = .ok (.aload_n 0, 1) := by decide +kernel
theorem dL_acts_103 : decode cL_acts 103 = .ok (.aload_n 1, 1) := by decide +kernel
theorem dL_acts_104 : decode cL_acts 104 = .ok (.aload_n 2, 1) := by decide +kernel
theorem dL_acts_105 : decode cL_acts 105 = .ok (.aload_n 3, 1) := by decide +kernel
theorem dL_acts_106 : decode cL_acts 106 = .ok (.aload 4, 2) := by decide +kernel
theorem dL_acts_108 : decode cL_acts 108 = .ok (.iload 8, 2) := by decide +kernel
theorem dL_acts_110 : decode cL_acts 110 = .ok (.iconst 1, 1) := by decide +kernel
theorem dL_acts_111 : decode cL_acts 111 = .ok (.iload 7, 2) := by decide +kernel
theorem dL_acts_113 : decode cL_acts 113 = .ok (.iconst 3, 1) := by decide +kernel
theorem dL_acts_114 : decode cL_acts 114 = .ok (.ishr, 1) := by decide +kernel
theorem dL_acts_115 : decode cL_acts 115 = .ok (.invokestatic 89, 3) := by decide +kernel
theorem dL_acts_118 : decode cL_acts 118 = .ok (.ireturn, 1) := by decide +kernel
theorem dL_acts_119 : decode cL_acts 119 = .ok (.aload_n 0, 1) := by decide +kernel
theorem dL_acts_120 : decode cL_acts 120 = .ok (.aload_n 1, 1) := by decide +kernel
theorem dL_acts_121 : decode cL_acts 121 = .ok (.iload 8, 2) := by decide +kernel
theorem dL_acts_123 : decode cL_acts 123 = .ok (.iload 7, 2) := by decide +kernel
theorem dL_acts_125 : decode cL_acts 125 = .ok (.iconst 3, 1) := by decide +kernel
theorem dL_acts_126 : decode cL_acts 126 = .ok (.ishr, 1) := by decide +kernel
theorem dL_acts_127 : decode cL_acts 127 = .ok (.invokestatic 93, 3) := by decide +kernel
theorem dL_acts_130 : decode cL_acts 130 = .ok (.ireturn, 1) := by decide +kernel
theorem dL_acts_131 : decode cL_acts 131 = .ok (.iload 7, 2) := by decide +kernel
theorem dL_acts_133 : decode cL_acts 133 = .ok (.iconst 3, 1) := by decide +kernel
theorem dL_acts_134 : decode cL_acts 134 = .ok (.ishr, 1) := by decide +kernel
theorem dL_acts_135 : decode cL_acts 135 = .ok (.iconst 1, 1) := by decide +kernel
theorem dL_acts_136 : decode cL_acts 136 = .ok (.aload_n 1, 1) := by decide +kernel
theorem dL_acts_137 : decode cL_acts 137 = .ok (.bipush 9, 2) := by decide +kernel
theorem dL_acts_139 : decode cL_acts 139 = .ok (.iload 8, 2) := by decide +kernel
theorem dL_acts_141 : decode cL_acts 141 = .ok (.imul, 1) := by decide +kernel
theorem dL_acts_142 : decode cL_acts 142 = .ok (.iconst 3, 1) := by decide +kernel
theorem dL_acts_143 : decode cL_acts 143 = .ok (.iadd, 1) := by decide +kernel
theorem dL_acts_144 : decode cL_acts 144 = .ok (.iaload, 1) := by decide +kernel
theorem dL_acts_145 : decode cL_acts 145 = .ok (.ishl, 1) := by decide +kernel
theorem dL_acts_146 : decode cL_acts 146 = .ok (.invokestatic 74, 3) := by decide +kernel
theorem dL_acts_149 : decode cL_acts 149 = .ok (.istore 9, 2) := by decide +kernel
theorem dL_acts_151 : decode cL_acts 151 = .ok (.aload_n 1, 1) := by decide +kernel
theorem dL_acts_152 : decode cL_acts 152 = .ok (.bipush 9, 2) := by decide +kernel
theorem dL_acts_154 : decode cL_acts 154 = .ok (.iload 8, 2) := by decide +kernel
theorem dL_acts_156 : decode cL_acts 156 = .ok (.imul, 1) := by decide +kernel
theorem dL_acts_157 : decode cL_acts 157 = .ok (.iconst 4, 1) := by decide +kernel
theorem dL_acts_158 : decode cL_acts 158 = .ok (.iadd, 1) := by decide +kernel
theorem dL_acts_159 : decode cL_acts 159 = .ok (.iaload, 1) := by decide +kernel
theorem dL_acts_160 : decode cL_acts 160 = .ok (.istore 10, 2) := by decide +kernel
theorem dL_acts_162 : decode cL_acts 162 = .ok (.aload_n 1, 1) := by decide +kernel
theorem dL_acts_163 : decode cL_acts 163 = .ok (.bipush 9, 2) := by decide +kernel
theorem dL_acts_165 : decode cL_acts 165 = .ok (.iload 8, 2) := by decide +kernel
theorem dL_acts_167 : decode cL_acts 167 = .ok (.imul, 1) := by decide +kernel
theorem dL_acts_168 : decode cL_acts 168 = .ok (.iconst 4, 1) := by decide +kernel
theorem dL_acts_169 : decode cL_acts 169 = .ok (.iadd, 1) := by decide +kernel
theorem dL_acts_170 : decode cL_acts 170 = .ok (.iload 9, 2) := by decide +kernel
theorem dL_acts_172 : decode cL_acts 172 = .ok (.iastore, 1) := by decide +kernel
theorem dL_acts_173 : decode cL_acts 173 = .ok (.aload_n 0, 1) := by decide +kernel
theorem dL_acts_174 : decode cL_acts 174 = .ok (.iload 8, 2) := by decide +kernel
theorem dL_acts_176 : decode cL_acts 176 = .ok (.iload 9, 2) := by decide +kernel
theorem dL_acts_178 : decode cL_acts 178 = .ok (.invokevirtual 97, 3) := by decide +kernel
theorem dL_acts_181 : decode cL_acts 181 = .ok (.iload 10, 2) := by decide +kernel
theorem dL_acts_183 : decode cL_acts 183 = .ok (.if_icmp .ne 7, 3) := by decide +kernel
theorem dL_acts_186 : decode cL_acts 186 = .ok (.iconst 1, 1) := by decide +kernel
theorem dL_acts_187 : decode cL_acts 187 = .ok (.goto 4, 3) := by decide +kernel
theorem dL_acts_190 : decode cL_acts 190 = .ok (.iconst 0, 1) := by decide +kernel
theorem dL_acts_191 : decode cL_acts 191 = .ok (.ireturn, 1) := by decide +kernel
theorem dL_acts_192 : decode cL_acts 192 = .ok (.aload_n 1, 1) := by decide +kernel
theorem dL_acts_193 : decode cL_acts 193 = .ok (.bipush 9, 2) := by decide +kernel
theorem dL_acts_195 : decode cL_acts 195 = .ok (.iload 8, 2) := by decide +kernel
theorem dL_acts_197 : decode cL_acts 197 = .ok (.imul, 1) := by decide +kernel
theorem dL_acts_198 : decode cL_acts 198 = .ok (.iconst 5, 1) := by decide +kernel
theorem dL_acts_199 : decode cL_acts 199 = .ok (.iadd, 1) := by decide +kernel
theorem dL_acts_200 : decode cL_acts 200 = .ok (.iaload, 1) := by decide +kernel
theorem dL_acts_201 : decode cL_acts 201 = .ok (.istore 11, 2) := by decide +kernel
theorem dL_acts_203 : decode cL_acts 203 = .ok (.aload_n 1, 1) := by decide +kernel
theorem dL_acts_204 : decode cL_acts 204 = .ok (.bipush 9, 2) := by decide +kernel
theorem dL_acts_206 : decode cL_acts 206 = .ok (.iload 8, 2) := by decide +kernel
theorem dL_acts_208 : decode cL_acts 208 = .ok (.imul, 1) := by decide +kernel
theorem dL_acts_209 : decode cL_acts 209 = .ok (.iconst 5, 1) := by decide +kernel
theorem dL_acts_210 : decode cL_acts 210 = .ok (.iadd, 1) := by decide +kernel
theorem dL_acts_211 : decode cL_acts 211 = .ok (.iload 7, 2) := by decide +kernel
theorem dL_acts_213 : decode cL_acts 213 = .ok (.iconst 3, 1) := by decide +kernel
theorem dL_acts_214 : decode cL_acts 214 = .ok (.ishr, 1) := by decide +kernel
theorem dL_acts_215 : decode cL_acts 215 = .ok (.bipush 7, 2) := by decide +kernel
theorem dL_acts_217 : decode cL_acts 217 = .ok (.invokestatic 74, 3) := by decide +kernel
theorem dL_acts_220 : decode cL_acts 220 = .ok (.iastore, 1) := by decide +kernel
theorem dL_acts_221 : decode cL_acts 221 = .ok (.aload_n 0, 1) := by decide +kernel
theorem dL_acts_222 : decode cL_acts 222 = .ok (.iload 8, 2) := by decide +kernel
theorem dL_acts_224 : decode cL_acts 224 = .ok (.aload_n 1, 1) := by decide +kernel
theorem dL_acts_225 : decode cL_acts 225 = .ok (.bipush 9, 2) := by decide +kernel
theorem dL_acts_227 : decode cL_acts 227 = .ok (.iload 8, 2) := by decide +kernel
theorem dL_acts_229 : decode cL_acts 229 = .ok (.imul, 1) := by decide +kernel
theorem dL_acts_230 : decode cL_acts 230 = .ok (.iconst 5, 1) := by decide +kernel
theorem dL_acts_231 : decode cL_acts 231 = .ok (.iadd, 1) := by decide +kernel
theorem dL_acts_232 : decode cL_acts 232 = .ok (.iaload, 1) := by decide +kernel
theorem dL_acts_233 : decode cL_acts 233 = .ok (.invokevirtual 100, 3) := by decide +kernel
theorem dL_acts_236 : decode cL_acts 236 = .ok (.iload 11, 2) := by decide +kernel
theorem dL_acts_238 : decode cL_acts 238 = .ok (.if_icmp .ne 7, 3) := by decide +kernel
theorem dL_acts_241 : decode cL_acts 241 = .ok (.iconst 1, 1) := by decide +kernel
theorem dL_acts_242 : decode cL_acts 242 = .ok (.goto 4, 3) := by decide +kernel
theorem dL_acts_245 : decode cL_acts 245 = .ok (.iconst 0, 1) := by decide +kernel
theorem dL_acts_246 : decode cL_acts 246 = .ok (.ireturn, 1) := by decide +kernel
theorem dL_acts_247 : decode cL_acts 247 = .ok (.iload 7, 2) := by decide +kernel
theorem dL_acts_249 : decode cL_acts 249 = .ok (.iconst 2, 1) := by decide +kernel
theorem dL_acts_250 : decode cL_acts 250 = .ok (.invokestatic 74, 3) := by decide +kernel
theorem dL_acts_253 : decode cL_acts 253 = .ok (.istore 12, 2) := by decide +kernel
theorem dL_acts_255 : decode cL_acts 255 = .ok (.aload 5, 2) := by decide +kernel
theorem dL_acts_257 : decode cL_acts 257 = .ok (.iload 12, 2) := by decide +kernel
theorem dL_acts_259 : decode cL_acts 259 = .ok (.iaload, 1) := by decide +kernel
theorem dL_acts_260 : decode cL_acts 260 = .ok (.istore 13, 2) := by decide +kernel
theorem dL_acts_262 : decode cL_acts 262 = .ok (.aload 5, 2) := by decide +kernel
theorem dL_acts_264 : decode cL_acts 264 = .ok (.iload 12, 2) := by decide +kernel
theorem dL_acts_266 : decode cL_acts 266 = .ok (.iload 12, 2) := by decide +kernel
theorem dL_acts_268 : decode cL_acts 268 = .ok (.ifCond .ne 15, 3) := by decide +kernel
theorem dL_acts_271 : decode cL_acts 271 = .ok (.iload 7, 2) := by decide +kernel
theorem dL_acts_273 : decode cL_acts 273 = .ok (.iconst 1, 1) := by decide +kernel
theorem dL_acts_274 : decode cL_acts 274 = .ok (.ishr, 1) := by decide +kernel
theorem dL_acts_275 : decode cL_acts 275 = .ok (.bipush 10, 2) := by decide +kernel
theorem dL_acts_277 : decode cL_acts 277 = .ok (.invokestatic 74, 3) := by decide +kernel
theorem dL_acts_280 : decode cL_acts 280 = .ok (.goto 13, 3) := by decide +kernel
theorem dL_acts_283 : decode cL_acts 283 = .ok (.iconst 1, 1) := by decide +kernel
theorem dL_acts_284 : decode cL_acts 284 = .ok (.iload 7, 2) := by decide +kernel
theorem dL_acts_286 : decode cL_acts 286 = .ok (.iconst 1, 1) := by decide +kernel
theorem dL_acts_287 : decode cL_acts 287 = .ok (.ishr, 1) := by decide +kernel
theorem dL_acts_288 : decode cL_acts 288 = .ok (.iconst 3, 1) := by decide +kernel
theorem dL_acts_289 : decode cL_acts 289 = .ok (.invokestatic 74, 3) := by decide +kernel
theorem dL_acts_292 : decode cL_acts 292 = .ok (.iadd, 1) := by decide +kernel
theorem dL_acts_293 : decode cL_acts 293 = .ok (.iastore, 1) := by decide +kernel
theorem dL_acts_294 : decode cL_acts 294 = .ok (.aload_n 0, 1) := by decide +kernel
theorem dL_acts_295 : decode cL_acts 295 = .ok (.iload 12, 2) := by decide +kernel
theorem dL_acts_297 : decode cL_acts 297 = .ok (.aload 5, 2) := by decide +kernel
theorem dL_acts_299 : decode cL_acts 299 = .ok (.iload 12, 2) := by decide +kernel
theorem dL_acts_301 : decode cL_acts 301 = .ok (.iaload, 1) := by decide +kernel
theorem dL_acts_302 : decode cL_acts 302 = .ok (.invokevirtual 103, 3) := by decide +kernel
theorem dL_acts_305 : decode cL_acts 305 = .ok (.iload 13, 2) := by decide +kernel
theorem dL_acts_307 : decode cL_acts 307 = .ok (.if_icmp .ne 7, 3) := by decide +kernel
theorem dL_acts_310 : decode cL_acts 310 = .ok (.iconst 1, 1) := by decide +kernel
theorem dL_acts_311 : decode cL_acts 311 = .ok (.goto 4, 3) := by decide +kernel
theorem dL_acts_314 : decode cL_acts 314 = .ok (.iconst 0, 1) := by decide +kernel
theorem dL_acts_315 : decode cL_acts 315 = .ok (.ireturn, 1) := by decide +kernel
theorem dL_acts_316 : decode cL_acts 316 = .ok (.iconst 1, 1) := by decide +kernel
theorem dL_acts_317 : decode cL_acts 317 = .ok (.iload 7, 2) := by decide +kernel
theorem dL_acts_319 : decode cL_acts 319 = .ok (.iload 7, 2) := by decide +kernel
theorem dL_acts_321 : decode cL_acts 321 = .ok (.bipush 7, 2) := by decide +kernel
theorem dL_acts_323 : decode cL_acts 323 = .ok (.ishr, 1) := by decide +kernel
theorem dL_acts_324 : decode cL_acts 324 = .ok (.iconst 4, 1) := by decide +kernel
theorem dL_acts_325 : decode cL_acts 325 = .ok (.invokestatic 74, 3) := by decide +kernel
theorem dL_acts_328 : decode cL_acts 328 = .ok (.ifCond .ne 8, 3) := by decide +kernel
theorem dL_acts_331 : decode cL_acts 331 = .ok (.bipush 50, 2) := by decide +kernel
theorem dL_acts_333 : decode cL_acts 333 = .ok (.goto 4, 3) := by decide +kernel
theorem dL_acts_336 : decode cL_acts 336 = .ok (.iconst 4, 1) := by decide +kernel
theorem dL_acts_337 : decode cL_acts 337 = .ok (.invokestatic 74, 3) := by decide +kernel
theorem dL_acts_340 : decode cL_acts 340 = .ok (.iadd, 1) := by decide +kernel
theorem dL_acts_341 : decode cL_acts 341 = .ok (.istore 14, 2) := by decide +kernel
theorem dL_acts_343 : decode cL_acts 343 = .ok (.iconst 0, 1) := by decide +kernel
theorem dL_acts_344 : decode cL_acts 344 = .ok (.istore 15, 2) := by decide +kernel
theorem dL_acts_346 : decode cL_acts 346 = .ok (.iload 15, 2) := by decide +kernel
theorem dL_acts_348 : decode cL_acts 348 = .ok (.iload 14, 2) := by decide +kernel
theorem dL_acts_350 : decode cL_acts 350 = .ok (.if_icmp .ge 19, 3) := by decide +kernel
theorem dL_acts_353 : decode cL_acts 353 = .ok (.aload_n 1, 1) := by decide +kernel
theorem dL_acts_354 : decode cL_acts 354 = .ok (.aload_n 2, 1) := by decide +kernel
theorem dL_acts_355 : decode cL_acts 355 = .ok (.aload_n 3, 1) := by decide +kernel
theorem dL_acts_356 : decode cL_acts 356 = .ok (.aload 4, 2) := by decide +kernel
theorem dL_acts_358 : decode cL_acts 358 = .ok (.aload 5, 2) := by decide +kernel
theorem dL_acts_360 : decode cL_acts 360 = .ok (.invokestatic 68, 3) := by decide +kernel
theorem dL_acts_363 : decode cL_acts 363 = .ok (.iinc 15 1, 3) := by decide +kernel
theorem dL_acts_366 : decode cL_acts 366 = .ok (.goto (-20), 3) := by decide +kernel
theorem dL_acts_369 : decode cL_acts 369 = .ok (.aload_n 0, 1) := by decide +kernel
theorem dL_acts_370 : decode cL_acts 370 = .ok (.iload 14, 2) := by decide +kernel
theorem dL_acts_372 : decode cL_acts 372 = .ok (.invokevirtual 106, 3) := by decide +kernel
theorem dL_acts_375 : decode cL_acts 375 = .ok (.aload 5, 2) := by decide +kernel
theorem dL_acts_377 : decode cL_acts 377 = .ok (.iconst 3, 1) := by decide +kernel
theorem dL_acts_378 : decode cL_acts 378 = .ok (.iaload, 1) := by decide +kernel
theorem dL_acts_379 : decode cL_acts 379 = .ok (.if_icmp .ne 7, 3) := by decide +kernel
theorem dL_acts_382 : decode cL_acts 382 = .ok (.iconst 1, 1) := by decide +kernel
theorem dL_acts_383 : decode cL_acts 383 = .ok (.goto 4, 3) := by decide +kernel
theorem dL_acts_386 : decode cL_acts 386 = .ok (.iconst 0, 1) := by decide +kernel
theorem dL_acts_387 : decode cL_acts 387 = .ok (.ireturn, 1) := by decide +kernel
theorem dL_law_0 : decode cL_law 0 = .ok (.new 32, 3) := by decide +kernel
theorem dL_law_3 : decode cL_law 3 = .ok (.dup, 1) := by decide +kernel
theorem dL_law_4 : decode cL_law 4 = .ok (.invokespecial 108, 3) := by decide +kernel
theorem dL_law_7 : decode cL_law 7 = .ok (.astore_n 1, 1) := by decide +kernel
theorem dL_law_8 : decode cL_law 8 = .ok (.bipush 54, 2) := by decide +kernel
theorem dL_law_10 : decode cL_law 10 = .ok (.newarray .int, 2) := by decide +kernel
theorem dL_law_12 : decode cL_law 12 = .ok (.astore_n 2, 1) := by decide +kernel
theorem dL_law_13 : decode cL_law 13 = .ok (.bipush 30, 2) := by decide +kernel
theorem dL_law_15 : decode cL_law 15 = .ok (.newarray .int, 2) := by decide +kernel
theorem dL_law_17 : decode cL_law 17 = .ok (.astore_n 3, 1) := by decide +kernel
theorem dL_law_18 : decode cL_law 18 = .ok (.bipush 30, 2) := by decide +kernel
theorem dL_law_20 : decode cL_law 20 = .ok (.newarray .int, 2) := by decide +kernel
theorem dL_law_22 : decode cL_law 22 = .ok (.astore 4, 2) := by decide +kernel
theorem dL_law_24 : decode cL_law 24 = .ok (.bipush 30, 2) := by decide +kernel
theorem dL_law_26 : decode cL_law 26 = .ok (.newarray .int, 2) := by decide +kernel
theorem dL_law_28 : decode cL_law 28 = .ok (.astore 5, 2) := by decide +kernel
theorem dL_law_30 : decode cL_law 30 = .ok (.iconst 5, 1) := by decide +kernel
theorem dL_law_31 : decode cL_law 31 = .ok (.newarray .int, 2) := by decide +kernel
theorem dL_law_33 : decode cL_law 33 = .ok (.astore 6, 2) := by decide +kernel
theorem dL_law_35 : decode cL_law 35 = .ok (.aload 6, 2) := by decide +kernel
theorem dL_law_37 : decode cL_law 37 = .ok (.iconst 0, 1) := by decide +kernel
theorem dL_law_38 : decode cL_law 38 = .ok (.iconst 1, 1) := by decide +kernel
theorem dL_law_39 : decode cL_law 39 = .ok (.iastore, 1) := by decide +kernel
theorem dL_law_40 : decode cL_law 40 = .ok (.aload 6, 2) := by decide +kernel
theorem dL_law_42 : decode cL_law 42 = .ok (.iconst 1, 1) := by decide +kernel
theorem dL_law_43 : decode cL_law 43 = .ok (.iconst 1, 1) := by decide +kernel
theorem dL_law_44 : decode cL_law 44 = .ok (.iastore, 1) := by decide +kernel
theorem dL_law_45 : decode cL_law 45 = .ok (.aload 6, 2) := by decide +kernel
theorem dL_law_47 : decode cL_law 47 = .ok (.iconst 3, 1) := by decide +kernel
theorem dL_law_48 : decode cL_law 48 = .ok (.bipush (-5), 2) := by decide +kernel
theorem dL_law_50 : decode cL_law 50 = .ok (.iastore, 1) := by decide +kernel
theorem dL_law_51 : decode cL_law 51 = .ok (.iconst 0, 1) := by decide +kernel
theorem dL_law_52 : decode cL_law 52 = .ok (.istore 7, 2) := by decide +kernel
theorem dL_law_54 : decode cL_law 54 = .ok (.iload 7, 2) := by decide +kernel
theorem dL_law_56 : decode cL_law 56 = .ok (.bipush 6, 2) := by decide +kernel
theorem dL_law_58 : decode cL_law 58 = .ok (.if_icmp .ge 42, 3) := by decide +kernel
theorem dL_law_61 : decode cL_law 61 = .ok (.aload_n 2, 1) := by decide +kernel
theorem dL_law_62 : decode cL_law 62 = .ok (.bipush 9, 2) := by decide +kernel
theorem dL_law_64 : decode cL_law 64 = .ok (.iload 7, 2) := by decide +kernel
theorem dL_law_66 : decode cL_law 66 = .ok (.imul, 1) := by decide +kernel
theorem dL_law_67 : decode cL_law 67 = .ok (.iconst 4, 1) := by decide +kernel
theorem dL_law_68 : decode cL_law 68 = .ok (.iload 7, 2) := by decide +kernel
theorem dL_law_70 : decode cL_law 70 = .ok (.imul, 1) := by decide +kernel
theorem dL_law_71 : decode cL_law 71 = .ok (.iastore, 1) := by decide +kernel
theorem dL_law_72 : decode cL_law 72 = .ok (.aload_n 2, 1) := by decide +kernel
theorem dL_law_73 : decode cL_law 73 = .ok (.bipush 9, 2) := by decide +kernel
theorem dL_law_75 : decode cL_law 75 = .ok (.iload 7, 2) := by decide +kernel
theorem dL_law_77 : decode cL_law 77 = .ok (.imul, 1) := by decide +kernel
theorem dL_law_78 : decode cL_law 78 = .ok (.iconst 1, 1) := by decide +kernel
theorem dL_law_79 : decode cL_law 79 = .ok (.iadd, 1) := by decide +kernel
theorem dL_law_80 : decode cL_law 80 = .ok (.bipush 8, 2) := by decide +kernel
theorem dL_law_82 : decode cL_law 82 = .ok (.iastore, 1) := by decide +kernel
theorem dL_law_83 : decode cL_law 83 = .ok (.aload_n 2, 1) := by decide +kernel
theorem dL_law_84 : decode cL_law 84 = .ok (.bipush 9, 2) := by decide +kernel
theorem dL_law_86 : decode cL_law 86 = .ok (.iload 7, 2) := by decide +kernel
theorem dL_law_88 : decode cL_law 88 = .ok (.imul, 1) := by decide +kernel
theorem dL_law_89 : decode cL_law 89 = .ok (.iconst 5, 1) := by decide +kernel
theorem dL_law_90 : decode cL_law 90 = .ok (.iadd, 1) := by decide +kernel
theorem dL_law_91 : decode cL_law 91 = .ok (.iload 7, 2) := by decide +kernel
theorem dL_law_93 : decode cL_law 93 = .ok (.iastore, 1) := by decide +kernel
theorem dL_law_94 : decode cL_law 94 = .ok (.iinc 7 1, 3) := by decide +kernel
theorem dL_law_97 : decode cL_law 97 = .ok (.goto (-43), 3) := by decide +kernel
theorem dL_law_100 : decode cL_law 100 = .ok (.aload_n 1, 1) := by decide +kernel
theorem dL_law_101 : decode cL_law 101 = .ok (.aload_n 2, 1) := by decide +kernel
theorem dL_law_102 : decode cL_law 102 = .ok (.aload_n 3, 1) := by decide +kernel
theorem dL_law_103 : decode cL_law 103 = .ok (.aload 4, 2) := by decide +kernel
theorem dL_law_105 : decode cL_law 105 = .ok (.aload 5, 2) := by decide +kernel
theorem dL_law_107 : decode cL_law 107 = .ok (.aload 6, 2) := by decide +kernel
theorem dL_law_109 : decode cL_law 109 = .ok (.invokestatic 109, 3) := by decide +kernel
theorem dL_law_112 : decode cL_law 112 = .ok (.ifCond .eq 20, 3) := by decide +kernel
theorem dL_law_115 : decode cL_law 115 = .ok (.aload_n 1, 1) := by decide +kernel
theorem dL_law_116 : decode cL_law 116 = .ok (.aload_n 2, 1) := by decide +kernel
theorem dL_law_117 : decode cL_law 117 = .ok (.aload_n 3, 1) := by decide +kernel
theorem dL_law_118 : decode cL_law 118 = .ok (.aload 4, 2) := by decide +kernel
theorem dL_law_120 : decode cL_law 120 = .ok (.aload 6, 2) := by decide +kernel
theorem dL_law_122 : decode cL_law 122 = .ok (.invokestatic 113, 3) := by decide +kernel
theorem dL_law_125 : decode cL_law 125 = .ok (.ifCond .eq 7, 3) := by decide +kernel
theorem dL_law_128 : decode cL_law 128 = .ok (.iconst 1, 1) := by decide +kernel
theorem dL_law_129 : decode cL_law 129 = .ok (.goto 4, 3) := by decide +kernel
theorem dL_law_132 : decode cL_law 132 = .ok (.iconst 0, 1) := by decide +kernel
theorem dL_law_133 : decode cL_law 133 = .ok (.istore 7, 2) := by decide +kernel
theorem dL_law_135 : decode cL_law 135 = .ok (.iconst 0, 1) := by decide +kernel
theorem dL_law_136 : decode cL_law 136 = .ok (.istore 8, 2) := by decide +kernel
theorem dL_law_138 : decode cL_law 138 = .ok (.iload 8, 2) := by decide +kernel
theorem dL_law_140 : decode cL_law 140 = .ok (.bipush 48, 2) := by decide +kernel
theorem dL_law_142 : decode cL_law 142 = .ok (.if_icmp .ge 162, 3) := by decide +kernel
theorem dL_law_145 : decode cL_law 145 = .ok (.iload 7, 2) := by decide +kernel
theorem dL_law_147 : decode cL_law 147 = .ok (.ifCond .eq 157, 3) := by decide +kernel
theorem dL_law_150 : decode cL_law 150 = .ok (.aload_n 0, 1) := by decide +kernel
theorem dL_law_151 : decode cL_law 151 = .ok (.iload 8, 2) := by decide +kernel
theorem dL_law_153 : decode cL_law 153 = .ok (.invokestatic 117, 3) := by decide +kernel
theorem dL_law_156 : decode cL_law 156 = .ok (.istore 9, 2) := by decide +kernel
theorem dL_law_158 : decode cL_law 158 = .ok (.aload_n 1, 1) := by decide +kernel
theorem dL_law_159 : decode cL_law 159 = .ok (.aload_n 2, 1) := by decide +kernel
theorem dL_law_160 : decode cL_law 160 = .ok (.aload_n 3, 1) := by decide +kernel
theorem dL_law_161 : decode cL_law 161 = .ok (.aload 4, 2) := by decide +kernel
theorem dL_law_163 : decode cL_law 163 = .ok (.aload 5, 2) := by decide +kernel
theorem dL_law_165 : decode cL_law 165 = .ok (.aload 6, 2) := by decide +kernel
theorem dL_law_167 : decode cL_law 167 = .ok (.iload 8, 2) := by decide +kernel
theorem dL_law_169 : decode cL_law 169 = .ok (.bipush 10, 2) := by decide +kernel
theorem dL_law_171 : decode cL_law 171 = .ok (.if_icmp .ge 7, 3) := by decide +kernel
theorem dL_law_174 : decode cL_law 174 = .ok (.iconst 0, 1) := by decide +kernel
theorem dL_law_175 : decode cL_law 175 = .ok (.goto 13, 3) := by decide +kernel
theorem dL_law_178 : decode cL_law 178 = .ok (.iload 9, 2) := by decide +kernel
theorem dL_law_180 : decode cL_law 180 = .ok (.bipush 18, 2) := by decide +kernel
theorem dL_law_182 : decode cL_law 182 = .ok (.ishr, 1) := by decide +kernel
theorem dL_law_183 : decode cL_law 183 = .ok (.bipush 16, 2) := by decide +kernel
theorem dL_law_185 : decode cL_law 185 = .ok (.invokestatic 74, 3) := by decide +kernel
theorem dL_law_188 : decode cL_law 188 = .ok (.iload 9, 2) := by decide +kernel
theorem dL_law_190 : decode cL_law 190 = .ok (.invokestatic 121, 3) := by decide +kernel
theorem dL_law_193 : decode cL_law 193 = .ok (.ifCond .eq 102, 3) := by decide +kernel
theorem dL_law_196 : decode cL_law 196 = .ok (.aload_n 1, 1) := by decide +kernel
theorem dL_law_197 : decode cL_law 197 = .ok (.aload_n 2, 1) := by decide +kernel
theorem dL_law_198 : decode cL_law 198 = .ok (.aload_n 3, 1) := by decide +kernel
theorem dL_law_199 : decode cL_law 199 = .ok (.aload 4, 2) := by decide +kernel
theorem dL_law_201 : decode cL_law 201 = .ok (.aload 5, 2) := by decide +kernel
theorem dL_law_203 : decode cL_law 203 = .ok (.aload 6, 2) := by decide +kernel
theorem dL_law_205 : decode cL_law 205 = .ok (.invokestatic 109, 3) := by decide +kernel
theorem dL_law_208 : decode cL_law 208 = .ok (.ifCond .eq 87, 3) := by decide +kernel
theorem dL_law_211 : decode cL_law 211 = .ok (.aload_n 1, 1) := by decide +kernel
theorem dL_law_212 : decode cL_law 212 = .ok (.aload_n 2, 1) := by decide +kernel
theorem dL_law_213 : decode cL_law 213 = .ok (.aload_n 3, 1) := by decide +kernel
theorem dL_law_214 : decode cL_law 214 = .ok (.aload 4, 2) := by decide +kernel
theorem dL_law_216 : decode cL_law 216 = .ok (.aload 6, 2) := by decide +kernel
theorem dL_law_218 : decode cL_law 218 = .ok (.invokestatic 113, 3) := by decide +kernel
theorem dL_law_221 : decode cL_law 221 = .ok (.ifCond .eq 74, 3) := by decide +kernel
theorem dL_law_224 : decode cL_law 224 = .ok (.iload 8, 2) := by decide +kernel
theorem dL_law_226 : decode cL_law 226 = .ok (.iconst 3, 1) := by decide +kernel
theorem dL_law_227 : decode cL_law 227 = .ok (.irem, 1) := by decide +kernel
theorem dL_law_228 : decode cL_law 228 = .ok (.iconst 2, 1) := by decide +kernel
theorem dL_law_229 : decode cL_law 229 = .ok (.if_icmp .ne 62, 3) := by decide +kernel
theorem dL_law_232 : decode cL_law 232 = .ok (.aload_n 1, 1) := by decide +kernel
theorem dL_law_233 : decode cL_law 233 = .ok (.aload_n 2, 1) := by decide +kernel
theorem dL_law_234 : decode cL_law 234 = .ok (.aload_n 3, 1) := by decide +kernel
theorem dL_law_235 : decode cL_law 235 = .ok (.aload 4, 2) := by decide +kernel
theorem dL_law_237 : decode cL_law 237 = .ok (.aload 6, 2) := by decide +kernel
theorem dL_law_239 : decode cL_law 239 = .ok (.iload 9, 2) := by decide +kernel
theorem dL_law_241 : decode cL_law 241 = .ok (.iconst 4, 1) := by decide +kernel
theorem dL_law_242 : decode cL_law 242 = .ok (.ishr, 1) := by decide +kernel
theorem dL_law_243 : decode cL_law 243 = .ok (.bipush 6, 2) := by decide +kernel
theorem dL_law_245 : decode cL_law 245 = .ok (.invokestatic 74, 3) := by decide +kernel
theorem dL_law_248 : decode cL_law 248 = .ok (.invokestatic 125, 3) := by decide +kernel
theorem dL_law_251 : decode cL_law 251 = .ok (.ifCond .eq 44, 3) := by decide +kernel
theorem dL_law_254 : decode cL_law 254 = .ok (.aload_n 1, 1) := by decide +kernel
theorem dL_law_255 : decode cL_law 255 = .ok (.aload_n 2, 1) := by decide +kernel
theorem dL_law_256 : decode cL_law 256 = .ok (.aload_n 3, 1) := by decide +kernel
theorem dL_law_257 : decode cL_law 257 = .ok (.aload 4, 2) := by decide +kernel
theorem dL_law_259 : decode cL_law 259 = .ok (.aload 5, 2) := by decide +kernel
theorem dL_law_261 : decode cL_law 261 = .ok (.aload 6, 2) := by decide +kernel
theorem dL_law_263 : decode cL_law 263 = .ok (.iload 9, 2) := by decide +kernel
theorem dL_law_265 : decode cL_law 265 = .ok (.bipush 7, 2) := by decide +kernel
theorem dL_law_267 : decode cL_law 267 = .ok (.ishr, 1) := by decide +kernel
theorem dL_law_268 : decode cL_law 268 = .ok (.bipush 6, 2) := by decide +kernel
theorem dL_law_270 : decode cL_law 270 = .ok (.invokestatic 74, 3) := by decide +kernel
theorem dL_law_273 : decode cL_law 273 = .ok (.iconst 1, 1) := by decide +kernel
theorem dL_law_274 : decode cL_law 274 = .ok (.iload 9, 2) := by decide +kernel
theorem dL_law_276 : decode cL_law 276 = .ok (.bipush 10, 2) := by decide +kernel
theorem dL_law_278 : decode cL_law 278 = .ok (.ishr, 1) := by decide +kernel
theorem dL_law_279 : decode cL_law 279 = .ok (.bipush 50, 2) := by decide +kernel
theorem dL_law_281 : decode cL_law 281 = .ok (.invokestatic 74, 3) := by decide +kernel
theorem dL_law_284 : decode cL_law 284 = .ok (.iadd, 1) := by decide +kernel
theorem dL_law_285 : decode cL_law 285 = .ok (.invokestatic 129, 3) := by decide +kernel
theorem dL_law_288 : decode cL_law 288 = .ok (.ifCond .eq 7, 3) := by decide +kernel
theorem dL_law_291 : decode cL_law 291 = .ok (.iconst 1, 1) := by decide +kernel
theorem dL_law_292 : decode cL_law 292 = .ok (.goto 4, 3) := by decide +kernel
theorem dL_law_295 : decode cL_law 295 = .ok (.iconst 0, 1) := by decide +kernel
theorem dL_law_296 : decode cL_law 296 = .ok (.istore 7, 2) := by decide +kernel
theorem dL_law_298 : decode cL_law 298 = .ok (.iinc 8 1, 3) := by decide +kernel
theorem dL_law_301 : decode cL_law 301 = .ok (.goto (-163), 3) := by decide +kernel
theorem dL_law_304 : decode cL_law 304 = .ok (.iload 7, 2) := by decide +kernel
theorem dL_law_306 : decode cL_law 306 = .ok (.ireturn, 1) := by decide +kernel
