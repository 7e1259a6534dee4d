theorem dL_isPlanned_36 : decode cL_isPlanned 36 = .ok (.ishl, 1) := by decide +kernel
theorem dL_isPlanned_37 : decode cL_isPlanned 37 = .ok (.invokevirtual 58, 3) := by decide +kernel
theorem dL_isPlanned_40 : decode cL_isPlanned 40 = .ok (.bipush (-2), 2) := by decide +kernel
theorem dL_isPlanned_42 : decode cL_isPlanned 42 = .ok (.if_icmp .ne 17, 3) := by decide +kernel
theorem dL_isPlanned_45 : decode cL_isPlanned 45 = .ok (.aload_n 0, 1) := by decide +kernel
theorem dL_isPlanned_46 : decode cL_isPlanned 46 = .ok (.bipush 6, 2) := by decide +kernel
theorem dL_isPlanned_48 : decode cL_isPlanned 48 = .ok (.invokevirtual 61, 3) := by decide +kernel
theorem dL_isPlanned_51 : decode cL_isPlanned 51 = .ok (.iconst (-1), 1) := by decide +kernel
theorem dL_isPlanned_52 : decode cL_isPlanned 52 = .ok (.if_icmp .ne 7, 3) := by decide +kernel
theorem dL_isPlanned_55 : decode cL_isPlanned 55 = .ok (.iconst 1, 1) := by decide +kernel
theorem dL_isPlanned_56 : decode cL_isPlanned 56 = .ok (.goto 4, 3) := by decide +kernel
theorem dL_isPlanned_59 : decode cL_isPlanned 59 = .ok (.iconst 0, 1) := by decide +kernel
theorem dL_isPlanned_60 : decode cL_isPlanned 60 = .ok (.istore 9, 2) := by decide +kernel
theorem dL_isPlanned_62 : decode cL_isPlanned 62 = .ok (.iconst 1, 1) := by decide +kernel
theorem dL_isPlanned_63 : decode cL_isPlanned 63 = .ok (.aload_n 1, 1) := by decide +kernel
theorem dL_isPlanned_64 : decode cL_isPlanned 64 = .ok (.bipush 9, 2) := by decide +kernel
theorem dL_isPlanned_66 : decode cL_isPlanned 66 = .ok (.iload 5, 2) := by decide +kernel
theorem dL_isPlanned_68 : decode cL_isPlanned 68 = .ok (.imul, 1) := by decide +kernel
theorem dL_isPlanned_69 : decode cL_isPlanned 69 = .ok (.iconst 3, 1) := by decide +kernel
theorem dL_isPlanned_70 : decode cL_isPlanned 70 = .ok (.iadd, 1) := by decide +kernel
theorem dL_isPlanned_71 : decode cL_isPlanned 71 = .ok (.iaload, 1) := by decide +kernel
theorem dL_isPlanned_72 : decode cL_isPlanned 72 = .ok (.ishl, 1) := by decide +kernel
theorem dL_isPlanned_73 : decode cL_isPlanned 73 = .ok (.iconst 1, 1) := by decide +kernel
theorem dL_isPlanned_74 : decode cL_isPlanned 74 = .ok (.isub, 1) := by decide +kernel
theorem dL_isPlanned_75 : decode cL_isPlanned 75 = .ok (.istore 10, 2) := by decide +kernel
theorem dL_isPlanned_77 : decode cL_isPlanned 77 = .ok (.iload 10, 2) := by decide +kernel
theorem dL_isPlanned_79 : decode cL_isPlanned 79 = .ok (.ifCond .lt 151, 3) := by decide +kernel
theorem dL_isPlanned_82 : decode cL_isPlanned 82 = .ok (.aload 6, 2) := by decide +kernel
theorem dL_isPlanned_84 : decode cL_isPlanned 84 = .ok (.iload 5, 2) := by decide +kernel
theorem dL_isPlanned_86 : decode cL_isPlanned 86 = .ok (.aload_n 2, 1) := by decide +kernel
theorem dL_isPlanned_87 : decode cL_isPlanned 87 = .ok (.iload 5, 2) := by decide +kernel
theorem dL_isPlanned_89 : decode cL_isPlanned 89 = .ok (.aload_n 1, 1) := by decide +kernel
theorem dL_isPlanned_90 : decode cL_isPlanned 90 = .ok (.aload_n 2, 1) := by decide +kernel
theorem dL_isPlanned_91 : decode cL_isPlanned 91 = .ok (.aload_n 3, 1) := by decide +kernel
theorem dL_isPlanned_92 : decode cL_isPlanned 92 = .ok (.aload 4, 2) := by decide +kernel
theorem dL_isPlanned_94 : decode cL_isPlanned 94 = .ok (.iload 5, 2) := by decide +kernel
theorem dL_isPlanned_96 : decode cL_isPlanned 96 = .ok (.iload 10, 2) := by decide +kernel
theorem dL_isPlanned_98 : decode cL_isPlanned 98 = .ok (.invokestatic 15, 3) := by decide +kernel
theorem dL_isPlanned_101 : decode cL_isPlanned 101 = .ok (.invokestatic 19, 3) := by decide +kernel
theorem dL_isPlanned_104 : decode cL_isPlanned 104 = .ok (.iastore, 1) := by decide +kernel
theorem dL_isPlanned_105 : decode cL_isPlanned 105 = .ok (.iconst 0, 1) := by decide +kernel
theorem dL_isPlanned_106 : decode cL_isPlanned 106 = .ok (.istore 11, 2) := by decide +kernel
theorem dL_isPlanned_108 : decode cL_isPlanned 108 = .ok (.iconst 0, 1) := by decide +kernel
theorem dL_isPlanned_109 : decode cL_isPlanned 109 = .ok (.istore 12, 2) := by decide +kernel
theorem dL_isPlanned_111 : decode cL_isPlanned 111 = .ok (.iload 12, 2) := by decide +kernel
theorem dL_isPlanned_113 : decode cL_isPlanned 113 = .ok (.bipush 6, 2) := by decide +kernel
theorem dL_isPlanned_115 : decode cL_isPlanned 115 = .ok (.if_icmp .ge 34, 3) := by decide +kernel
theorem dL_isPlanned_118 : decode cL_isPlanned 118 = .ok (.iload 11, 2) := by decide +kernel
theorem dL_isPlanned_120 : decode cL_isPlanned 120 = .ok (.aload_n 1, 1) := by decide +kernel
theorem dL_isPlanned_121 : decode cL_isPlanned 121 = .ok (.aload 4, 2) := by decide +kernel
theorem dL_isPlanned_123 : decode cL_isPlanned 123 = .ok (.aload 6, 2) := by decide +kernel
theorem dL_isPlanned_125 : decode cL_isPlanned 125 = .ok (.iload 12, 2) := by decide +kernel
theorem dL_isPlanned_127 : decode cL_isPlanned 127 = .ok (.invokestatic 27, 3) := by decide +kernel
theorem dL_isPlanned_130 : decode cL_isPlanned 130 = .ok (.iload 5, 2) := by decide +kernel
theorem dL_isPlanned_132 : decode cL_isPlanned 132 = .ok (.if_icmp .ne 7, 3) := by decide +kernel
theorem dL_isPlanned_135 : decode cL_isPlanned 135 = .ok (.iconst 1, 1) := by decide +kernel
theorem dL_isPlanned_136 : decode cL_isPlanned 136 = .ok (.goto 4, 3) := by decide +kernel
theorem dL_isPlanned_139 : decode cL_isPlanned 139 = .ok (.iconst 0, 1) := by decide +kernel
theorem dL_isPlanned_140 : decode cL_isPlanned 140 = .ok (.iadd, 1) := by decide +kernel
theorem dL_isPlanned_141 : decode cL_isPlanned 141 = .ok (.istore 11, 2) := by decide +kernel
theorem dL_isPlanned_143 : decode cL_isPlanned 143 = .ok (.iinc 12 1, 3) := by decide +kernel
theorem dL_isPlanned_146 : decode cL_isPlanned 146 = .ok (.goto (-35), 3) := by decide +kernel
theorem dL_isPlanned_149 : decode cL_isPlanned 149 = .ok (.iload 9, 2) := by decide +kernel
theorem dL_isPlanned_151 : decode cL_isPlanned 151 = .ok (.ifCond .eq 20, 3) := by decide +kernel
theorem dL_isPlanned_154 : decode cL_isPlanned 154 = .ok (.aload_n 0, 1) := by decide +kernel
theorem dL_isPlanned_155 : decode cL_isPlanned 155 = .ok (.iload 5, 2) := by decide +kernel
theorem dL_isPlanned_157 : decode cL_isPlanned 157 = .ok (.iload 10, 2) := by decide +kernel
theorem dL_isPlanned_159 : decode cL_isPlanned 159 = .ok (.invokevirtual 58, 3) := by decide +kernel
theorem dL_isPlanned_162 : decode cL_isPlanned 162 = .ok (.iload 11, 2) := by decide +kernel
theorem dL_isPlanned_164 : decode cL_isPlanned 164 = .ok (.if_icmp .ne 7, 3) := by decide +kernel
theorem dL_isPlanned_167 : decode cL_isPlanned 167 = .ok (.iconst 1, 1) := by decide +kernel
theorem dL_isPlanned_168 : decode cL_isPlanned 168 = .ok (.goto 4, 3) := by decide +kernel
theorem dL_isPlanned_171 : decode cL_isPlanned 171 = .ok (.iconst 0, 1) := by decide +kernel
theorem dL_isPlanned_172 : decode cL_isPlanned 172 = .ok (.istore 9, 2) := by decide +kernel
theorem dL_isPlanned_174 : decode cL_isPlanned 174 = .ok (.bipush 100, 2) := by decide +kernel
theorem dL_isPlanned_176 : decode cL_isPlanned 176 = .ok (.iload 11, 2) := by decide +kernel
theorem dL_isPlanned_178 : decode cL_isPlanned 178 = .ok (.imul, 1) := by decide +kernel
theorem dL_isPlanned_179 : decode cL_isPlanned 179 = .ok (.aload 6, 2) := by decide +kernel
theorem dL_isPlanned_181 : decode cL_isPlanned 181 = .ok (.iload 5, 2) := by decide +kernel
theorem dL_isPlanned_183 : decode cL_isPlanned 183 = .ok (.iaload, 1) := by decide +kernel
theorem dL_isPlanned_184 : decode cL_isPlanned 184 = .ok (.isub, 1) := by decide +kernel
theorem dL_isPlanned_185 : decode cL_isPlanned 185 = .ok (.istore 12, 2) := by decide +kernel
theorem dL_isPlanned_187 : decode cL_isPlanned 187 = .ok (.iload 7, 2) := by decide +kernel
theorem dL_isPlanned_189 : decode cL_isPlanned 189 = .ok (.ifCond .lt 10, 3) := by decide +kernel
theorem dL_isPlanned_192 : decode cL_isPlanned 192 = .ok (.iload 12, 2) := by decide +kernel
theorem dL_isPlanned_194 : decode cL_isPlanned 194 = .ok (.iload 8, 2) := by decide +kernel
theorem dL_isPlanned_196 : decode cL_isPlanned 196 = .ok (.if_icmp .lt 8, 3) := by decide +kernel
theorem dL_isPlanned_199 : decode cL_isPlanned 199 = .ok (.iload 10, 2) := by decide +kernel
theorem dL_isPlanned_201 : decode cL_isPlanned 201 = .ok (.goto 5, 3) := by decide +kernel
theorem dL_isPlanned_204 : decode cL_isPlanned 204 = .ok (.iload 7, 2) := by decide +kernel
theorem dL_isPlanned_206 : decode cL_isPlanned 206 = .ok (.istore 7, 2) := by decide +kernel
theorem dL_isPlanned_208 : decode cL_isPlanned 208 = .ok (.iload 7, 2) := by decide +kernel
theorem dL_isPlanned_210 : decode cL_isPlanned 210 = .ok (.iload 10, 2) := by decide +kernel
theorem dL_isPlanned_212 : decode cL_isPlanned 212 = .ok (.if_icmp .ne 8, 3) := by decide +kernel
theorem dL_isPlanned_215 : decode cL_isPlanned 215 = .ok (.iload 12, 2) := by decide +kernel
theorem dL_isPlanned_217 : decode cL_isPlanned 217 = .ok (.goto 5, 3) := by decide +kernel
theorem dL_isPlanned_220 : decode cL_isPlanned 220 = .ok (.iload 8, 2) := by decide +kernel
theorem dL_isPlanned_222 : decode cL_isPlanned 222 = .ok (.istore 8, 2) := by decide +kernel
theorem dL_isPlanned_224 : decode cL_isPlanned 224 = .ok (.iinc 10 (-1), 3) := by decide +kernel
theorem dL_isPlanned_227 : decode cL_isPlanned 227 = .ok (.goto (-150), 3) := by decide +kernel
theorem dL_isPlanned_230 : decode cL_isPlanned 230 = .ok (.iload 9, 2) := by decide +kernel
theorem dL_isPlanned_232 : decode cL_isPlanned 232 = .ok (.ifCond .eq 18, 3) := by decide +kernel
theorem dL_isPlanned_235 : decode cL_isPlanned 235 = .ok (.aload_n 0, 1) := by decide +kernel
theorem dL_isPlanned_236 : decode cL_isPlanned 236 = .ok (.iload 5, 2) := by decide +kernel
theorem dL_isPlanned_238 : decode cL_isPlanned 238 = .ok (.invokevirtual 61, 3) := by decide +kernel
theorem dL_isPlanned_241 : decode cL_isPlanned 241 = .ok (.iload 7, 2) := by decide +kernel
theorem dL_isPlanned_243 : decode cL_isPlanned 243 = .ok (.if_icmp .ne 7, 3) := by decide +kernel
theorem dL_isPlanned_246 : decode cL_isPlanned 246 = .ok (.iconst 1, 1) := by decide +kernel
theorem dL_isPlanned_247 : decode cL_isPlanned 247 = .ok (.goto 4, 3) := by decide +kernel
theorem dL_isPlanned_250 : decode cL_isPlanned 250 = .ok (.iconst 0, 1) := by decide +kernel
theorem dL_isPlanned_251 : decode cL_isPlanned 251 = .ok (.ireturn, 1) := by decide +kernel
theorem dL_copy_0 : decode cL_copy 0 = .ok (.iconst 0, 1) := by decide +kernel
theorem dL_copy_1 : decode cL_copy 1 = .ok (.istore_n 2, 1) := by decide +kernel
theorem dL_copy_2 : decode cL_copy 2 = .ok (.iload_n 2, 1) := by decide +kernel
theorem dL_copy_3 : decode cL_copy 3 = .ok (.aload_n 0, 1) := by decide +kernel
theorem dL_copy_4 : decode cL_copy 4 = .ok (.arraylength, 1) := by decide +kernel
theorem dL_copy_5 : decode cL_copy 5 = .ok (.if_icmp .ge 15, 3) := by decide +kernel
theorem dL_copy_8 : decode cL_copy 8 = .ok (.aload_n 1, 1) := by decide +kernel
theorem dL_copy_9 : decode cL_copy 9 = .ok (.iload_n 2, 1) := by decide +kernel
theorem dL_copy_10 : decode cL_copy 10 = .ok (.aload_n 0, 1) := by decide +kernel
theorem dL_copy_11 : decode cL_copy 11 = .ok (.iload_n 2, 1) := by decide +kernel
theorem dL_copy_12 : decode cL_copy 12 = .ok (.iaload, 1) := by decide +kernel
theorem dL_copy_13 : decode cL_copy 13 = .ok (.iastore, 1) := by decide +kernel
theorem dL_copy_14 : decode cL_copy 14 = .ok (.iinc 2 1, 3) := by decide +kernel
theorem dL_copy_17 : decode cL_copy 17 = .ok (.goto (-15), 3) := by decide +kernel
theorem dL_copy_20 : decode cL_copy 20 = .ok (.return_, 1) := by decide +kernel
theorem dL_would_0 : decode cL_would 0 = .ok (.bipush 54, 2) := by decide +kernel
theorem dL_would_2 : decode cL_would 2 = .ok (.newarray .int, 2) := by decide +kernel
theorem dL_would_4 : decode cL_would 4 = .ok (.astore 8, 2) := by decide +kernel
theorem dL_would_6 : decode cL_would 6 = .ok (.bipush 30, 2) := by decide +kernel
theorem dL_would_8 : decode cL_would 8 = .ok (.newarray .int, 2) := by decide +kernel
theorem dL_would_10 : decode cL_would 10 = .ok (.astore 9, 2) := by decide +kernel
theorem dL_would_12 : decode cL_would 12 = .ok (.bipush 30, 2) := by decide +kernel
theorem dL_would_14 : decode cL_would 14 = .ok (.newarray .int, 2) := by decide +kernel
theorem dL_would_16 : decode cL_would 16 = .ok (.astore 10, 2) := by decide +kernel
theorem dL_would_18 : decode cL_would 18 = .ok (.iconst 5, 1) := by decide +kernel
theorem dL_would_19 : decode cL_would 19 = .ok (.newarray .int, 2) := by decide +kernel
theorem dL_would_21 : decode cL_would 21 = .ok (.astore 11, 2) := by decide +kernel
theorem dL_would_23 : decode cL_would 23 = .ok (.aload_n 1, 1) := by decide +kernel
theorem dL_would_24 : decode cL_would 24 = .ok (.aload 8, 2) := by decide +kernel
theorem dL_would_26 : decode cL_would 26 = .ok (.invokestatic 64, 3) := by decide +kernel
theorem dL_would_29 : decode cL_would 29 = .ok (.aload_n 3, 1) := by decide +kernel
theorem dL_would_30 : decode cL_would 30 = .ok (.aload 9, 2) := by decide +kernel
theorem dL_would_32 : decode cL_would 32 = .ok (.invokestatic 64, 3) := by decide +kernel
theorem dL_would_35 : decode cL_would 35 = .ok (.aload 4, 2) := by decide +kernel
theorem dL_would_37 : decode cL_would 37 = .ok (.aload 10, 2) := by decide +kernel
theorem dL_would_39 : decode cL_would 39 = .ok (.invokestatic 64, 3) := by decide +kernel
theorem dL_would_42 : decode cL_would 42 = .ok (.aload 5, 2) := by decide +kernel
theorem dL_would_44 : decode cL_would 44 = .ok (.aload 11, 2) := by decide +kernel
theorem dL_would_46 : decode cL_would 46 = .ok (.invokestatic 64, 3) := by decide +kernel
theorem dL_would_49 : decode cL_would 49 = .ok (.iconst 0, 1) := by decide +kernel
theorem dL_would_50 : decode cL_would 50 = .ok (.istore 12, 2) := by decide +kernel
theorem dL_would_52 : decode cL_would 52 = .ok (.iload 12, 2) := by decide +kernel
theorem dL_would_54 : decode cL_would 54 = .ok (.iload 7, 2) := by decide +kernel
theorem dL_would_56 : decode cL_would 56 = .ok (.if_icmp .ge 21, 3) := by decide +kernel
theorem dL_would_59 : decode cL_would 59 = .ok (.aload 8, 2) := by decide +kernel
theorem dL_would_61 : decode cL_would 61 = .ok (.aload_n 2, 1) := by decide +kernel
theorem dL_would_62 : decode cL_would 62 = .ok (.aload 9, 2) := by decide +kernel
theorem dL_would_64 : decode cL_would 64 = .ok (.aload 10, 2) := by decide +kernel
theorem dL_would_66 : decode cL_would 66 = .ok (.aload 11, 2) := by decide +kernel
theorem dL_would_68 : decode cL_would 68 = .ok (.invokestatic 68, 3) := by decide +kernel
theorem dL_would_71 : decode cL_would 71 = .ok (.iinc 12 1, 3) := by decide +kernel
theorem dL_would_74 : decode cL_would 74 = .ok (.goto (-22), 3) := by decide +kernel
theorem dL_would_77 : decode cL_would 77 = .ok (.aload_n 0, 1) := by decide +kernel
theorem dL_would_78 : decode cL_would 78 = .ok (.iload 6, 2) := by decide +kernel
theorem dL_would_80 : decode cL_would 80 = .ok (.iload 7, 2) := by decide +kernel
theorem dL_would_82 : decode cL_would 82 = .ok (.invokevirtual 71, 3) := by decide +kernel
theorem dL_would_85 : decode cL_would 85 = .ok (.aload 8, 2) := by decide +kernel
theorem dL_would_87 : decode cL_would 87 = .ok (.bipush 9, 2) := by decide +kernel
theorem dL_would_89 : decode cL_would 89 = .ok (.iload 6, 2) := by decide +kernel
theorem dL_would_91 : decode cL_would 91 = .ok (.imul, 1) := by decide +kernel
theorem dL_would_92 : decode cL_would 92 = .ok (.bipush 7, 2) := by decide +kernel
theorem dL_would_94 : decode cL_would 94 = .ok (.iadd, 1) := by decide +kernel
theorem dL_would_95 : decode cL_would 95 = .ok (.iaload, 1) := by decide +kernel
theorem dL_would_96 : decode cL_would 96 = .ok (.if_icmp .ne 7, 3) := by decide +kernel
theorem dL_would_99 : decode cL_would 99 = .ok (.iconst 1, 1) := by decide +kernel
theorem dL_would_100 : decode cL_would 100 = .ok (.goto 4, 3) := by decide +kernel
theorem dL_would_103 : decode cL_would 103 = .ok (.iconst 0, 1) := by decide +kernel
theorem dL_would_104 : decode cL_would 104 = .ok (.ireturn, 1) := by decide +kernel
theorem dL_bells_0 : decode cL_bells 0 = .ok (.aload_n 1, 1) := by decide +kernel
theorem dL_bells_1 : decode cL_bells 1 = .ok (.bipush 9, 2) := by decide +kernel
theorem dL_bells_3 : decode cL_bells 3 = .ok (.iload 5, 2) := by decide +kernel
theorem dL_bells_5 : decode cL_bells 5 = .ok (.imul, 1) := by decide +kernel
theorem dL_bells_6 : decode cL_bells 6 = .ok (.iconst 3, 1) := by decide +kernel
theorem dL_bells_7 : decode cL_bells 7 = .ok (.iadd, 1) := by decide +kernel
theorem dL_bells_8 : decode cL_bells 8 = .ok (.iaload, 1) := by decide +kernel
theorem dL_bells_9 : decode cL_bells 9 = .ok (.istore 8, 2) := by decide +kernel
theorem dL_bells_11 : decode cL_bells 11 = .ok (.iload 6, 2) := by decide +kernel
theorem dL_bells_13 : decode cL_bells 13 = .ok (.ifCond .ne 103, 3) := by decide +kernel
theorem dL_bells_16 : decode cL_bells 16 = .ok (.iconst 1, 1) := by decide +kernel
theorem dL_bells_17 : decode cL_bells 17 = .ok (.iload 7, 2) := by decide +kernel
theorem dL_bells_19 : decode cL_bells 19 = .ok (.bipush 9, 2) := by decide +kernel
theorem dL_bells_21 : decode cL_bells 21 = .ok (.invokestatic 74, 3) := by decide +kernel
theorem dL_bells_24 : decode cL_bells 24 = .ok (.iadd, 1) := by decide +kernel
theorem dL_bells_25 : decode cL_bells 25 = .ok (.istore 9, 2) := by decide +kernel
theorem dL_bells_27 : decode cL_bells 27 = .ok (.iload 8, 2) := by decide +kernel
theorem dL_bells_29 : decode cL_bells 29 = .ok (.iconst 5, 1) := by decide +kernel
theorem dL_bells_30 : decode cL_bells 30 = .ok (.if_icmp .ne 22, 3) := by decide +kernel
theorem dL_bells_33 : decode cL_bells 33 = .ok (.aload_n 0, 1) := by decide +kernel
theorem dL_bells_34 : decode cL_bells 34 = .ok (.iload 5, 2) := by decide +kernel
theorem dL_bells_36 : decode cL_bells 36 = .ok (.iload 9, 2) := by decide +kernel
theorem dL_bells_38 : decode cL_bells 38 = .ok (.invokevirtual 77, 3) := by decide +kernel
theorem dL_bells_41 : decode cL_bells 41 = .ok (.bipush (-3), 2) := by decide +kernel
theorem dL_bells_43 : decode cL_bells 43 = .ok (.if_icmp .ne 7, 3) := by decide +kernel
theorem dL_bells_46 : decode cL_bells 46 = .ok (.iconst 1, 1) := by decide +kernel
theorem dL_bells_47 : decode cL_bells 47 = .ok (.goto 4, 3) := by decide +kernel
theorem dL_bells_50 : decode cL_bells 50 = .ok (.iconst 0, 1) := by decide +kernel
theorem dL_bells_51 : decode cL_bells 51 = .ok (.ireturn, 1) := by decide +kernel
theorem dL_bells_52 : decode cL_bells 52 = .ok (.aload_n 2, 1) := by decide +kernel
theorem dL_bells_53 : decode cL_bells 53 = .ok (.iconst 5, 1) := by decide +kernel
theorem dL_bells_54 : decode cL_bells 54 = .ok (.iload 5, 2) := by decide +kernel
theorem dL_bells_56 : decode cL_bells 56 = .ok (.imul, 1) := by decide +kernel
theorem dL_bells_57 : decode cL_bells 57 = .ok (.iload 8, 2) := by decide +kernel
theorem dL_bells_59 : decode cL_bells 59 = .ok (.iadd, 1) := by decide +kernel
theorem dL_bells_60 : decode cL_bells 60 = .ok (.iload 9, 2) := by decide +kernel
theorem dL_bells_62 : decode cL_bells 62 = .ok (.iastore, 1) := by decide +kernel
theorem dL_bells_63 : decode cL_bells 63 = .ok (.aload_n 3, 1) := by decide +kernel
theorem dL_bells_64 : decode cL_bells 64 = .ok (.iconst 5, 1) := by decide +kernel
theorem dL_bells_65 : decode cL_bells 65 = .ok (.iload 5, 2) := by decide +kernel
theorem dL_bells_67 : decode cL_bells 67 = .ok (.imul, 1) := by decide +kernel
theorem dL_bells_68 : decode cL_bells 68 = .ok (.iload 8, 2) := by decide +kernel
theorem dL_bells_70 : decode cL_bells 70 = .ok (.iadd, 1) := by decide +kernel
theorem dL_bells_71 : decode cL_bells 71 = .ok (.iconst 0, 1) := by decide +kernel
theorem dL_bells_72 : decode cL_bells 72 = .ok (.iastore, 1) := by decide +kernel
theorem dL_bells_73 : decode cL_bells 73 = .ok (.aload 4, 2) := by decide +kernel
theorem dL_bells_75 : decode cL_bells 75 = .ok (.iconst 5, 1) := by decide +kernel
theorem dL_bells_76 : decode cL_bells 76 = .ok (.iload 5, 2) := by decide +kernel
theorem dL_bells_78 : decode cL_bells 78 = .ok (.imul, 1) := by decide +kernel
theorem dL_bells_79 : decode cL_bells 79 = .ok (.iload 8, 2) := by decide +kernel
theorem dL_bells_81 : decode cL_bells 81 = .ok (.iadd, 1) := by decide +kernel
theorem dL_bells_82 : decode cL_bells 82 = .ok (.iconst 0, 1) := by decide +kernel
theorem dL_bells_83 : decode cL_bells 83 = .ok (.iastore, 1) := by decide +kernel
theorem dL_bells_84 : decode cL_bells 84 = .ok (.aload_n 1, 1) := by decide +kernel
theorem dL_bells_85 : decode cL_bells 85 = .ok (.bipush 9, 2) := by decide +kernel
theorem dL_bells_87 : decode cL_bells 87 = .ok (.iload 5, 2) := by decide +kernel
theorem dL_bells_89 : decode cL_bells 89 = .ok (.imul, 1) := by decide +kernel
theorem dL_bells_90 : decode cL_bells 90 = .ok (.iconst 3, 1) := by decide +kernel
theorem dL_bells_91 : decode cL_bells 91 = .ok (.iadd, 1) := by decide +kernel
theorem dL_bells_92 : decode cL_bells 92 = .ok (.dup2, 1) := by decide +kernel
theorem dL_bells_93 : decode cL_bells 93 = .ok (.iaload, 1) := by decide +kernel
theorem dL_bells_94 : decode cL_bells 94 = .ok (.iconst 1, 1) := by decide +kernel
theorem dL_bells_95 : decode cL_bells 95 = .ok (.iadd, 1) := by decide +kernel
theorem dL_bells_96 : decode cL_bells 96 = .ok (.iastore, 1) := by decide +kernel
theorem dL_bells_97 : decode cL_bells 97 = .ok (.aload_n 0, 1) := by decide +kernel
theorem dL_bells_98 : decode cL_bells 98 = .ok (.iload 5, 2) := by decide +kernel
theorem dL_bells_100 : decode cL_bells 100 = .ok (.iload 9, 2) := by decide +kernel
theorem dL_bells_102 : decode cL_bells 102 = .ok (.invokevirtual 77, 3) := by decide +kernel
theorem dL_bells_105 : decode cL_bells 105 = .ok (.iload 8, 2) := by decide +kernel
theorem dL_bells_107 : decode cL_bells 107 = .ok (.if_icmp .ne 7, 3) := by decide +kernel
theorem dL_bells_110 : decode cL_bells 110 = .ok (.iconst 1, 1) := by decide +kernel
theorem dL_bells_111 : decode cL_bells 111 = .ok (.goto 4, 3) := by decide +kernel
theorem dL_bells_114 : decode cL_bells 114 = .ok (.iconst 0, 1) := by decide +kernel
theorem dL_bells_115 : decode cL_bells 115 = .ok (.ireturn, 1) := by decide +kernel
theorem dL_bells_116 : decode cL_bells 116 = .ok (.iload 7, 2) := by decide +kernel
theorem dL_bells_118 : decode cL_bells 118 = .ok (.iconst 5, 1) := by decide +kernel
theorem dL_bells_119 : decode cL_bells 119 = .ok (.invokestatic 74, 3) := by decide +kernel
theorem dL_bells_122 : decode cL_bells 122 = .ok (.istore 9, 2) := by decide +kernel
theorem dL_bells_124 : decode cL_bells 124 = .ok (.iload 9, 2) := by decide +kernel
theorem dL_bells_126 : decode cL_bells 126 = .ok (.iload 8, 2) := by decide +kernel
theorem dL_bells_128 : decode cL_bells 128 = .ok (.if_icmp .lt 33, 3) := by decide +kernel
theorem dL_bells_131 : decode cL_bells 131 = .ok (.aload_n 0, 1) := by decide +kernel
theorem dL_bells_132 : decode cL_bells 132 = .ok (.iload 5, 2) := by decide +kernel
theorem dL_bells_134 : decode cL_bells 134 = .ok (.iload 9, 2) := by decide +kernel
theorem dL_bells_136 : decode cL_bells 136 = .ok (.invokevirtual 80, 3) := by decide +kernel
theorem dL_bells_139 : decode cL_bells 139 = .ok (.iconst (-1), 1) := by decide +kernel
theorem dL_bells_140 : decode cL_bells 140 = .ok (.if_icmp .ne 19, 3) := by decide +kernel
theorem dL_bells_143 : decode cL_bells 143 = .ok (.aload_n 0, 1) := by decide +kernel
theorem dL_bells_144 : decode cL_bells 144 = .ok (.iload 5, 2) := by decide +kernel
theorem dL_bells_146 : decode cL_bells 146 = .ok (.iload 9, 2) := by decide +kernel
theorem dL_bells_148 : decode cL_bells 148 = .ok (.invokevirtual 83, 3) := by decide +kernel
theorem dL_bells_151 : decode cL_bells 151 = .ok (.iconst (-1), 1) := by decide +kernel
theorem dL_bells_152 : decode cL_bells 152 = .ok (.if_icmp .ne 7, 3) := by decide +kernel
theorem dL_bells_155 : decode cL_bells 155 = .ok (.iconst 1, 1) := by decide +kernel
theorem dL_bells_156 : decode cL_bells 156 = .ok (.goto 4, 3) := by decide +kernel
theorem dL_bells_159 : decode cL_bells 159 = .ok (.iconst 0, 1) := by decide +kernel
theorem dL_bells_160 : decode cL_bells 160 = .ok (.ireturn, 1) := by decide +kernel
theorem dL_bells_161 : decode cL_bells 161 = .ok (.iload 6, 2) := by decide +kernel
theorem dL_bells_163 : decode cL_bells 163 = .ok (.iconst 1, 1) := by decide +kernel
theorem dL_bells_164 : decode cL_bells 164 = .ok (.if_icmp .ne 120, 3) := by decide +kernel
theorem dL_bells_167 : decode cL_bells 167 = .ok (.aload_n 3, 1) := by decide +kernel
theorem dL_bells_168 : decode cL_bells 168 = .ok (.iconst 5, 1) := by decide +kernel
theorem dL_bells_169 : decode cL_bells 169 = .ok (.iload 5, 2) := by decide +kernel
theorem dL_bells_171 : decode cL_bells 171 = .ok (.imul, 1) := by decide +kernel
theorem dL_bells_172 : decode cL_bells 172 = .ok (.iload 9, 2) := by decide +kernel
theorem dL_bells_174 : decode cL_bells 174 = .ok (.iadd, 1) := by decide +kernel
theorem dL_bells_175 : decode cL_bells 175 = .ok (.iaload, 1) := by decide +kernel
theorem dL_bells_176 : decode cL_bells 176 = .ok (.istore 10, 2) := by decide +kernel
theorem dL_bells_178 : decode cL_bells 178 = .ok (.iload 10, 2) := by decide +kernel
theorem dL_bells_180 : decode cL_bells 180 = .ok (.ifCond .le 30, 3) := by decide +kernel
theorem dL_bells_183 : decode cL_bells 183 = .ok (.aload_n 1, 1) := by decide +kernel
theorem dL_bells_184 : decode cL_bells 184 = .ok (.bipush 9, 2) := by decide +kernel
theorem dL_bells_186 : decode cL_bells 186 = .ok (.iload 5, 2) := by decide +kernel
theorem dL_bells_188 : decode cL_bells 188 = .ok (.imul, 1) := by decide +kernel
theorem dL_bells_189 : decode cL_bells 189 = .ok (.iconst 1, 1) := by decide +kernel
theorem dL_bells_190 : decode cL_bells 190 = .ok (.iadd, 1) := by decide +kernel
theorem dL_bells_191 : decode cL_bells 191 = .ok (.iaload, 1) := by decide +kernel
theorem dL_bells_192 : decode cL_bells 192 = .ok (.aload_n 1, 1) := by decide +kernel
theorem dL_bells_193 : decode cL_bells 193 = .ok (.bipush 9, 2) := by decide +kernel
theorem dL_bells_195 : decode cL_bells 195 = .ok (.iload 5, 2) := by decide +kernel
theorem dL_bells_197 : decode cL_bells 197 = .ok (.imul, 1) := by decide +kernel
theorem dL_bells_198 : decode cL_bells 198 = .ok (.iconst 2, 1) := by decide +kernel
theorem dL_bells_199 : decode cL_bells 199 = .ok (.iadd, 1) := by decide +kernel
theorem dL_bells_200 : decode cL_bells 200 = .ok (.iaload, 1) := by decide +kernel
theorem dL_bells_201 : decode cL_bells 201 = .ok (.iconst 2, 1) := by decide +kernel
theorem dL_bells_202 : decode cL_bells 202 = .ok (.iadd, 1) := by decide +kernel
theorem dL_bells_203 : decode cL_bells 203 = .ok (.if_icmp .lt 7, 3) := by decide +kernel
theorem dL_bells_206 : decode cL_bells 206 = .ok (.iconst 1, 1) := by decide +kernel
theorem dL_bells_207 : decode cL_bells 207 = .ok (.goto 4, 3) := by decide +kernel
theorem dL_bells_210 : decode cL_bells 210 = .ok (.iconst 0, 1) := by decide +kernel
theorem dL_bells_211 : decode cL_bells 211 = .ok (.istore 11, 2) := by decide +kernel
theorem dL_bells_213 : decode cL_bells 213 = .ok (.aload_n 3, 1) := by decide +kernel
theorem dL_bells_214 : decode cL_bells 214 = .ok (.iconst 5, 1) := by decide +kernel
theorem dL_bells_215 : decode cL_bells 215 = .ok (.iload 5, 2) := by decide +kernel
theorem dL_bells_217 : decode cL_bells 217 = .ok (.imul, 1) := by decide +kernel
theorem dL_bells_218 : decode cL_bells 218 = .ok (.iload 9, 2) := by decide +kernel
theorem dL_bells_220 : decode cL_bells 220 = .ok (.iadd, 1) := by decide +kernel
theorem dL_bells_221 : decode cL_bells 221 = .ok (.iload 11, 2) := by decide +kernel
theorem dL_bells_223 : decode cL_bells 223 = .ok (.ifCond .eq 7, 3) := by decide +kernel
theorem dL_bells_226 : decode cL_bells 226 = .ok (.iconst 0, 1) := by decide +kernel
theorem dL_bells_227 : decode cL_bells 227 = .ok (.goto 5, 3) := by decide +kernel
theorem dL_bells_230 : decode cL_bells 230 = .ok (.iload 10, 2) := by decide +kernel
theorem dL_bells_232 : decode cL_bells 232 = .ok (.iastore, 1) := by decide +kernel
theorem dL_bells_233 : decode cL_bells 233 = .ok (.aload_n 1, 1) := by decide +kernel
theorem dL_bells_234 : decode cL_bells 234 = .ok (.bipush 9, 2) := by decide +kernel
theorem dL_bells_236 : decode cL_bells 236 = .ok (.iload 5, 2) := by decide +kernel
theorem dL_bells_238 : decode cL_bells 238 = .ok (.imul, 1) := by decide +kernel
theorem dL_bells_239 : decode cL_bells 239 = .ok (.iconst 2, 1) := by decide +kernel
theorem dL_bells_240 : decode cL_bells 240 = .ok (.iadd, 1) := by decide +kernel
theorem dL_bells_241 : decode cL_bells 241 = .ok (.dup2, 1) := by decide +kernel
theorem dL_bells_242 : decode cL_bells 242 = .ok (.iaload, 1) := by decide +kernel
theorem dL_bells_243 : decode cL_bells 243 = .ok (.iload 11, 2) := by decide +kernel
theorem dL_bells_245 : decode cL_bells 245 = .ok (.ifCond .eq 7, 3) := by decide +kernel
theorem dL_bells_248 : decode cL_bells 248 = .ok (.iconst 2, 1) := by decide +kernel
theorem dL_bells_249 : decode cL_bells 249 = .ok (.goto 4, 3) := by decide +kernel
theorem dL_bells_252 : decode cL_bells 252 = .ok (.iconst 0, 1) := by decide +kernel
theorem dL_bells_253 : decode cL_bells 253 = .ok (.iadd, 1) := by decide +kernel
theorem dL_bells_254 : decode cL_bells 254 = .ok (.iastore, 1) := by decide +kernel
theorem dL_bells_255 : decode cL_bells 255 = .ok (.aload_n 0, 1) := by decide +kernel
theorem dL_bells_256 : decode cL_bells 256 = .ok (.iload 5, 2) := by decide +kernel
theorem dL_bells_258 : decode cL_bells 258 = .ok (.iload 9, 2) := by decide +kernel
theorem dL_bells_260 : decode cL_bells 260 = .ok (.invokevirtual 83, 3) := by decide +kernel
theorem dL_bells_263 : decode cL_bells 263 = .ok (.iload 11, 2) := by decide +kernel
theorem dL_bells_265 : decode cL_bells 265 = .ok (.ifCond .eq 8, 3) := by decide +kernel
theorem dL_bells_268 : decode cL_bells 268 = .ok (.iload 10, 2) := by decide +kernel
theorem dL_bells_270 : decode cL_bells 270 = .ok (.goto 5, 3) := by decide +kernel
theorem dL_bells_273 : decode cL_bells 273 = .ok (.bipush (-4), 2) := by decide +kernel
theorem dL_bells_275 : decode cL_bells 275 = .ok (.if_icmp .ne 7, 3) := by decide +kernel
theorem dL_bells_278 : decode cL_bells 278 = .ok (.iconst 1, 1) := by decide +kernel
theorem dL_bells_279 : decode cL_bells 279 = .ok (.goto 4, 3) := by decide +kernel
theorem dL_bells_282 : decode cL_bells 282 = .ok (.iconst 0, 1) := by decide +kernel
theorem dL_bells_283 : decode cL_bells 283 = .ok (.ireturn, 1) := by decide +kernel
theorem dL_bells_284 : decode cL_bells 284 = .ok (.aload_n 2, 1) := by decide +kernel
theorem dL_bells_285 : decode cL_bells 285 = .ok (.iconst 5, 1) := by decide +kernel
theorem dL_bells_286 : decode cL_bells 286 = .ok (.iload 5, 2) := by decide +kernel
theorem dL_bells_288 : decode cL_bells 288 = .ok (.imul, 1) := by decide +kernel
theorem dL_bells_289 : decode cL_bells 289 = .ok (.iload 9, 2) := by decide +kernel
theorem dL_bells_291 : decode cL_bells 291 = .ok (.iadd, 1) := by decide +kernel
theorem dL_bells_292 : decode cL_bells 292 = .ok (.iaload, 1) := by decide +kernel
theorem dL_bells_293 : decode cL_bells 293 = .ok (.istore 10, 2) := by decide +kernel
theorem dL_bells_295 : decode cL_bells 295 = .ok (.iconst 0, 1) := by decide +kernel
theorem dL_bells_296 : decode cL_bells 296 = .ok (.istore 11, 2) := by decide +kernel
theorem dL_bells_298 : decode cL_bells 298 = .ok (.iconst 0, 1) := by decide +kernel
theorem dL_bells_299 : decode cL_bells 299 = .ok (.istore 12, 2) := by decide +kernel
theorem dL_bells_301 : decode cL_bells 301 = .ok (.iload 12, 2) := by decide +kernel
theorem dL_bells_303 : decode cL_bells 303 = .ok (.iload 8, 2) := by decide +kernel
theorem dL_bells_305 : decode cL_bells 305 = .ok (.if_icmp .ge 56, 3) := by decide +kernel
theorem dL_bells_308 : decode cL_bells 308 = .ok (.iload 11, 2) := by decide +kernel
theorem dL_bells_310 : decode cL_bells 310 = .ok (.iload 12, 2) := by decide +kernel
theorem dL_bells_312 : decode cL_bells 312 = .ok (.iload 9, 2) := by decide +kernel
theorem dL_bells_314 : decode cL_bells 314 = .ok (.if_icmp .ne 7, 3) := by decide +kernel
theorem dL_bells_317 : decode cL_bells 317 = .ok (.iconst 0, 1) := by decide +kernel
theorem dL_bells_318 : decode cL_bells 318 = .ok (.goto 34, 3) := by decide +kernel
theorem dL_bells_321 : decode cL_bells 321 = .ok (.aload_n 1, 1) := by decide +kernel
theorem dL_bells_322 : decode cL_bells 322 = .ok (.bipush 9, 2) := by decide +kernel
theorem dL_bells_324 : decode cL_bells 324 = .ok (.iload 5, 2) := by decide +kernel
theorem dL_bells_326 : decode cL_bells 326 = .ok (.imul, 1) := by decide +kernel
theorem dL_bells_327 : decode cL_bells 327 = .ok (.iconst 4, 1) := by decide +kernel
theorem dL_bells_328 : decode cL_bells 328 = .ok (.iadd, 1) := by decide +kernel
theorem dL_bells_329 : decode cL_bells 329 = .ok (.iaload, 1) := by decide +kernel
theorem dL_bells_330 : decode cL_bells 330 = .ok (.iload 12, 2) := by decide +kernel
theorem dL_bells_332 : decode cL_bells 332 = .ok (.ishr, 1) := by decide +kernel
theorem dL_bells_333 : decode cL_bells 333 = .ok (.iconst 1, 1) := by decide +kernel
theorem dL_bells_334 : decode cL_bells 334 = .ok (.iand, 1) := by decide +kernel
theorem dL_bells_335 : decode cL_bells 335 = .ok (.iload 12, 2) := by decide +kernel
theorem dL_bells_337 : decode cL_bells 337 = .ok (.iload 9, 2) := by decide +kernel
theorem dL_bells_339 : decode cL_bells 339 = .ok (.if_icmp .ge 8, 3) := by decide +kernel
theorem dL_bells_342 : decode cL_bells 342 = .ok (.iload 12, 2) := by decide +kernel
theorem dL_bells_344 : decode cL_bells 344 = .ok (.goto 7, 3) := by decide +kernel
theorem dL_bells_347 : decode cL_bells 347 = .ok (.iload 12, 2) := by decide +kernel
theorem dL_bells_349 : decode cL_bells 349 = .ok (.iconst 1, 1) := by decide +kernel
theorem dL_bells_350 : decode cL_bells 350 = .ok (.isub, 1) := by decide +kernel
theorem dL_bells_351 : decode cL_bells 351 = .ok (.ishl, 1) := by decide +kernel
theorem dL_bells_352 : decode cL_bells 352 = .ok (.iadd, 1) := by decide +kernel
theorem dL_bells_353 : decode cL_bells 353 = .ok (.istore 11, 2) := by decide +kernel
theorem dL_bells_355 : decode cL_bells 355 = .ok (.iinc 12 1, 3) := by decide +kernel
theorem dL_bells_358 : decode cL_bells 358 = .ok (.goto (-57), 3) := by decide +kernel
theorem dL_bells_361 : decode cL_bells 361 = .ok (.iload 9, 2) := by decide +kernel
theorem dL_bells_363 : decode cL_bells 363 = .ok (.istore 12, 2) := by decide +kernel
theorem dL_bells_365 : decode cL_bells 365 = .ok (.iload 12, 2) := by decide +kernel
theorem dL_bells_367 : decode cL_bells 367 = .ok (.iconst 5, 1) := by decide +kernel
theorem dL_bells_368 : decode cL_bells 368 = .ok (.if_icmp .ge 101, 3) := by decide +kernel
theorem dL_bells_371 : decode cL_bells 371 = .ok (.aload_n 2, 1) := by decide +kernel
theorem dL_bells_372 : decode cL_bells 372 = .ok (.iconst 5, 1) := by decide +kernel
theorem dL_bells_373 : decode cL_bells 373 = .ok (.iload 5, 2) := by decide +kernel
theorem dL_bells_375 : decode cL_bells 375 = .ok (.imul, 1) := by decide +kernel
theorem dL_bells_376 : decode cL_bells 376 = .ok (.iload 12, 2) := by decide +kernel
theorem dL_bells_378 : decode cL_bells 378 = .ok (.iadd, 1) := by decide +kernel
theorem dL_bells_379 : decode cL_bells 379 = .ok (.iload 12, 2) := by decide +kernel
theorem dL_bells_381 : decode cL_bells 381 = .ok (.iconst 4, 1) := by decide +kernel
theorem dL_bells_382 : decode cL_bells 382 = .ok (.if_icmp .ge 17, 3) := by decide +kernel
theorem dL_bells_385 : decode cL_bells 385 = .ok (.aload_n 2, 1) := by decide +kernel
theorem dL_bells_386 : decode cL_bells 386 = .ok (.iconst 5, 1) := by decide +kernel
theorem dL_bells_387 : decode cL_bells 387 = .ok (.iload 5, 2) := by decide +kernel
theorem dL_bells_389 : decode cL_bells 389 = .ok (.imul, 1) := by decide +kernel
theorem dL_bells_390 : decode cL_bells 390 = .ok (.iload 12, 2) := by decide +kernel
theorem dL_bells_392 : decode cL_bells 392 = .ok (.iadd, 1) := by decide +kernel
theorem dL_bells_393 : decode cL_bells 393 = .ok (.iconst 1, 1) := by decide +kernel
theorem dL_bells_394 : decode cL_bells 394 = .ok (.iadd, 1) := by decide +kernel
theorem dL_bells_395 : decode cL_bells 395 = .ok (.iaload, 1) := by decide +kernel
theorem dL_bells_396 : decode cL_bells 396 = .ok (.goto 4, 3) := by decide +kernel
theorem dL_bells_399 : decode cL_bells 399 = .ok (.iconst 0, 1) := by decide +kernel
theorem dL_bells_400 : decode cL_bells 400 = .ok (.iastore, 1) := by decide +kernel
theorem dL_bells_401 : decode cL_bells 401 = .ok (.aload_n 3, 1) := by decide +kernel
theorem dL_bells_402 : decode cL_bells 402 = .ok (.iconst 5, 1) := by decide +kernel
theorem dL_bells_403 : decode cL_bells 403 = .ok (.iload 5, 2) := by decide +kernel
theorem dL_bells_405 : decode cL_bells 405 = .ok (.imul, 1) := by decide +kernel
theorem dL_bells_406 : decode cL_bells 406 = .ok (.iload 12, 2) := by decide +kernel
theorem dL_bells_408 : decode cL_bells 408 = .ok (.iadd, 1) := by decide +kernel
theorem dL_bells_409 : decode cL_bells 409 = .ok (.iload 12, 2) := by decide +kernel
theorem dL_bells_411 : decode cL_bells 411 = .ok (.iconst 4, 1) := by decide +kernel
theorem dL_bells_412 : decode cL_bells 412 = .ok (.if_icmp .ge 17, 3) := by decide +kernel
theorem dL_bells_415 : decode cL_bells 415 = .ok (.aload_n 3, 1) := by decide +kernel
theorem dL_bells_416 : decode cL_bells 416 = .ok (.iconst 5, 1) := by decide +kernel
theorem dL_bells_417 : decode cL_bells 417 = .ok (.iload 5, 2) := by decide +kernel
theorem dL_bells_419 : decode cL_bells 419 = .ok (.imul, 1) := by decide +kernel
theorem dL_bells_420 : decode cL_bells 420 = .ok (.iload 12, 2) := by decide +kernel
theorem dL_bells_422 : decode cL_bells 422 = .ok (.iadd, 1) := by decide +kernel
theorem dL_bells_423 : decode cL_bells 423 = .ok (.iconst 1, 1) := by decide +kernel
theorem dL_bells_424 : decode cL_bells 424 = .ok (.iadd, 1) := by decide +kernel
theorem dL_bells_425 : decode cL_bells 425 = .ok (.iaload, 1) := by decide +kernel
theorem dL_bells_426 : decode cL_bells 426 = .ok (.goto 4, 3) := by decide +kernel
theorem dL_bells_429 : decode cL_bells 429 = .ok (.iconst 0, 1) := by decide +kernel
theorem dL_bells_430 : decode cL_bells 430 = .ok (.iastore, 1) := by decide +kernel
theorem dL_bells_431 : decode cL_bells 431 = .ok (.aload 4, 2) := by decide +kernel
theorem dL_bells_433 : decode cL_bells 433 = .ok (.iconst 5, 1) := by decide +kernel
theorem dL_bells_434 : decode cL_bells 434 = .ok (.iload 5, 2) := by decide +kernel
theorem dL_bells_436 : decode cL_bells 436 = .ok (.imul, 1) := by decide +kernel
theorem dL_bells_437 : decode cL_bells 437 = .ok (.iload 12, 2) := by decide +kernel
theorem dL_bells_439 : decode cL_bells 439 = .ok (.iadd, 1) := by decide +kernel
theorem dL_bells_440 : decode cL_bells 440 = .ok (.iload 12, 2) := by decide +kernel
theorem dL_bells_442 : decode cL_bells 442 = .ok (.iconst 4, 1) := by decide +kernel
theorem dL_bells_443 : decode cL_bells 443 = .ok (.if_icmp .ge 18, 3) := by decide +kernel
theorem dL_bells_446 : decode cL_bells 446 = .ok (.aload 4, 2) := by decide +kernel
theorem dL_bells_448 : decode cL_bells 448 = .ok (.iconst 5, 1) := by decide +kernel
theorem dL_bells_449 : decode cL_bells 449 = .ok (.iload 5, 2) := by decide +kernel
theorem dL_bells_451 : decode cL_bells 451 = .ok (.imul, 1) := by decide +kernel
theorem dL_bells_452 : decode cL_bells 452 = .ok (.iload 12, 2) := by decide +kernel
theorem dL_bells_454 : decode cL_bells 454 = .ok (.iadd, 1) := by decide +kernel
theorem dL_bells_455 : decode cL_bells 455 = .ok (.iconst 1, 1) := by decide +kernel
theorem dL_bells_456 : decode cL_bells 456 = .ok (.iadd, 1) := by decide +kernel
theorem dL_bells_457 : decode cL_bells 457 = .ok (.iaload, 1) := by decide +kernel
theorem dL_bells_458 : decode cL_bells 458 = .ok (.goto 4, 3) := by decide +kernel
theorem dL_bells_461 : decode cL_bells 461 = .ok (.iconst 0, 1) := by decide +kernel
theorem dL_bells_462 : decode cL_bells 462 = .ok (.iastore, 1) := by decide +kernel
theorem dL_bells_463 : decode cL_bells 463 = .ok (.iinc 12 1, 3) := by decide +kernel
theorem dL_bells_466 : decode cL_bells 466 = .ok (.goto (-101), 3) := by decide +kernel
theorem dL_bells_469 : decode cL_bells 469 = .ok (.aload_n 1, 1) := by decide +kernel
theorem dL_bells_470 : decode cL_bells 470 = .ok (.bipush 9, 2) := by decide +kernel
theorem dL_bells_472 : decode cL_bells 472 = .ok (.iload 5, 2) := by decide +kernel
theorem dL_bells_474 : decode cL_bells 474 = .ok (.imul, 1) := by decide +kernel
theorem dL_bells_475 : decode cL_bells 475 = .ok (.iconst 3, 1) := by decide +kernel
theorem dL_bells_476 : decode cL_bells 476 = .ok (.iadd, 1) := by decide +kernel
theorem dL_bells_477 : decode cL_bells 477 = .ok (.dup2, 1) := by decide +kernel
theorem dL_bells_478 : decode cL_bells 478 = .ok (.iaload, 1) := by decide +kernel
theorem dL_bells_479 : decode cL_bells 479 = .ok (.iconst 1, 1) := by decide +kernel
theorem dL_bells_480 : decode cL_bells 480 = .ok (.isub, 1) := by decide +kernel
theorem dL_bells_481 : decode cL_bells 481 = .ok (.iastore, 1) := by decide +kernel
theorem dL_bells_482 : decode cL_bells 482 = .ok (.aload_n 1, 1) := by decide +kernel
theorem dL_bells_483 : decode cL_bells 483 = .ok (.bipush 9, 2) := by decide +kernel
theorem dL_bells_485 : decode cL_bells 485 = .ok (.iload 5, 2) := by decide +kernel
theorem dL_bells_487 : decode cL_bells 487 = .ok (.imul, 1) := by decide +kernel
theorem dL_bells_488 : decode cL_bells 488 = .ok (.iconst 4, 1) := by decide +kernel
theorem dL_bells_489 : decode cL_bells 489 = .ok (.iadd, 1) := by decide +kernel
theorem dL_bells_490 : decode cL_bells 490 = .ok (.iload 11, 2) := by decide +kernel
theorem dL_bells_492 : decode cL_bells 492 = .ok (.iastore, 1) := by decide +kernel
theorem dL_bells_493 : decode cL_bells 493 = .ok (.aload_n 0, 1) := by decide +kernel
theorem dL_bells_494 : decode cL_bells 494 = .ok (.iload 5, 2) := by decide +kernel
theorem dL_bells_496 : decode cL_bells 496 = .ok (.iload 9, 2) := by decide +kernel
theorem dL_bells_498 : decode cL_bells 498 = .ok (.invokevirtual 80, 3) := by decide +kernel
theorem dL_bells_501 : decode cL_bells 501 = .ok (.iload 10, 2) := by decide +kernel
theorem dL_bells_503 : decode cL_bells 503 = .ok (.if_icmp .ne 7, 3) := by decide +kernel
theorem dL_bells_506 : decode cL_bells 506 = .ok (.iconst 1, 1) := by decide +kernel
theorem dL_bells_507 : decode cL_bells 507 = .ok (.goto 4, 3) := by decide +kernel
theorem dL_bells_510 : decode cL_bells 510 = .ok (.iconst 0, 1) := by decide +kernel
theorem dL_bells_511 : decode cL_bells 511 = .ok (.ireturn, 1) := by decide +kernel
theorem dL_settles_0 : decode cL_settles 0 = .ok (.iload_n 3, 1) := by decide +kernel
theorem dL_settles_1 : decode cL_settles 1 = .ok (.bipush 41, 2) := by decide +kernel
theorem dL_settles_3 : decode cL_settles 3 = .ok (.invokestatic 74, 3) := by decide +kernel
theorem dL_settles_6 : decode cL_settles 6 = .ok (.istore 4, 2) := by decide +kernel
theorem dL_settles_8 : decode cL_settles 8 = .ok (.iconst 1, 1) := by decide +kernel
