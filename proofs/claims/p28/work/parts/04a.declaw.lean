theorem dL_cell_0 : decode cL_cell 0 = .ok (.iload_n 1, 1) := by decide +kernel
theorem dL_cell_1 : decode cL_cell 1 = .ok (.aload_n 0, 1) := by decide +kernel
theorem dL_cell_2 : decode cL_cell 2 = .ok (.arraylength, 1) := by decide +kernel
theorem dL_cell_3 : decode cL_cell 3 = .ok (.if_icmp .ge 9, 3) := by decide +kernel
theorem dL_cell_6 : decode cL_cell 6 = .ok (.aload_n 0, 1) := by decide +kernel
theorem dL_cell_7 : decode cL_cell 7 = .ok (.iload_n 1, 1) := by decide +kernel
theorem dL_cell_8 : decode cL_cell 8 = .ok (.iaload, 1) := by decide +kernel
theorem dL_cell_9 : decode cL_cell 9 = .ok (.goto 9, 3) := by decide +kernel
theorem dL_cell_12 : decode cL_cell 12 = .ok (.ldc 7, 2) := by decide +kernel
theorem dL_cell_14 : decode cL_cell 14 = .ok (.iload_n 1, 1) := by decide +kernel
theorem dL_cell_15 : decode cL_cell 15 = .ok (.iconst 1, 1) := by decide +kernel
theorem dL_cell_16 : decode cL_cell 16 = .ok (.iadd, 1) := by decide +kernel
theorem dL_cell_17 : decode cL_cell 17 = .ok (.imul, 1) := by decide +kernel
theorem dL_cell_18 : decode cL_cell 18 = .ok (.ireturn, 1) := by decide +kernel
theorem dL_low_0 : decode cL_low 0 = .ok (.iload_n 0, 1) := by decide +kernel
theorem dL_low_1 : decode cL_low 1 = .ok (.ldc 8, 2) := by decide +kernel
theorem dL_low_3 : decode cL_low 3 = .ok (.iand, 1) := by decide +kernel
theorem dL_low_4 : decode cL_low 4 = .ok (.iload_n 1, 1) := by decide +kernel
theorem dL_low_5 : decode cL_low 5 = .ok (.irem, 1) := by decide +kernel
theorem dL_low_6 : decode cL_low 6 = .ok (.ireturn, 1) := by decide +kernel
theorem dL_rings_0 : decode cL_rings 0 = .ok (.aload_n 0, 1) := by decide +kernel
theorem dL_rings_1 : decode cL_rings 1 = .ok (.bipush 9, 2) := by decide +kernel
theorem dL_rings_3 : decode cL_rings 3 = .ok (.iload 4, 2) := by decide +kernel
theorem dL_rings_5 : decode cL_rings 5 = .ok (.imul, 1) := by decide +kernel
theorem dL_rings_6 : decode cL_rings 6 = .ok (.iconst 1, 1) := by decide +kernel
theorem dL_rings_7 : decode cL_rings 7 = .ok (.iadd, 1) := by decide +kernel
theorem dL_rings_8 : decode cL_rings 8 = .ok (.iaload, 1) := by decide +kernel
theorem dL_rings_9 : decode cL_rings 9 = .ok (.aload_n 0, 1) := by decide +kernel
theorem dL_rings_10 : decode cL_rings 10 = .ok (.bipush 9, 2) := by decide +kernel
theorem dL_rings_12 : decode cL_rings 12 = .ok (.iload 4, 2) := by decide +kernel
theorem dL_rings_14 : decode cL_rings 14 = .ok (.imul, 1) := by decide +kernel
theorem dL_rings_15 : decode cL_rings 15 = .ok (.iconst 2, 1) := by decide +kernel
theorem dL_rings_16 : decode cL_rings 16 = .ok (.iadd, 1) := by decide +kernel
theorem dL_rings_17 : decode cL_rings 17 = .ok (.iaload, 1) := by decide +kernel
theorem dL_rings_18 : decode cL_rings 18 = .ok (.isub, 1) := by decide +kernel
theorem dL_rings_19 : decode cL_rings 19 = .ok (.istore 6, 2) := by decide +kernel
theorem dL_rings_21 : decode cL_rings 21 = .ok (.iconst 0, 1) := by decide +kernel
theorem dL_rings_22 : decode cL_rings 22 = .ok (.istore 7, 2) := by decide +kernel
theorem dL_rings_24 : decode cL_rings 24 = .ok (.iconst 0, 1) := by decide +kernel
theorem dL_rings_25 : decode cL_rings 25 = .ok (.istore 8, 2) := by decide +kernel
theorem dL_rings_27 : decode cL_rings 27 = .ok (.iload 8, 2) := by decide +kernel
theorem dL_rings_29 : decode cL_rings 29 = .ok (.aload_n 0, 1) := by decide +kernel
theorem dL_rings_30 : decode cL_rings 30 = .ok (.bipush 9, 2) := by decide +kernel
theorem dL_rings_32 : decode cL_rings 32 = .ok (.iload 4, 2) := by decide +kernel
theorem dL_rings_34 : decode cL_rings 34 = .ok (.imul, 1) := by decide +kernel
theorem dL_rings_35 : decode cL_rings 35 = .ok (.iconst 3, 1) := by decide +kernel
theorem dL_rings_36 : decode cL_rings 36 = .ok (.iadd, 1) := by decide +kernel
theorem dL_rings_37 : decode cL_rings 37 = .ok (.iaload, 1) := by decide +kernel
theorem dL_rings_38 : decode cL_rings 38 = .ok (.if_icmp .ge 125, 3) := by decide +kernel
theorem dL_rings_41 : decode cL_rings 41 = .ok (.aload_n 0, 1) := by decide +kernel
theorem dL_rings_42 : decode cL_rings 42 = .ok (.bipush 9, 2) := by decide +kernel
theorem dL_rings_44 : decode cL_rings 44 = .ok (.iload 4, 2) := by decide +kernel
theorem dL_rings_46 : decode cL_rings 46 = .ok (.imul, 1) := by decide +kernel
theorem dL_rings_47 : decode cL_rings 47 = .ok (.bipush 6, 2) := by decide +kernel
theorem dL_rings_49 : decode cL_rings 49 = .ok (.iadd, 1) := by decide +kernel
theorem dL_rings_50 : decode cL_rings 50 = .ok (.iaload, 1) := by decide +kernel
theorem dL_rings_51 : decode cL_rings 51 = .ok (.ifCond .ne 112, 3) := by decide +kernel
theorem dL_rings_54 : decode cL_rings 54 = .ok (.aload_n 1, 1) := by decide +kernel
theorem dL_rings_55 : decode cL_rings 55 = .ok (.iconst 5, 1) := by decide +kernel
theorem dL_rings_56 : decode cL_rings 56 = .ok (.iload 4, 2) := by decide +kernel
theorem dL_rings_58 : decode cL_rings 58 = .ok (.imul, 1) := by decide +kernel
theorem dL_rings_59 : decode cL_rings 59 = .ok (.iload 8, 2) := by decide +kernel
theorem dL_rings_61 : decode cL_rings 61 = .ok (.iadd, 1) := by decide +kernel
theorem dL_rings_62 : decode cL_rings 62 = .ok (.iaload, 1) := by decide +kernel
theorem dL_rings_63 : decode cL_rings 63 = .ok (.iconst 2, 1) := by decide +kernel
theorem dL_rings_64 : decode cL_rings 64 = .ok (.idiv, 1) := by decide +kernel
theorem dL_rings_65 : decode cL_rings 65 = .ok (.aload_n 1, 1) := by decide +kernel
theorem dL_rings_66 : decode cL_rings 66 = .ok (.iconst 5, 1) := by decide +kernel
theorem dL_rings_67 : decode cL_rings 67 = .ok (.iload 4, 2) := by decide +kernel
theorem dL_rings_69 : decode cL_rings 69 = .ok (.imul, 1) := by decide +kernel
theorem dL_rings_70 : decode cL_rings 70 = .ok (.iload 8, 2) := by decide +kernel
theorem dL_rings_72 : decode cL_rings 72 = .ok (.iadd, 1) := by decide +kernel
theorem dL_rings_73 : decode cL_rings 73 = .ok (.iaload, 1) := by decide +kernel
theorem dL_rings_74 : decode cL_rings 74 = .ok (.iconst 2, 1) := by decide +kernel
theorem dL_rings_75 : decode cL_rings 75 = .ok (.irem, 1) := by decide +kernel
theorem dL_rings_76 : decode cL_rings 76 = .ok (.iadd, 1) := by decide +kernel
theorem dL_rings_77 : decode cL_rings 77 = .ok (.istore 9, 2) := by decide +kernel
theorem dL_rings_79 : decode cL_rings 79 = .ok (.aload_n 3, 1) := by decide +kernel
theorem dL_rings_80 : decode cL_rings 80 = .ok (.iconst 2, 1) := by decide +kernel
theorem dL_rings_81 : decode cL_rings 81 = .ok (.iaload, 1) := by decide +kernel
theorem dL_rings_82 : decode cL_rings 82 = .ok (.bipush 7, 2) := by decide +kernel
theorem dL_rings_84 : decode cL_rings 84 = .ok (.irem, 1) := by decide +kernel
theorem dL_rings_85 : decode cL_rings 85 = .ok (.aload_n 0, 1) := by decide +kernel
theorem dL_rings_86 : decode cL_rings 86 = .ok (.bipush 9, 2) := by decide +kernel
theorem dL_rings_88 : decode cL_rings 88 = .ok (.iload 4, 2) := by decide +kernel
theorem dL_rings_90 : decode cL_rings 90 = .ok (.imul, 1) := by decide +kernel
theorem dL_rings_91 : decode cL_rings 91 = .ok (.iconst 5, 1) := by decide +kernel
theorem dL_rings_92 : decode cL_rings 92 = .ok (.iadd, 1) := by decide +kernel
theorem dL_rings_93 : decode cL_rings 93 = .ok (.iaload, 1) := by decide +kernel
theorem dL_rings_94 : decode cL_rings 94 = .ok (.if_icmp .eq 14, 3) := by decide +kernel
theorem dL_rings_97 : decode cL_rings 97 = .ok (.iload 5, 2) := by decide +kernel
theorem dL_rings_99 : decode cL_rings 99 = .ok (.iload 8, 2) := by decide +kernel
theorem dL_rings_101 : decode cL_rings 101 = .ok (.ishr, 1) := by decide +kernel
theorem dL_rings_102 : decode cL_rings 102 = .ok (.iconst 1, 1) := by decide +kernel
theorem dL_rings_103 : decode cL_rings 103 = .ok (.iand, 1) := by decide +kernel
theorem dL_rings_104 : decode cL_rings 104 = .ok (.iconst 1, 1) := by decide +kernel
theorem dL_rings_105 : decode cL_rings 105 = .ok (.if_icmp .ne 7, 3) := by decide +kernel
theorem dL_rings_108 : decode cL_rings 108 = .ok (.iconst 1, 1) := by decide +kernel
theorem dL_rings_109 : decode cL_rings 109 = .ok (.goto 4, 3) := by decide +kernel
theorem dL_rings_112 : decode cL_rings 112 = .ok (.iconst 0, 1) := by decide +kernel
theorem dL_rings_113 : decode cL_rings 113 = .ok (.istore 10, 2) := by decide +kernel
theorem dL_rings_115 : decode cL_rings 115 = .ok (.iload 10, 2) := by decide +kernel
theorem dL_rings_117 : decode cL_rings 117 = .ok (.ifCond .eq 40, 3) := by decide +kernel
theorem dL_rings_120 : decode cL_rings 120 = .ok (.aload_n 2, 1) := by decide +kernel
theorem dL_rings_121 : decode cL_rings 121 = .ok (.iconst 5, 1) := by decide +kernel
theorem dL_rings_122 : decode cL_rings 122 = .ok (.iload 4, 2) := by decide +kernel
theorem dL_rings_124 : decode cL_rings 124 = .ok (.imul, 1) := by decide +kernel
theorem dL_rings_125 : decode cL_rings 125 = .ok (.iload 8, 2) := by decide +kernel
theorem dL_rings_127 : decode cL_rings 127 = .ok (.iadd, 1) := by decide +kernel
theorem dL_rings_128 : decode cL_rings 128 = .ok (.iaload, 1) := by decide +kernel
theorem dL_rings_129 : decode cL_rings 129 = .ok (.bipush 6, 2) := by decide +kernel
theorem dL_rings_131 : decode cL_rings 131 = .ok (.if_icmp .eq 26, 3) := by decide +kernel
theorem dL_rings_134 : decode cL_rings 134 = .ok (.iload 6, 2) := by decide +kernel
theorem dL_rings_136 : decode cL_rings 136 = .ok (.iload 9, 2) := by decide +kernel
theorem dL_rings_138 : decode cL_rings 138 = .ok (.if_icmp .lt 19, 3) := by decide +kernel
theorem dL_rings_141 : decode cL_rings 141 = .ok (.iload 7, 2) := by decide +kernel
theorem dL_rings_143 : decode cL_rings 143 = .ok (.iconst 1, 1) := by decide +kernel
theorem dL_rings_144 : decode cL_rings 144 = .ok (.iload 8, 2) := by decide +kernel
theorem dL_rings_146 : decode cL_rings 146 = .ok (.ishl, 1) := by decide +kernel
theorem dL_rings_147 : decode cL_rings 147 = .ok (.iadd, 1) := by decide +kernel
theorem dL_rings_148 : decode cL_rings 148 = .ok (.istore 7, 2) := by decide +kernel
theorem dL_rings_150 : decode cL_rings 150 = .ok (.iload 6, 2) := by decide +kernel
theorem dL_rings_152 : decode cL_rings 152 = .ok (.iload 9, 2) := by decide +kernel
theorem dL_rings_154 : decode cL_rings 154 = .ok (.isub, 1) := by decide +kernel
theorem dL_rings_155 : decode cL_rings 155 = .ok (.istore 6, 2) := by decide +kernel
theorem dL_rings_157 : decode cL_rings 157 = .ok (.iinc 8 1, 3) := by decide +kernel
theorem dL_rings_160 : decode cL_rings 160 = .ok (.goto (-133), 3) := by decide +kernel
theorem dL_rings_163 : decode cL_rings 163 = .ok (.iload 7, 2) := by decide +kernel
theorem dL_rings_165 : decode cL_rings 165 = .ok (.ireturn, 1) := by decide +kernel
theorem dL_loud_0 : decode cL_loud 0 = .ok (.iconst 0, 1) := by decide +kernel
theorem dL_loud_1 : decode cL_loud 1 = .ok (.istore_n 3, 1) := by decide +kernel
theorem dL_loud_2 : decode cL_loud 2 = .ok (.iconst 0, 1) := by decide +kernel
theorem dL_loud_3 : decode cL_loud 3 = .ok (.istore 4, 2) := by decide +kernel
theorem dL_loud_5 : decode cL_loud 5 = .ok (.iload 4, 2) := by decide +kernel
theorem dL_loud_7 : decode cL_loud 7 = .ok (.iconst 5, 1) := by decide +kernel
theorem dL_loud_8 : decode cL_loud 8 = .ok (.if_icmp .ge 27, 3) := by decide +kernel
theorem dL_loud_11 : decode cL_loud 11 = .ok (.iload_n 3, 1) := by decide +kernel
theorem dL_loud_12 : decode cL_loud 12 = .ok (.aload_n 0, 1) := by decide +kernel
theorem dL_loud_13 : decode cL_loud 13 = .ok (.iconst 5, 1) := by decide +kernel
theorem dL_loud_14 : decode cL_loud 14 = .ok (.iload_n 1, 1) := by decide +kernel
theorem dL_loud_15 : decode cL_loud 15 = .ok (.imul, 1) := by decide +kernel
theorem dL_loud_16 : decode cL_loud 16 = .ok (.iload 4, 2) := by decide +kernel
theorem dL_loud_18 : decode cL_loud 18 = .ok (.iadd, 1) := by decide +kernel
theorem dL_loud_19 : decode cL_loud 19 = .ok (.iaload, 1) := by decide +kernel
theorem dL_loud_20 : decode cL_loud 20 = .ok (.iload_n 2, 1) := by decide +kernel
theorem dL_loud_21 : decode cL_loud 21 = .ok (.iload 4, 2) := by decide +kernel
theorem dL_loud_23 : decode cL_loud 23 = .ok (.ishr, 1) := by decide +kernel
theorem dL_loud_24 : decode cL_loud 24 = .ok (.iconst 1, 1) := by decide +kernel
theorem dL_loud_25 : decode cL_loud 25 = .ok (.iand, 1) := by decide +kernel
theorem dL_loud_26 : decode cL_loud 26 = .ok (.imul, 1) := by decide +kernel
theorem dL_loud_27 : decode cL_loud 27 = .ok (.iadd, 1) := by decide +kernel
theorem dL_loud_28 : decode cL_loud 28 = .ok (.istore_n 3, 1) := by decide +kernel
theorem dL_loud_29 : decode cL_loud 29 = .ok (.iinc 4 1, 3) := by decide +kernel
theorem dL_loud_32 : decode cL_loud 32 = .ok (.goto (-27), 3) := by decide +kernel
theorem dL_loud_35 : decode cL_loud 35 = .ok (.iload_n 3, 1) := by decide +kernel
theorem dL_loud_36 : decode cL_loud 36 = .ok (.ireturn, 1) := by decide +kernel
theorem dL_reaches_0 : decode cL_reaches 0 = .ok (.aload_n 0, 1) := by decide +kernel
theorem dL_reaches_1 : decode cL_reaches 1 = .ok (.bipush 9, 2) := by decide +kernel
theorem dL_reaches_3 : decode cL_reaches 3 = .ok (.iload_n 3, 1) := by decide +kernel
theorem dL_reaches_4 : decode cL_reaches 4 = .ok (.imul, 1) := by decide +kernel
theorem dL_reaches_5 : decode cL_reaches 5 = .ok (.iaload, 1) := by decide +kernel
theorem dL_reaches_6 : decode cL_reaches 6 = .ok (.aload_n 0, 1) := by decide +kernel
theorem dL_reaches_7 : decode cL_reaches 7 = .ok (.bipush 9, 2) := by decide +kernel
theorem dL_reaches_9 : decode cL_reaches 9 = .ok (.iload 4, 2) := by decide +kernel
theorem dL_reaches_11 : decode cL_reaches 11 = .ok (.imul, 1) := by decide +kernel
theorem dL_reaches_12 : decode cL_reaches 12 = .ok (.iaload, 1) := by decide +kernel
theorem dL_reaches_13 : decode cL_reaches 13 = .ok (.if_icmp .le 20, 3) := by decide +kernel
theorem dL_reaches_16 : decode cL_reaches 16 = .ok (.aload_n 0, 1) := by decide +kernel
theorem dL_reaches_17 : decode cL_reaches 17 = .ok (.bipush 9, 2) := by decide +kernel
theorem dL_reaches_19 : decode cL_reaches 19 = .ok (.iload_n 3, 1) := by decide +kernel
theorem dL_reaches_20 : decode cL_reaches 20 = .ok (.imul, 1) := by decide +kernel
theorem dL_reaches_21 : decode cL_reaches 21 = .ok (.iaload, 1) := by decide +kernel
theorem dL_reaches_22 : decode cL_reaches 22 = .ok (.aload_n 0, 1) := by decide +kernel
theorem dL_reaches_23 : decode cL_reaches 23 = .ok (.bipush 9, 2) := by decide +kernel
theorem dL_reaches_25 : decode cL_reaches 25 = .ok (.iload 4, 2) := by decide +kernel
theorem dL_reaches_27 : decode cL_reaches 27 = .ok (.imul, 1) := by decide +kernel
theorem dL_reaches_28 : decode cL_reaches 28 = .ok (.iaload, 1) := by decide +kernel
theorem dL_reaches_29 : decode cL_reaches 29 = .ok (.isub, 1) := by decide +kernel
theorem dL_reaches_30 : decode cL_reaches 30 = .ok (.goto 17, 3) := by decide +kernel
theorem dL_reaches_33 : decode cL_reaches 33 = .ok (.aload_n 0, 1) := by decide +kernel
theorem dL_reaches_34 : decode cL_reaches 34 = .ok (.bipush 9, 2) := by decide +kernel
theorem dL_reaches_36 : decode cL_reaches 36 = .ok (.iload 4, 2) := by decide +kernel
theorem dL_reaches_38 : decode cL_reaches 38 = .ok (.imul, 1) := by decide +kernel
theorem dL_reaches_39 : decode cL_reaches 39 = .ok (.iaload, 1) := by decide +kernel
theorem dL_reaches_40 : decode cL_reaches 40 = .ok (.aload_n 0, 1) := by decide +kernel
theorem dL_reaches_41 : decode cL_reaches 41 = .ok (.bipush 9, 2) := by decide +kernel
theorem dL_reaches_43 : decode cL_reaches 43 = .ok (.iload_n 3, 1) := by decide +kernel
theorem dL_reaches_44 : decode cL_reaches 44 = .ok (.imul, 1) := by decide +kernel
theorem dL_reaches_45 : decode cL_reaches 45 = .ok (.iaload, 1) := by decide +kernel
theorem dL_reaches_46 : decode cL_reaches 46 = .ok (.isub, 1) := by decide +kernel
theorem dL_reaches_47 : decode cL_reaches 47 = .ok (.istore 5, 2) := by decide +kernel
theorem dL_reaches_49 : decode cL_reaches 49 = .ok (.aload_n 2, 1) := by decide +kernel
theorem dL_reaches_50 : decode cL_reaches 50 = .ok (.iload_n 3, 1) := by decide +kernel
theorem dL_reaches_51 : decode cL_reaches 51 = .ok (.iaload, 1) := by decide +kernel
theorem dL_reaches_52 : decode cL_reaches 52 = .ok (.aload_n 1, 1) := by decide +kernel
theorem dL_reaches_53 : decode cL_reaches 53 = .ok (.iconst 0, 1) := by decide +kernel
theorem dL_reaches_54 : decode cL_reaches 54 = .ok (.iaload, 1) := by decide +kernel
theorem dL_reaches_55 : decode cL_reaches 55 = .ok (.iload 5, 2) := by decide +kernel
theorem dL_reaches_57 : decode cL_reaches 57 = .ok (.imul, 1) := by decide +kernel
theorem dL_reaches_58 : decode cL_reaches 58 = .ok (.if_icmp .le 16, 3) := by decide +kernel
theorem dL_reaches_61 : decode cL_reaches 61 = .ok (.aload_n 2, 1) := by decide +kernel
theorem dL_reaches_62 : decode cL_reaches 62 = .ok (.iload_n 3, 1) := by decide +kernel
theorem dL_reaches_63 : decode cL_reaches 63 = .ok (.iaload, 1) := by decide +kernel
theorem dL_reaches_64 : decode cL_reaches 64 = .ok (.aload_n 1, 1) := by decide +kernel
theorem dL_reaches_65 : decode cL_reaches 65 = .ok (.iconst 0, 1) := by decide +kernel
theorem dL_reaches_66 : decode cL_reaches 66 = .ok (.iaload, 1) := by decide +kernel
theorem dL_reaches_67 : decode cL_reaches 67 = .ok (.iload 5, 2) := by decide +kernel
theorem dL_reaches_69 : decode cL_reaches 69 = .ok (.imul, 1) := by decide +kernel
theorem dL_reaches_70 : decode cL_reaches 70 = .ok (.isub, 1) := by decide +kernel
theorem dL_reaches_71 : decode cL_reaches 71 = .ok (.goto 4, 3) := by decide +kernel
theorem dL_reaches_74 : decode cL_reaches 74 = .ok (.iconst 0, 1) := by decide +kernel
theorem dL_reaches_75 : decode cL_reaches 75 = .ok (.ireturn, 1) := by decide +kernel
theorem dL_wins_0 : decode cL_wins 0 = .ok (.iconst 0, 1) := by decide +kernel
theorem dL_wins_1 : decode cL_wins 1 = .ok (.istore 4, 2) := by decide +kernel
theorem dL_wins_3 : decode cL_wins 3 = .ok (.iload 4, 2) := by decide +kernel
theorem dL_wins_5 : decode cL_wins 5 = .ok (.bipush 6, 2) := by decide +kernel
theorem dL_wins_7 : decode cL_wins 7 = .ok (.if_icmp .ge 92, 3) := by decide +kernel
theorem dL_wins_10 : decode cL_wins 10 = .ok (.aload_n 0, 1) := by decide +kernel
theorem dL_wins_11 : decode cL_wins 11 = .ok (.aload_n 1, 1) := by decide +kernel
theorem dL_wins_12 : decode cL_wins 12 = .ok (.aload_n 2, 1) := by decide +kernel
theorem dL_wins_13 : decode cL_wins 13 = .ok (.iload 4, 2) := by decide +kernel
theorem dL_wins_15 : decode cL_wins 15 = .ok (.iload_n 3, 1) := by decide +kernel
theorem dL_wins_16 : decode cL_wins 16 = .ok (.invokestatic 9, 3) := by decide +kernel
theorem dL_wins_19 : decode cL_wins 19 = .ok (.ifCond .le 7, 3) := by decide +kernel
theorem dL_wins_22 : decode cL_wins 22 = .ok (.iconst 1, 1) := by decide +kernel
theorem dL_wins_23 : decode cL_wins 23 = .ok (.goto 4, 3) := by decide +kernel
theorem dL_wins_26 : decode cL_wins 26 = .ok (.iconst 0, 1) := by decide +kernel
theorem dL_wins_27 : decode cL_wins 27 = .ok (.istore 5, 2) := by decide +kernel
theorem dL_wins_29 : decode cL_wins 29 = .ok (.iconst 0, 1) := by decide +kernel
theorem dL_wins_30 : decode cL_wins 30 = .ok (.istore 6, 2) := by decide +kernel
theorem dL_wins_32 : decode cL_wins 32 = .ok (.iload 6, 2) := by decide +kernel
theorem dL_wins_34 : decode cL_wins 34 = .ok (.bipush 6, 2) := by decide +kernel
theorem dL_wins_36 : decode cL_wins 36 = .ok (.if_icmp .ge 49, 3) := by decide +kernel
theorem dL_wins_39 : decode cL_wins 39 = .ok (.iload 5, 2) := by decide +kernel
theorem dL_wins_41 : decode cL_wins 41 = .ok (.ifCond .eq 35, 3) := by decide +kernel
theorem dL_wins_44 : decode cL_wins 44 = .ok (.iload 6, 2) := by decide +kernel
theorem dL_wins_46 : decode cL_wins 46 = .ok (.iload 4, 2) := by decide +kernel
theorem dL_wins_48 : decode cL_wins 48 = .ok (.if_icmp .eq 24, 3) := by decide +kernel
theorem dL_wins_51 : decode cL_wins 51 = .ok (.aload_n 0, 1) := by decide +kernel
theorem dL_wins_52 : decode cL_wins 52 = .ok (.aload_n 1, 1) := by decide +kernel
theorem dL_wins_53 : decode cL_wins 53 = .ok (.aload_n 2, 1) := by decide +kernel
theorem dL_wins_54 : decode cL_wins 54 = .ok (.iload 6, 2) := by decide +kernel
theorem dL_wins_56 : decode cL_wins 56 = .ok (.iload_n 3, 1) := by decide +kernel
theorem dL_wins_57 : decode cL_wins 57 = .ok (.invokestatic 9, 3) := by decide +kernel
theorem dL_wins_60 : decode cL_wins 60 = .ok (.aload_n 0, 1) := by decide +kernel
theorem dL_wins_61 : decode cL_wins 61 = .ok (.aload_n 1, 1) := by decide +kernel
theorem dL_wins_62 : decode cL_wins 62 = .ok (.aload_n 2, 1) := by decide +kernel
theorem dL_wins_63 : decode cL_wins 63 = .ok (.iload 4, 2) := by decide +kernel
theorem dL_wins_65 : decode cL_wins 65 = .ok (.iload_n 3, 1) := by decide +kernel
theorem dL_wins_66 : decode cL_wins 66 = .ok (.invokestatic 9, 3) := by decide +kernel
theorem dL_wins_69 : decode cL_wins 69 = .ok (.if_icmp .ge 7, 3) := by decide +kernel
theorem dL_wins_72 : decode cL_wins 72 = .ok (.iconst 1, 1) := by decide +kernel
theorem dL_wins_73 : decode cL_wins 73 = .ok (.goto 4, 3) := by decide +kernel
theorem dL_wins_76 : decode cL_wins 76 = .ok (.iconst 0, 1) := by decide +kernel
theorem dL_wins_77 : decode cL_wins 77 = .ok (.istore 5, 2) := by decide +kernel
theorem dL_wins_79 : decode cL_wins 79 = .ok (.iinc 6 1, 3) := by decide +kernel
theorem dL_wins_82 : decode cL_wins 82 = .ok (.goto (-50), 3) := by decide +kernel
theorem dL_wins_85 : decode cL_wins 85 = .ok (.iload 5, 2) := by decide +kernel
theorem dL_wins_87 : decode cL_wins 87 = .ok (.ifCond .eq 6, 3) := by decide +kernel
theorem dL_wins_90 : decode cL_wins 90 = .ok (.iload 4, 2) := by decide +kernel
theorem dL_wins_92 : decode cL_wins 92 = .ok (.ireturn, 1) := by decide +kernel
theorem dL_wins_93 : decode cL_wins 93 = .ok (.iinc 4 1, 3) := by decide +kernel
theorem dL_wins_96 : decode cL_wins 96 = .ok (.goto (-93), 3) := by decide +kernel
theorem dL_wins_99 : decode cL_wins 99 = .ok (.bipush (-5), 2) := by decide +kernel
theorem dL_wins_101 : decode cL_wins 101 = .ok (.ireturn, 1) := by decide +kernel
theorem dL_listens_0 : decode cL_listens 0 = .ok (.iconst 0, 1) := by decide +kernel
theorem dL_listens_1 : decode cL_listens 1 = .ok (.istore 5, 2) := by decide +kernel
theorem dL_listens_3 : decode cL_listens 3 = .ok (.iload 5, 2) := by decide +kernel
theorem dL_listens_5 : decode cL_listens 5 = .ok (.bipush 6, 2) := by decide +kernel
theorem dL_listens_7 : decode cL_listens 7 = .ok (.if_icmp .ge 38, 3) := by decide +kernel
theorem dL_listens_10 : decode cL_listens 10 = .ok (.aload 4, 2) := by decide +kernel
theorem dL_listens_12 : decode cL_listens 12 = .ok (.iload 5, 2) := by decide +kernel
theorem dL_listens_14 : decode cL_listens 14 = .ok (.aload_n 1, 1) := by decide +kernel
theorem dL_listens_15 : decode cL_listens 15 = .ok (.iload 5, 2) := by decide +kernel
theorem dL_listens_17 : decode cL_listens 17 = .ok (.aload_n 0, 1) := by decide +kernel
theorem dL_listens_18 : decode cL_listens 18 = .ok (.aload_n 1, 1) := by decide +kernel
theorem dL_listens_19 : decode cL_listens 19 = .ok (.aload_n 2, 1) := by decide +kernel
theorem dL_listens_20 : decode cL_listens 20 = .ok (.aload_n 3, 1) := by decide +kernel
theorem dL_listens_21 : decode cL_listens 21 = .ok (.iload 5, 2) := by decide +kernel
theorem dL_listens_23 : decode cL_listens 23 = .ok (.aload_n 0, 1) := by decide +kernel
theorem dL_listens_24 : decode cL_listens 24 = .ok (.bipush 9, 2) := by decide +kernel
theorem dL_listens_26 : decode cL_listens 26 = .ok (.iload 5, 2) := by decide +kernel
theorem dL_listens_28 : decode cL_listens 28 = .ok (.imul, 1) := by decide +kernel
theorem dL_listens_29 : decode cL_listens 29 = .ok (.iconst 4, 1) := by decide +kernel
theorem dL_listens_30 : decode cL_listens 30 = .ok (.iadd, 1) := by decide +kernel
theorem dL_listens_31 : decode cL_listens 31 = .ok (.iaload, 1) := by decide +kernel
theorem dL_listens_32 : decode cL_listens 32 = .ok (.invokestatic 15, 3) := by decide +kernel
theorem dL_listens_35 : decode cL_listens 35 = .ok (.invokestatic 19, 3) := by decide +kernel
theorem dL_listens_38 : decode cL_listens 38 = .ok (.iastore, 1) := by decide +kernel
theorem dL_listens_39 : decode cL_listens 39 = .ok (.iinc 5 1, 3) := by decide +kernel
theorem dL_listens_42 : decode cL_listens 42 = .ok (.goto (-39), 3) := by decide +kernel
theorem dL_listens_45 : decode cL_listens 45 = .ok (.return_, 1) := by decide +kernel
theorem dL_turns_0 : decode cL_turns 0 = .ok (.bipush 6, 2) := by decide +kernel
theorem dL_turns_2 : decode cL_turns 2 = .ok (.newarray .int, 2) := by decide +kernel
theorem dL_turns_4 : decode cL_turns 4 = .ok (.astore 5, 2) := by decide +kernel
theorem dL_turns_6 : decode cL_turns 6 = .ok (.aload_n 0, 1) := by decide +kernel
theorem dL_turns_7 : decode cL_turns 7 = .ok (.aload_n 1, 1) := by decide +kernel
theorem dL_turns_8 : decode cL_turns 8 = .ok (.aload_n 2, 1) := by decide +kernel
theorem dL_turns_9 : decode cL_turns 9 = .ok (.aload 4, 2) := by decide +kernel
theorem dL_turns_11 : decode cL_turns 11 = .ok (.aload 5, 2) := by decide +kernel
theorem dL_turns_13 : decode cL_turns 13 = .ok (.invokestatic 23, 3) := by decide +kernel
theorem dL_turns_16 : decode cL_turns 16 = .ok (.bipush (-5), 2) := by decide +kernel
theorem dL_turns_18 : decode cL_turns 18 = .ok (.istore 6, 2) := by decide +kernel
theorem dL_turns_20 : decode cL_turns 20 = .ok (.iconst 0, 1) := by decide +kernel
theorem dL_turns_21 : decode cL_turns 21 = .ok (.istore 7, 2) := by decide +kernel
theorem dL_turns_23 : decode cL_turns 23 = .ok (.iload 7, 2) := by decide +kernel
theorem dL_turns_25 : decode cL_turns 25 = .ok (.bipush 6, 2) := by decide +kernel
theorem dL_turns_27 : decode cL_turns 27 = .ok (.if_icmp .ge 75, 3) := by decide +kernel
theorem dL_turns_30 : decode cL_turns 30 = .ok (.aload 5, 2) := by decide +kernel
theorem dL_turns_32 : decode cL_turns 32 = .ok (.iload 7, 2) := by decide +kernel
theorem dL_turns_34 : decode cL_turns 34 = .ok (.iaload, 1) := by decide +kernel
theorem dL_turns_35 : decode cL_turns 35 = .ok (.ifCond .le 26, 3) := by decide +kernel
theorem dL_turns_38 : decode cL_turns 38 = .ok (.iload 6, 2) := by decide +kernel
theorem dL_turns_40 : decode cL_turns 40 = .ok (.ifCond .lt 16, 3) := by decide +kernel
theorem dL_turns_43 : decode cL_turns 43 = .ok (.aload 5, 2) := by decide +kernel
theorem dL_turns_45 : decode cL_turns 45 = .ok (.iload 7, 2) := by decide +kernel
theorem dL_turns_47 : decode cL_turns 47 = .ok (.iaload, 1) := by decide +kernel
theorem dL_turns_48 : decode cL_turns 48 = .ok (.aload 5, 2) := by decide +kernel
theorem dL_turns_50 : decode cL_turns 50 = .ok (.iload 6, 2) := by decide +kernel
theorem dL_turns_52 : decode cL_turns 52 = .ok (.iaload, 1) := by decide +kernel
theorem dL_turns_53 : decode cL_turns 53 = .ok (.if_icmp .le 8, 3) := by decide +kernel
theorem dL_turns_56 : decode cL_turns 56 = .ok (.iload 7, 2) := by decide +kernel
theorem dL_turns_58 : decode cL_turns 58 = .ok (.goto 5, 3) := by decide +kernel
theorem dL_turns_61 : decode cL_turns 61 = .ok (.iload 6, 2) := by decide +kernel
theorem dL_turns_63 : decode cL_turns 63 = .ok (.istore 6, 2) := by decide +kernel
theorem dL_turns_65 : decode cL_turns 65 = .ok (.aload_n 0, 1) := by decide +kernel
theorem dL_turns_66 : decode cL_turns 66 = .ok (.aload 4, 2) := by decide +kernel
theorem dL_turns_68 : decode cL_turns 68 = .ok (.aload 5, 2) := by decide +kernel
theorem dL_turns_70 : decode cL_turns 70 = .ok (.iload 7, 2) := by decide +kernel
theorem dL_turns_72 : decode cL_turns 72 = .ok (.invokestatic 27, 3) := by decide +kernel
theorem dL_turns_75 : decode cL_turns 75 = .ok (.istore 8, 2) := by decide +kernel
theorem dL_turns_77 : decode cL_turns 77 = .ok (.iload 8, 2) := by decide +kernel
theorem dL_turns_79 : decode cL_turns 79 = .ok (.ifCond .lt 17, 3) := by decide +kernel
theorem dL_turns_82 : decode cL_turns 82 = .ok (.aload_n 0, 1) := by decide +kernel
theorem dL_turns_83 : decode cL_turns 83 = .ok (.bipush 9, 2) := by decide +kernel
theorem dL_turns_85 : decode cL_turns 85 = .ok (.iload 8, 2) := by decide +kernel
theorem dL_turns_87 : decode cL_turns 87 = .ok (.imul, 1) := by decide +kernel
theorem dL_turns_88 : decode cL_turns 88 = .ok (.bipush 7, 2) := by decide +kernel
theorem dL_turns_90 : decode cL_turns 90 = .ok (.iadd, 1) := by decide +kernel
theorem dL_turns_91 : decode cL_turns 91 = .ok (.dup2, 1) := by decide +kernel
theorem dL_turns_92 : decode cL_turns 92 = .ok (.iaload, 1) := by decide +kernel
theorem dL_turns_93 : decode cL_turns 93 = .ok (.iconst 1, 1) := by decide +kernel
theorem dL_turns_94 : decode cL_turns 94 = .ok (.iadd, 1) := by decide +kernel
theorem dL_turns_95 : decode cL_turns 95 = .ok (.iastore, 1) := by decide +kernel
theorem dL_turns_96 : decode cL_turns 96 = .ok (.iinc 7 1, 3) := by decide +kernel
theorem dL_turns_99 : decode cL_turns 99 = .ok (.goto (-76), 3) := by decide +kernel
theorem dL_turns_102 : decode cL_turns 102 = .ok (.iconst 0, 1) := by decide +kernel
theorem dL_turns_103 : decode cL_turns 103 = .ok (.istore 7, 2) := by decide +kernel
theorem dL_turns_105 : decode cL_turns 105 = .ok (.iload 7, 2) := by decide +kernel
theorem dL_turns_107 : decode cL_turns 107 = .ok (.bipush 6, 2) := by decide +kernel
theorem dL_turns_109 : decode cL_turns 109 = .ok (.if_icmp .ge 119, 3) := by decide +kernel
theorem dL_turns_112 : decode cL_turns 112 = .ok (.aload_n 0, 1) := by decide +kernel
theorem dL_turns_113 : decode cL_turns 113 = .ok (.aload_n 1, 1) := by decide +kernel
theorem dL_turns_114 : decode cL_turns 114 = .ok (.aload_n 2, 1) := by decide +kernel
theorem dL_turns_115 : decode cL_turns 115 = .ok (.aload 4, 2) := by decide +kernel
theorem dL_turns_117 : decode cL_turns 117 = .ok (.iload 7, 2) := by decide +kernel
theorem dL_turns_119 : decode cL_turns 119 = .ok (.aload_n 0, 1) := by decide +kernel
theorem dL_turns_120 : decode cL_turns 120 = .ok (.bipush 9, 2) := by decide +kernel
theorem dL_turns_122 : decode cL_turns 122 = .ok (.iload 7, 2) := by decide +kernel
theorem dL_turns_124 : decode cL_turns 124 = .ok (.imul, 1) := by decide +kernel
theorem dL_turns_125 : decode cL_turns 125 = .ok (.iconst 4, 1) := by decide +kernel
theorem dL_turns_126 : decode cL_turns 126 = .ok (.iadd, 1) := by decide +kernel
theorem dL_turns_127 : decode cL_turns 127 = .ok (.iaload, 1) := by decide +kernel
theorem dL_turns_128 : decode cL_turns 128 = .ok (.invokestatic 15, 3) := by decide +kernel
theorem dL_turns_131 : decode cL_turns 131 = .ok (.istore 8, 2) := by decide +kernel
theorem dL_turns_133 : decode cL_turns 133 = .ok (.iconst 0, 1) := by decide +kernel
theorem dL_turns_134 : decode cL_turns 134 = .ok (.istore 9, 2) := by decide +kernel
theorem dL_turns_136 : decode cL_turns 136 = .ok (.iconst 0, 1) := by decide +kernel
theorem dL_turns_137 : decode cL_turns 137 = .ok (.istore 10, 2) := by decide +kernel
theorem dL_turns_139 : decode cL_turns 139 = .ok (.iload 10, 2) := by decide +kernel
theorem dL_turns_141 : decode cL_turns 141 = .ok (.iconst 5, 1) := by decide +kernel
theorem dL_turns_142 : decode cL_turns 142 = .ok (.if_icmp .ge 67, 3) := by decide +kernel
theorem dL_turns_145 : decode cL_turns 145 = .ok (.iload 8, 2) := by decide +kernel
theorem dL_turns_147 : decode cL_turns 147 = .ok (.iload 10, 2) := by decide +kernel
theorem dL_turns_149 : decode cL_turns 149 = .ok (.ishr, 1) := by decide +kernel
theorem dL_turns_150 : decode cL_turns 150 = .ok (.iconst 1, 1) := by decide +kernel
theorem dL_turns_151 : decode cL_turns 151 = .ok (.iand, 1) := by decide +kernel
theorem dL_turns_152 : decode cL_turns 152 = .ok (.istore 11, 2) := by decide +kernel
theorem dL_turns_154 : decode cL_turns 154 = .ok (.aload_n 2, 1) := by decide +kernel
theorem dL_turns_155 : decode cL_turns 155 = .ok (.iconst 5, 1) := by decide +kernel
theorem dL_turns_156 : decode cL_turns 156 = .ok (.iload 7, 2) := by decide +kernel
theorem dL_turns_158 : decode cL_turns 158 = .ok (.imul, 1) := by decide +kernel
theorem dL_turns_159 : decode cL_turns 159 = .ok (.iload 10, 2) := by decide +kernel
theorem dL_turns_161 : decode cL_turns 161 = .ok (.iadd, 1) := by decide +kernel
theorem dL_turns_162 : decode cL_turns 162 = .ok (.dup2, 1) := by decide +kernel
theorem dL_turns_163 : decode cL_turns 163 = .ok (.iaload, 1) := by decide +kernel
theorem dL_turns_164 : decode cL_turns 164 = .ok (.iload 11, 2) := by decide +kernel
theorem dL_turns_166 : decode cL_turns 166 = .ok (.iadd, 1) := by decide +kernel
theorem dL_turns_167 : decode cL_turns 167 = .ok (.iastore, 1) := by decide +kernel
theorem dL_turns_168 : decode cL_turns 168 = .ok (.aload_n 3, 1) := by decide +kernel
theorem dL_turns_169 : decode cL_turns 169 = .ok (.iconst 5, 1) := by decide +kernel
theorem dL_turns_170 : decode cL_turns 170 = .ok (.iload 7, 2) := by decide +kernel
theorem dL_turns_172 : decode cL_turns 172 = .ok (.imul, 1) := by decide +kernel
theorem dL_turns_173 : decode cL_turns 173 = .ok (.iload 10, 2) := by decide +kernel
theorem dL_turns_175 : decode cL_turns 175 = .ok (.iadd, 1) := by decide +kernel
theorem dL_turns_176 : decode cL_turns 176 = .ok (.dup2, 1) := by decide +kernel
theorem dL_turns_177 : decode cL_turns 177 = .ok (.iaload, 1) := by decide +kernel
theorem dL_turns_178 : decode cL_turns 178 = .ok (.iload 11, 2) := by decide +kernel
theorem dL_turns_180 : decode cL_turns 180 = .ok (.iadd, 1) := by decide +kernel
theorem dL_turns_181 : decode cL_turns 181 = .ok (.iastore, 1) := by decide +kernel
theorem dL_turns_182 : decode cL_turns 182 = .ok (.iload 9, 2) := by decide +kernel
theorem dL_turns_184 : decode cL_turns 184 = .ok (.iload 11, 2) := by decide +kernel
theorem dL_turns_186 : decode cL_turns 186 = .ok (.aload_n 1, 1) := by decide +kernel
theorem dL_turns_187 : decode cL_turns 187 = .ok (.iconst 5, 1) := by decide +kernel
theorem dL_turns_188 : decode cL_turns 188 = .ok (.iload 7, 2) := by decide +kernel
theorem dL_turns_190 : decode cL_turns 190 = .ok (.imul, 1) := by decide +kernel
theorem dL_turns_191 : decode cL_turns 191 = .ok (.iload 10, 2) := by decide +kernel
theorem dL_turns_193 : decode cL_turns 193 = .ok (.iadd, 1) := by decide +kernel
theorem dL_turns_194 : decode cL_turns 194 = .ok (.iaload, 1) := by decide +kernel
theorem dL_turns_195 : decode cL_turns 195 = .ok (.iconst 1, 1) := by decide +kernel
theorem dL_turns_196 : decode cL_turns 196 = .ok (.iadd, 1) := by decide +kernel
theorem dL_turns_197 : decode cL_turns 197 = .ok (.iconst 2, 1) := by decide +kernel
theorem dL_turns_198 : decode cL_turns 198 = .ok (.idiv, 1) := by decide +kernel
theorem dL_turns_199 : decode cL_turns 199 = .ok (.imul, 1) := by decide +kernel
theorem dL_turns_200 : decode cL_turns 200 = .ok (.iadd, 1) := by decide +kernel
theorem dL_turns_201 : decode cL_turns 201 = .ok (.istore 9, 2) := by decide +kernel
theorem dL_turns_203 : decode cL_turns 203 = .ok (.iinc 10 1, 3) := by decide +kernel
theorem dL_turns_206 : decode cL_turns 206 = .ok (.goto (-67), 3) := by decide +kernel
theorem dL_turns_209 : decode cL_turns 209 = .ok (.aload_n 0, 1) := by decide +kernel
theorem dL_turns_210 : decode cL_turns 210 = .ok (.bipush 9, 2) := by decide +kernel
theorem dL_turns_212 : decode cL_turns 212 = .ok (.iload 7, 2) := by decide +kernel
theorem dL_turns_214 : decode cL_turns 214 = .ok (.imul, 1) := by decide +kernel
theorem dL_turns_215 : decode cL_turns 215 = .ok (.iconst 2, 1) := by decide +kernel
theorem dL_turns_216 : decode cL_turns 216 = .ok (.iadd, 1) := by decide +kernel
theorem dL_turns_217 : decode cL_turns 217 = .ok (.iload 9, 2) := by decide +kernel
theorem dL_turns_219 : decode cL_turns 219 = .ok (.iconst 2, 1) := by decide +kernel
theorem dL_turns_220 : decode cL_turns 220 = .ok (.idiv, 1) := by decide +kernel
theorem dL_turns_221 : decode cL_turns 221 = .ok (.iastore, 1) := by decide +kernel
theorem dL_turns_222 : decode cL_turns 222 = .ok (.iinc 7 1, 3) := by decide +kernel
theorem dL_turns_225 : decode cL_turns 225 = .ok (.goto (-120), 3) := by decide +kernel
theorem dL_turns_228 : decode cL_turns 228 = .ok (.iconst 0, 1) := by decide +kernel
theorem dL_turns_229 : decode cL_turns 229 = .ok (.istore 7, 2) := by decide +kernel
theorem dL_turns_231 : decode cL_turns 231 = .ok (.iload 7, 2) := by decide +kernel
theorem dL_turns_233 : decode cL_turns 233 = .ok (.bipush 6, 2) := by decide +kernel
theorem dL_turns_235 : decode cL_turns 235 = .ok (.if_icmp .ge 40, 3) := by decide +kernel
theorem dL_turns_238 : decode cL_turns 238 = .ok (.aload_n 0, 1) := by decide +kernel
theorem dL_turns_239 : decode cL_turns 239 = .ok (.bipush 9, 2) := by decide +kernel
theorem dL_turns_241 : decode cL_turns 241 = .ok (.iload 7, 2) := by decide +kernel
theorem dL_turns_243 : decode cL_turns 243 = .ok (.imul, 1) := by decide +kernel
theorem dL_turns_244 : decode cL_turns 244 = .ok (.bipush 6, 2) := by decide +kernel
theorem dL_turns_246 : decode cL_turns 246 = .ok (.iadd, 1) := by decide +kernel
theorem dL_turns_247 : decode cL_turns 247 = .ok (.dup2, 1) := by decide +kernel
theorem dL_turns_248 : decode cL_turns 248 = .ok (.iaload, 1) := by decide +kernel
theorem dL_turns_249 : decode cL_turns 249 = .ok (.aload_n 0, 1) := by decide +kernel
theorem dL_turns_250 : decode cL_turns 250 = .ok (.bipush 9, 2) := by decide +kernel
theorem dL_turns_252 : decode cL_turns 252 = .ok (.iload 7, 2) := by decide +kernel
theorem dL_turns_254 : decode cL_turns 254 = .ok (.imul, 1) := by decide +kernel
theorem dL_turns_255 : decode cL_turns 255 = .ok (.bipush 6, 2) := by decide +kernel
theorem dL_turns_257 : decode cL_turns 257 = .ok (.iadd, 1) := by decide +kernel
theorem dL_turns_258 : decode cL_turns 258 = .ok (.iaload, 1) := by decide +kernel
theorem dL_turns_259 : decode cL_turns 259 = .ok (.ifCond .le 7, 3) := by decide +kernel
theorem dL_turns_262 : decode cL_turns 262 = .ok (.iconst 1, 1) := by decide +kernel
theorem dL_turns_263 : decode cL_turns 263 = .ok (.goto 4, 3) := by decide +kernel
theorem dL_turns_266 : decode cL_turns 266 = .ok (.iconst 0, 1) := by decide +kernel
theorem dL_turns_267 : decode cL_turns 267 = .ok (.isub, 1) := by decide +kernel
theorem dL_turns_268 : decode cL_turns 268 = .ok (.iastore, 1) := by decide +kernel
theorem dL_turns_269 : decode cL_turns 269 = .ok (.iinc 7 1, 3) := by decide +kernel
theorem dL_turns_272 : decode cL_turns 272 = .ok (.goto (-41), 3) := by decide +kernel
theorem dL_turns_275 : decode cL_turns 275 = .ok (.iload 6, 2) := by decide +kernel
theorem dL_turns_277 : decode cL_turns 277 = .ok (.ifCond .lt 31, 3) := by decide +kernel
theorem dL_turns_280 : decode cL_turns 280 = .ok (.aload_n 0, 1) := by decide +kernel
theorem dL_turns_281 : decode cL_turns 281 = .ok (.bipush 9, 2) := by decide +kernel
theorem dL_turns_283 : decode cL_turns 283 = .ok (.iload 6, 2) := by decide +kernel
theorem dL_turns_285 : decode cL_turns 285 = .ok (.imul, 1) := by decide +kernel
theorem dL_turns_286 : decode cL_turns 286 = .ok (.bipush 6, 2) := by decide +kernel
theorem dL_turns_288 : decode cL_turns 288 = .ok (.iadd, 1) := by decide +kernel
theorem dL_turns_289 : decode cL_turns 289 = .ok (.aload 4, 2) := by decide +kernel
theorem dL_turns_291 : decode cL_turns 291 = .ok (.iconst 1, 1) := by decide +kernel
theorem dL_turns_292 : decode cL_turns 292 = .ok (.iaload, 1) := by decide +kernel
theorem dL_turns_293 : decode cL_turns 293 = .ok (.iastore, 1) := by decide +kernel
theorem dL_turns_294 : decode cL_turns 294 = .ok (.aload_n 0, 1) := by decide +kernel
theorem dL_turns_295 : decode cL_turns 295 = .ok (.bipush 9, 2) := by decide +kernel
theorem dL_turns_297 : decode cL_turns 297 = .ok (.iload 6, 2) := by decide +kernel
theorem dL_turns_299 : decode cL_turns 299 = .ok (.imul, 1) := by decide +kernel
theorem dL_turns_300 : decode cL_turns 300 = .ok (.bipush 8, 2) := by decide +kernel
theorem dL_turns_302 : decode cL_turns 302 = .ok (.iadd, 1) := by decide +kernel
theorem dL_turns_303 : decode cL_turns 303 = .ok (.dup2, 1) := by decide +kernel
theorem dL_turns_304 : decode cL_turns 304 = .ok (.iaload, 1) := by decide +kernel
theorem dL_turns_305 : decode cL_turns 305 = .ok (.iconst 1, 1) := by decide +kernel
theorem dL_turns_306 : decode cL_turns 306 = .ok (.iadd, 1) := by decide +kernel
theorem dL_turns_307 : decode cL_turns 307 = .ok (.iastore, 1) := by decide +kernel
theorem dL_turns_308 : decode cL_turns 308 = .ok (.aload 4, 2) := by decide +kernel
theorem dL_turns_310 : decode cL_turns 310 = .ok (.iconst 4, 1) := by decide +kernel
theorem dL_turns_311 : decode cL_turns 311 = .ok (.dup2, 1) := by decide +kernel
theorem dL_turns_312 : decode cL_turns 312 = .ok (.iaload, 1) := by decide +kernel
theorem dL_turns_313 : decode cL_turns 313 = .ok (.iload 6, 2) := by decide +kernel
theorem dL_turns_315 : decode cL_turns 315 = .ok (.ifCond .ge 7, 3) := by decide +kernel
theorem dL_turns_318 : decode cL_turns 318 = .ok (.iconst 1, 1) := by decide +kernel
theorem dL_turns_319 : decode cL_turns 319 = .ok (.goto 4, 3) := by decide +kernel
theorem dL_turns_322 : decode cL_turns 322 = .ok (.iconst 0, 1) := by decide +kernel
theorem dL_turns_323 : decode cL_turns 323 = .ok (.iadd, 1) := by decide +kernel
theorem dL_turns_324 : decode cL_turns 324 = .ok (.iastore, 1) := by decide +kernel
theorem dL_turns_325 : decode cL_turns 325 = .ok (.aload 4, 2) := by decide +kernel
theorem dL_turns_327 : decode cL_turns 327 = .ok (.iconst 3, 1) := by decide +kernel
theorem dL_turns_328 : decode cL_turns 328 = .ok (.iload 6, 2) := by decide +kernel
theorem dL_turns_330 : decode cL_turns 330 = .ok (.iastore, 1) := by decide +kernel
theorem dL_turns_331 : decode cL_turns 331 = .ok (.aload 4, 2) := by decide +kernel
theorem dL_turns_333 : decode cL_turns 333 = .ok (.iconst 2, 1) := by decide +kernel
theorem dL_turns_334 : decode cL_turns 334 = .ok (.dup2, 1) := by decide +kernel
theorem dL_turns_335 : decode cL_turns 335 = .ok (.iaload, 1) := by decide +kernel
