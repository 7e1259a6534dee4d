theorem dX0_init_0 : decode cX0_init 0 = .ok (.aload_n 0, 1) := by decide +kernel
theorem dX0_init_1 : decode cX0_init 1 = .ok (.invokespecial 3, 3) := by decide +kernel
theorem dX0_init_4 : decode cX0_init 4 = .ok (.aload_n 0, 1) := by decide +kernel
theorem dX0_init_5 : decode cX0_init 5 = .ok (.iconst 5, 1) := by decide +kernel
theorem dX0_init_6 : decode cX0_init 6 = .ok (.anewarray 9, 3) := by decide +kernel
theorem dX0_init_9 : decode cX0_init 9 = .ok (.putfield 11, 3) := by decide +kernel
theorem dX0_init_12 : decode cX0_init 12 = .ok (.aload_n 0, 1) := by decide +kernel
theorem dX0_init_13 : decode cX0_init 13 = .ok (.iconst 0, 1) := by decide +kernel
theorem dX0_init_14 : decode cX0_init 14 = .ok (.putfield 17, 3) := by decide +kernel
theorem dX0_init_17 : decode cX0_init 17 = .ok (.aload_n 0, 1) := by decide +kernel
theorem dX0_init_18 : decode cX0_init 18 = .ok (.iconst 0, 1) := by decide +kernel
theorem dX0_init_19 : decode cX0_init 19 = .ok (.putfield 21, 3) := by decide +kernel
theorem dX0_init_22 : decode cX0_init 22 = .ok (.iconst 0, 1) := by decide +kernel
theorem dX0_init_23 : decode cX0_init 23 = .ok (.istore_n 1, 1) := by decide +kernel
theorem dX0_init_24 : decode cX0_init 24 = .ok (.iload_n 1, 1) := by decide +kernel
theorem dX0_init_25 : decode cX0_init 25 = .ok (.iconst 5, 1) := by decide +kernel
theorem dX0_init_26 : decode cX0_init 26 = .ok (.if_icmp .ge 22, 3) := by decide +kernel
theorem dX0_init_29 : decode cX0_init 29 = .ok (.aload_n 0, 1) := by decide +kernel
theorem dX0_init_30 : decode cX0_init 30 = .ok (.getfield 11, 3) := by decide +kernel
theorem dX0_init_33 : decode cX0_init 33 = .ok (.iload_n 1, 1) := by decide +kernel
theorem dX0_init_34 : decode cX0_init 34 = .ok (.new 9, 3) := by decide +kernel
theorem dX0_init_37 : decode cX0_init 37 = .ok (.dup, 1) := by decide +kernel
theorem dX0_init_38 : decode cX0_init 38 = .ok (.invokespecial 24, 3) := by decide +kernel
theorem dX0_init_41 : decode cX0_init 41 = .ok (.aastore, 1) := by decide +kernel
theorem dX0_init_42 : decode cX0_init 42 = .ok (.iinc 1 1, 3) := by decide +kernel
theorem dX0_init_45 : decode cX0_init 45 = .ok (.goto (-21), 3) := by decide +kernel
theorem dX0_init_48 : decode cX0_init 48 = .ok (.return_, 1) := by decide +kernel
theorem dX0_record_0 : decode cX0_record 0 = .ok (.aload_n 0, 1) := by decide +kernel
theorem dX0_record_1 : decode cX0_record 1 = .ok (.getfield 11, 3) := by decide +kernel
theorem dX0_record_4 : decode cX0_record 4 = .ok (.aload_n 0, 1) := by decide +kernel
theorem dX0_record_5 : decode cX0_record 5 = .ok (.aload_n 0, 1) := by decide +kernel
theorem dX0_record_6 : decode cX0_record 6 = .ok (.getfield 21, 3) := by decide +kernel
theorem dX0_record_9 : decode cX0_record 9 = .ok (.invokevirtual 25, 3) := by decide +kernel
theorem dX0_record_12 : decode cX0_record 12 = .ok (.aaload, 1) := by decide +kernel
theorem dX0_record_13 : decode cX0_record 13 = .ok (.astore_n 2, 1) := by decide +kernel
theorem dX0_record_14 : decode cX0_record 14 = .ok (.aload_n 2, 1) := by decide +kernel
theorem dX0_record_15 : decode cX0_record 15 = .ok (.ifnull 8, 3) := by decide +kernel
theorem dX0_record_18 : decode cX0_record 18 = .ok (.aload_n 2, 1) := by decide +kernel
theorem dX0_record_19 : decode cX0_record 19 = .ok (.aload_n 1, 1) := by decide +kernel
theorem dX0_record_20 : decode cX0_record 20 = .ok (.invokevirtual 29, 3) := by decide +kernel
theorem dX0_record_23 : decode cX0_record 23 = .ok (.aload_n 0, 1) := by decide +kernel
theorem dX0_record_24 : decode cX0_record 24 = .ok (.getfield 21, 3) := by decide +kernel
theorem dX0_record_27 : decode cX0_record 27 = .ok (.iconst 5, 1) := by decide +kernel
theorem dX0_record_28 : decode cX0_record 28 = .ok (.if_icmp .ge 16, 3) := by decide +kernel
theorem dX0_record_31 : decode cX0_record 31 = .ok (.aload_n 0, 1) := by decide +kernel
theorem dX0_record_32 : decode cX0_record 32 = .ok (.dup, 1) := by decide +kernel
theorem dX0_record_33 : decode cX0_record 33 = .ok (.getfield 21, 3) := by decide +kernel
theorem dX0_record_36 : decode cX0_record 36 = .ok (.iconst 1, 1) := by decide +kernel
theorem dX0_record_37 : decode cX0_record 37 = .ok (.iadd, 1) := by decide +kernel
theorem dX0_record_38 : decode cX0_record 38 = .ok (.putfield 21, 3) := by decide +kernel
theorem dX0_record_41 : decode cX0_record 41 = .ok (.goto 12, 3) := by decide +kernel
theorem dX0_record_44 : decode cX0_record 44 = .ok (.aload_n 0, 1) := by decide +kernel
theorem dX0_record_45 : decode cX0_record 45 = .ok (.aload_n 0, 1) := by decide +kernel
theorem dX0_record_46 : decode cX0_record 46 = .ok (.iconst 1, 1) := by decide +kernel
theorem dX0_record_47 : decode cX0_record 47 = .ok (.invokevirtual 25, 3) := by decide +kernel
theorem dX0_record_50 : decode cX0_record 50 = .ok (.putfield 17, 3) := by decide +kernel
theorem dX0_record_53 : decode cX0_record 53 = .ok (.return_, 1) := by decide +kernel
theorem dX0_placeOf_0 : decode cX0_placeOf 0 = .ok (.aload_n 0, 1) := by decide +kernel
theorem dX0_placeOf_1 : decode cX0_placeOf 1 = .ok (.getfield 17, 3) := by decide +kernel
theorem dX0_placeOf_4 : decode cX0_placeOf 4 = .ok (.iload_n 1, 1) := by decide +kernel
theorem dX0_placeOf_5 : decode cX0_placeOf 5 = .ok (.iadd, 1) := by decide +kernel
theorem dX0_placeOf_6 : decode cX0_placeOf 6 = .ok (.iconst 5, 1) := by decide +kernel
theorem dX0_placeOf_7 : decode cX0_placeOf 7 = .ok (.irem, 1) := by decide +kernel
theorem dX0_placeOf_8 : decode cX0_placeOf 8 = .ok (.ireturn, 1) := by decide +kernel
theorem dX1_init_0 : decode cX1_init 0 = .ok (.aload_n 0, 1) := by decide +kernel
theorem dX1_init_1 : decode cX1_init 1 = .ok (.invokespecial 3, 3) := by decide +kernel
theorem dX1_init_4 : decode cX1_init 4 = .ok (.aload_n 0, 1) := by decide +kernel
theorem dX1_init_5 : decode cX1_init 5 = .ok (.bipush 30, 2) := by decide +kernel
theorem dX1_init_7 : decode cX1_init 7 = .ok (.newarray .int, 2) := by decide +kernel
theorem dX1_init_9 : decode cX1_init 9 = .ok (.putfield 9, 3) := by decide +kernel
theorem dX1_init_12 : decode cX1_init 12 = .ok (.aload_n 0, 1) := by decide +kernel
theorem dX1_init_13 : decode cX1_init 13 = .ok (.bipush 6, 2) := by decide +kernel
theorem dX1_init_15 : decode cX1_init 15 = .ok (.newarray .int, 2) := by decide +kernel
theorem dX1_init_17 : decode cX1_init 17 = .ok (.putfield 15, 3) := by decide +kernel
theorem dX1_init_20 : decode cX1_init 20 = .ok (.aload_n 0, 1) := by decide +kernel
theorem dX1_init_21 : decode cX1_init 21 = .ok (.bipush 6, 2) := by decide +kernel
theorem dX1_init_23 : decode cX1_init 23 = .ok (.newarray .int, 2) := by decide +kernel
theorem dX1_init_25 : decode cX1_init 25 = .ok (.putfield 18, 3) := by decide +kernel
theorem dX1_init_28 : decode cX1_init 28 = .ok (.aload_n 0, 1) := by decide +kernel
theorem dX1_init_29 : decode cX1_init 29 = .ok (.bipush 6, 2) := by decide +kernel
theorem dX1_init_31 : decode cX1_init 31 = .ok (.newarray .int, 2) := by decide +kernel
theorem dX1_init_33 : decode cX1_init 33 = .ok (.putfield 21, 3) := by decide +kernel
theorem dX1_init_36 : decode cX1_init 36 = .ok (.aload_n 0, 1) := by decide +kernel
theorem dX1_init_37 : decode cX1_init 37 = .ok (.bipush (-5), 2) := by decide +kernel
theorem dX1_init_39 : decode cX1_init 39 = .ok (.putfield 24, 3) := by decide +kernel
theorem dX1_init_42 : decode cX1_init 42 = .ok (.return_, 1) := by decide +kernel
theorem dX1_foresee_0 : decode cX1_foresee 0 = .ok (.aload_n 0, 1) := by decide +kernel
theorem dX1_foresee_1 : decode cX1_foresee 1 = .ok (.bipush (-5), 2) := by decide +kernel
theorem dX1_foresee_3 : decode cX1_foresee 3 = .ok (.putfield 24, 3) := by decide +kernel
theorem dX1_foresee_6 : decode cX1_foresee 6 = .ok (.iconst 0, 1) := by decide +kernel
theorem dX1_foresee_7 : decode cX1_foresee 7 = .ok (.istore_n 2, 1) := by decide +kernel
theorem dX1_foresee_8 : decode cX1_foresee 8 = .ok (.iconst 0, 1) := by decide +kernel
theorem dX1_foresee_9 : decode cX1_foresee 9 = .ok (.istore_n 3, 1) := by decide +kernel
theorem dX1_foresee_10 : decode cX1_foresee 10 = .ok (.iload_n 3, 1) := by decide +kernel
theorem dX1_foresee_11 : decode cX1_foresee 11 = .ok (.bipush 6, 2) := by decide +kernel
theorem dX1_foresee_13 : decode cX1_foresee 13 = .ok (.if_icmp .ge 37, 3) := by decide +kernel
theorem dX1_foresee_16 : decode cX1_foresee 16 = .ok (.aload_n 0, 1) := by decide +kernel
theorem dX1_foresee_17 : decode cX1_foresee 17 = .ok (.aload_n 1, 1) := by decide +kernel
theorem dX1_foresee_18 : decode cX1_foresee 18 = .ok (.iload_n 3, 1) := by decide +kernel
theorem dX1_foresee_19 : decode cX1_foresee 19 = .ok (.invokevirtual 28, 3) := by decide +kernel
theorem dX1_foresee_22 : decode cX1_foresee 22 = .ok (.aload_n 0, 1) := by decide +kernel
theorem dX1_foresee_23 : decode cX1_foresee 23 = .ok (.getfield 15, 3) := by decide +kernel
theorem dX1_foresee_26 : decode cX1_foresee 26 = .ok (.iload_n 3, 1) := by decide +kernel
theorem dX1_foresee_27 : decode cX1_foresee 27 = .ok (.iaload, 1) := by decide +kernel
theorem dX1_foresee_28 : decode cX1_foresee 28 = .ok (.iload_n 2, 1) := by decide +kernel
theorem dX1_foresee_29 : decode cX1_foresee 29 = .ok (.if_icmp .le 15, 3) := by decide +kernel
theorem dX1_foresee_32 : decode cX1_foresee 32 = .ok (.aload_n 0, 1) := by decide +kernel
theorem dX1_foresee_33 : decode cX1_foresee 33 = .ok (.getfield 15, 3) := by decide +kernel
theorem dX1_foresee_36 : decode cX1_foresee 36 = .ok (.iload_n 3, 1) := by decide +kernel
theorem dX1_foresee_37 : decode cX1_foresee 37 = .ok (.iaload, 1) := by decide +kernel
theorem dX1_foresee_38 : decode cX1_foresee 38 = .ok (.istore_n 2, 1) := by decide +kernel
theorem dX1_foresee_39 : decode cX1_foresee 39 = .ok (.aload_n 0, 1) := by decide +kernel
theorem dX1_foresee_40 : decode cX1_foresee 40 = .ok (.iload_n 3, 1) := by decide +kernel
theorem dX1_foresee_41 : decode cX1_foresee 41 = .ok (.putfield 24, 3) := by decide +kernel
theorem dX1_foresee_44 : decode cX1_foresee 44 = .ok (.iinc 3 1, 3) := by decide +kernel
theorem dX1_foresee_47 : decode cX1_foresee 47 = .ok (.goto (-37), 3) := by decide +kernel
theorem dX1_foresee_50 : decode cX1_foresee 50 = .ok (.iconst 0, 1) := by decide +kernel
theorem dX1_foresee_51 : decode cX1_foresee 51 = .ok (.istore_n 3, 1) := by decide +kernel
theorem dX1_foresee_52 : decode cX1_foresee 52 = .ok (.iload_n 3, 1) := by decide +kernel
theorem dX1_foresee_53 : decode cX1_foresee 53 = .ok (.bipush 6, 2) := by decide +kernel
theorem dX1_foresee_55 : decode cX1_foresee 55 = .ok (.if_icmp .ge 21, 3) := by decide +kernel
theorem dX1_foresee_58 : decode cX1_foresee 58 = .ok (.aload_n 0, 1) := by decide +kernel
theorem dX1_foresee_59 : decode cX1_foresee 59 = .ok (.getfield 21, 3) := by decide +kernel
theorem dX1_foresee_62 : decode cX1_foresee 62 = .ok (.iload_n 3, 1) := by decide +kernel
theorem dX1_foresee_63 : decode cX1_foresee 63 = .ok (.aload_n 0, 1) := by decide +kernel
theorem dX1_foresee_64 : decode cX1_foresee 64 = .ok (.aload_n 1, 1) := by decide +kernel
theorem dX1_foresee_65 : decode cX1_foresee 65 = .ok (.iload_n 3, 1) := by decide +kernel
theorem dX1_foresee_66 : decode cX1_foresee 66 = .ok (.invokevirtual 32, 3) := by decide +kernel
theorem dX1_foresee_69 : decode cX1_foresee 69 = .ok (.iastore, 1) := by decide +kernel
theorem dX1_foresee_70 : decode cX1_foresee 70 = .ok (.iinc 3 1, 3) := by decide +kernel
theorem dX1_foresee_73 : decode cX1_foresee 73 = .ok (.goto (-21), 3) := by decide +kernel
theorem dX1_foresee_76 : decode cX1_foresee 76 = .ok (.return_, 1) := by decide +kernel
theorem dX1_ringIn_0 : decode cX1_ringIn 0 = .ok (.aload_n 1, 1) := by decide +kernel
theorem dX1_ringIn_1 : decode cX1_ringIn 1 = .ok (.iload_n 2, 1) := by decide +kernel
theorem dX1_ringIn_2 : decode cX1_ringIn 2 = .ok (.invokevirtual 36, 3) := by decide +kernel
theorem dX1_ringIn_5 : decode cX1_ringIn 5 = .ok (.istore_n 3, 1) := by decide +kernel
theorem dX1_ringIn_6 : decode cX1_ringIn 6 = .ok (.aload_n 1, 1) := by decide +kernel
theorem dX1_ringIn_7 : decode cX1_ringIn 7 = .ok (.iload_n 2, 1) := by decide +kernel
theorem dX1_ringIn_8 : decode cX1_ringIn 8 = .ok (.invokevirtual 42, 3) := by decide +kernel
theorem dX1_ringIn_11 : decode cX1_ringIn 11 = .ok (.istore 4, 2) := by decide +kernel
theorem dX1_ringIn_13 : decode cX1_ringIn 13 = .ok (.iconst 0, 1) := by decide +kernel
theorem dX1_ringIn_14 : decode cX1_ringIn 14 = .ok (.istore 5, 2) := by decide +kernel
theorem dX1_ringIn_16 : decode cX1_ringIn 16 = .ok (.iconst 0, 1) := by decide +kernel
theorem dX1_ringIn_17 : decode cX1_ringIn 17 = .ok (.istore 6, 2) := by decide +kernel
theorem dX1_ringIn_19 : decode cX1_ringIn 19 = .ok (.iconst 0, 1) := by decide +kernel
theorem dX1_ringIn_20 : decode cX1_ringIn 20 = .ok (.istore 7, 2) := by decide +kernel
theorem dX1_ringIn_22 : decode cX1_ringIn 22 = .ok (.iload 7, 2) := by decide +kernel
theorem dX1_ringIn_24 : decode cX1_ringIn 24 = .ok (.iconst 5, 1) := by decide +kernel
theorem dX1_ringIn_25 : decode cX1_ringIn 25 = .ok (.if_icmp .ge 151, 3) := by decide +kernel
theorem dX1_ringIn_28 : decode cX1_ringIn 28 = .ok (.iload_n 2, 1) := by decide +kernel
theorem dX1_ringIn_29 : decode cX1_ringIn 29 = .ok (.iload 7, 2) := by decide +kernel
theorem dX1_ringIn_31 : decode cX1_ringIn 31 = .ok (.invokestatic 45, 3) := by decide +kernel
theorem dX1_ringIn_34 : decode cX1_ringIn 34 = .ok (.istore 8, 2) := by decide +kernel
theorem dX1_ringIn_36 : decode cX1_ringIn 36 = .ok (.iload_n 3, 1) := by decide +kernel
theorem dX1_ringIn_37 : decode cX1_ringIn 37 = .ok (.iload 7, 2) := by decide +kernel
theorem dX1_ringIn_39 : decode cX1_ringIn 39 = .ok (.ishr, 1) := by decide +kernel
theorem dX1_ringIn_40 : decode cX1_ringIn 40 = .ok (.iconst 1, 1) := by decide +kernel
theorem dX1_ringIn_41 : decode cX1_ringIn 41 = .ok (.iand, 1) := by decide +kernel
theorem dX1_ringIn_42 : decode cX1_ringIn 42 = .ok (.iconst 1, 1) := by decide +kernel
theorem dX1_ringIn_43 : decode cX1_ringIn 43 = .ok (.if_icmp .ne 7, 3) := by decide +kernel
theorem dX1_ringIn_46 : decode cX1_ringIn 46 = .ok (.iconst 1, 1) := by decide +kernel
theorem dX1_ringIn_47 : decode cX1_ringIn 47 = .ok (.goto 4, 3) := by decide +kernel
theorem dX1_ringIn_50 : decode cX1_ringIn 50 = .ok (.iconst 0, 1) := by decide +kernel
theorem dX1_ringIn_51 : decode cX1_ringIn 51 = .ok (.istore 9, 2) := by decide +kernel
theorem dX1_ringIn_53 : decode cX1_ringIn 53 = .ok (.aload_n 1, 1) := by decide +kernel
theorem dX1_ringIn_54 : decode cX1_ringIn 54 = .ok (.getfield 49, 3) := by decide +kernel
theorem dX1_ringIn_57 : decode cX1_ringIn 57 = .ok (.iload 8, 2) := by decide +kernel
theorem dX1_ringIn_59 : decode cX1_ringIn 59 = .ok (.iaload, 1) := by decide +kernel
theorem dX1_ringIn_60 : decode cX1_ringIn 60 = .ok (.istore 10, 2) := by decide +kernel
theorem dX1_ringIn_62 : decode cX1_ringIn 62 = .ok (.aload_n 1, 1) := by decide +kernel
theorem dX1_ringIn_63 : decode cX1_ringIn 63 = .ok (.getfield 52, 3) := by decide +kernel
theorem dX1_ringIn_66 : decode cX1_ringIn 66 = .ok (.iload_n 2, 1) := by decide +kernel
theorem dX1_ringIn_67 : decode cX1_ringIn 67 = .ok (.iaload, 1) := by decide +kernel
theorem dX1_ringIn_68 : decode cX1_ringIn 68 = .ok (.ifCond .le 14, 3) := by decide +kernel
theorem dX1_ringIn_71 : decode cX1_ringIn 71 = .ok (.aload_n 0, 1) := by decide +kernel
theorem dX1_ringIn_72 : decode cX1_ringIn 72 = .ok (.getfield 9, 3) := by decide +kernel
theorem dX1_ringIn_75 : decode cX1_ringIn 75 = .ok (.iload 8, 2) := by decide +kernel
theorem dX1_ringIn_77 : decode cX1_ringIn 77 = .ok (.iconst 1, 1) := by decide +kernel
theorem dX1_ringIn_78 : decode cX1_ringIn 78 = .ok (.iastore, 1) := by decide +kernel
theorem dX1_ringIn_79 : decode cX1_ringIn 79 = .ok (.goto 91, 3) := by decide +kernel
theorem dX1_ringIn_82 : decode cX1_ringIn 82 = .ok (.iload 9, 2) := by decide +kernel
theorem dX1_ringIn_84 : decode cX1_ringIn 84 = .ok (.ifCond .ne 14, 3) := by decide +kernel
theorem dX1_ringIn_87 : decode cX1_ringIn 87 = .ok (.aload_n 0, 1) := by decide +kernel
theorem dX1_ringIn_88 : decode cX1_ringIn 88 = .ok (.getfield 9, 3) := by decide +kernel
theorem dX1_ringIn_91 : decode cX1_ringIn 91 = .ok (.iload 8, 2) := by decide +kernel
theorem dX1_ringIn_93 : decode cX1_ringIn 93 = .ok (.iconst 2, 1) := by decide +kernel
theorem dX1_ringIn_94 : decode cX1_ringIn 94 = .ok (.iastore, 1) := by decide +kernel
theorem dX1_ringIn_95 : decode cX1_ringIn 95 = .ok (.goto 75, 3) := by decide +kernel
theorem dX1_ringIn_98 : decode cX1_ringIn 98 = .ok (.aload_n 1, 1) := by decide +kernel
theorem dX1_ringIn_99 : decode cX1_ringIn 99 = .ok (.getfield 55, 3) := by decide +kernel
theorem dX1_ringIn_102 : decode cX1_ringIn 102 = .ok (.iload 8, 2) := by decide +kernel
theorem dX1_ringIn_104 : decode cX1_ringIn 104 = .ok (.iaload, 1) := by decide +kernel
theorem dX1_ringIn_105 : decode cX1_ringIn 105 = .ok (.bipush 6, 2) := by decide +kernel
theorem dX1_ringIn_107 : decode cX1_ringIn 107 = .ok (.if_icmp .lt 14, 3) := by decide +kernel
theorem dX1_ringIn_110 : decode cX1_ringIn 110 = .ok (.aload_n 0, 1) := by decide +kernel
theorem dX1_ringIn_111 : decode cX1_ringIn 111 = .ok (.getfield 9, 3) := by decide +kernel
theorem dX1_ringIn_114 : decode cX1_ringIn 114 = .ok (.iload 8, 2) := by decide +kernel
theorem dX1_ringIn_116 : decode cX1_ringIn 116 = .ok (.iconst 3, 1) := by decide +kernel
theorem dX1_ringIn_117 : decode cX1_ringIn 117 = .ok (.iastore, 1) := by decide +kernel
theorem dX1_ringIn_118 : decode cX1_ringIn 118 = .ok (.goto 52, 3) := by decide +kernel
theorem dX1_ringIn_121 : decode cX1_ringIn 121 = .ok (.iload 10, 2) := by decide +kernel
theorem dX1_ringIn_123 : decode cX1_ringIn 123 = .ok (.invokestatic 58, 3) := by decide +kernel
theorem dX1_ringIn_126 : decode cX1_ringIn 126 = .ok (.iload 4, 2) := by decide +kernel
theorem dX1_ringIn_128 : decode cX1_ringIn 128 = .ok (.iload 6, 2) := by decide +kernel
theorem dX1_ringIn_130 : decode cX1_ringIn 130 = .ok (.isub, 1) := by decide +kernel
theorem dX1_ringIn_131 : decode cX1_ringIn 131 = .ok (.if_icmp .le 14, 3) := by decide +kernel
theorem dX1_ringIn_134 : decode cX1_ringIn 134 = .ok (.aload_n 0, 1) := by decide +kernel
theorem dX1_ringIn_135 : decode cX1_ringIn 135 = .ok (.getfield 9, 3) := by decide +kernel
theorem dX1_ringIn_138 : decode cX1_ringIn 138 = .ok (.iload 8, 2) := by decide +kernel
theorem dX1_ringIn_140 : decode cX1_ringIn 140 = .ok (.iconst 4, 1) := by decide +kernel
theorem dX1_ringIn_141 : decode cX1_ringIn 141 = .ok (.iastore, 1) := by decide +kernel
theorem dX1_ringIn_142 : decode cX1_ringIn 142 = .ok (.goto 28, 3) := by decide +kernel
theorem dX1_ringIn_145 : decode cX1_ringIn 145 = .ok (.aload_n 0, 1) := by decide +kernel
theorem dX1_ringIn_146 : decode cX1_ringIn 146 = .ok (.getfield 9, 3) := by decide +kernel
theorem dX1_ringIn_149 : decode cX1_ringIn 149 = .ok (.iload 8, 2) := by decide +kernel
theorem dX1_ringIn_151 : decode cX1_ringIn 151 = .ok (.iconst 0, 1) := by decide +kernel
theorem dX1_ringIn_152 : decode cX1_ringIn 152 = .ok (.iastore, 1) := by decide +kernel
theorem dX1_ringIn_153 : decode cX1_ringIn 153 = .ok (.iload 5, 2) := by decide +kernel
theorem dX1_ringIn_155 : decode cX1_ringIn 155 = .ok (.iload 10, 2) := by decide +kernel
theorem dX1_ringIn_157 : decode cX1_ringIn 157 = .ok (.iadd, 1) := by decide +kernel
theorem dX1_ringIn_158 : decode cX1_ringIn 158 = .ok (.istore 5, 2) := by decide +kernel
theorem dX1_ringIn_160 : decode cX1_ringIn 160 = .ok (.iload 6, 2) := by decide +kernel
theorem dX1_ringIn_162 : decode cX1_ringIn 162 = .ok (.iload 10, 2) := by decide +kernel
theorem dX1_ringIn_164 : decode cX1_ringIn 164 = .ok (.invokestatic 58, 3) := by decide +kernel
theorem dX1_ringIn_167 : decode cX1_ringIn 167 = .ok (.iadd, 1) := by decide +kernel
theorem dX1_ringIn_168 : decode cX1_ringIn 168 = .ok (.istore 6, 2) := by decide +kernel
theorem dX1_ringIn_170 : decode cX1_ringIn 170 = .ok (.iinc 7 1, 3) := by decide +kernel
theorem dX1_ringIn_173 : decode cX1_ringIn 173 = .ok (.goto (-151), 3) := by decide +kernel
theorem dX1_ringIn_176 : decode cX1_ringIn 176 = .ok (.aload_n 0, 1) := by decide +kernel
theorem dX1_ringIn_177 : decode cX1_ringIn 177 = .ok (.getfield 15, 3) := by decide +kernel
theorem dX1_ringIn_180 : decode cX1_ringIn 180 = .ok (.iload_n 2, 1) := by decide +kernel
theorem dX1_ringIn_181 : decode cX1_ringIn 181 = .ok (.iload 5, 2) := by decide +kernel
theorem dX1_ringIn_183 : decode cX1_ringIn 183 = .ok (.iastore, 1) := by decide +kernel
theorem dX1_ringIn_184 : decode cX1_ringIn 184 = .ok (.aload_n 0, 1) := by decide +kernel
theorem dX1_ringIn_185 : decode cX1_ringIn 185 = .ok (.getfield 18, 3) := by decide +kernel
theorem dX1_ringIn_188 : decode cX1_ringIn 188 = .ok (.iload_n 2, 1) := by decide +kernel
theorem dX1_ringIn_189 : decode cX1_ringIn 189 = .ok (.iload 6, 2) := by decide +kernel
theorem dX1_ringIn_191 : decode cX1_ringIn 191 = .ok (.iastore, 1) := by decide +kernel
theorem dX1_ringIn_192 : decode cX1_ringIn 192 = .ok (.return_, 1) := by decide +kernel
theorem dX1_soundIn_0 : decode cX1_soundIn 0 = .ok (.aload_n 1, 1) := by decide +kernel
theorem dX1_soundIn_1 : decode cX1_soundIn 1 = .ok (.getfield 61, 3) := by decide +kernel
theorem dX1_soundIn_4 : decode cX1_soundIn 4 = .ok (.iload_n 2, 1) := by decide +kernel
theorem dX1_soundIn_5 : decode cX1_soundIn 5 = .ok (.iaload, 1) := by decide +kernel
theorem dX1_soundIn_6 : decode cX1_soundIn 6 = .ok (.aload_n 1, 1) := by decide +kernel
theorem dX1_soundIn_7 : decode cX1_soundIn 7 = .ok (.getfield 61, 3) := by decide +kernel
theorem dX1_soundIn_10 : decode cX1_soundIn 10 = .ok (.iload_n 3, 1) := by decide +kernel
theorem dX1_soundIn_11 : decode cX1_soundIn 11 = .ok (.iaload, 1) := by decide +kernel
theorem dX1_soundIn_12 : decode cX1_soundIn 12 = .ok (.isub, 1) := by decide +kernel
theorem dX1_soundIn_13 : decode cX1_soundIn 13 = .ok (.invokestatic 64, 3) := by decide +kernel
theorem dX1_soundIn_16 : decode cX1_soundIn 16 = .ok (.istore 4, 2) := by decide +kernel
theorem dX1_soundIn_18 : decode cX1_soundIn 18 = .ok (.iconst 0, 1) := by decide +kernel
theorem dX1_soundIn_19 : decode cX1_soundIn 19 = .ok (.aload_n 0, 1) := by decide +kernel
theorem dX1_soundIn_20 : decode cX1_soundIn 20 = .ok (.getfield 15, 3) := by decide +kernel
theorem dX1_soundIn_23 : decode cX1_soundIn 23 = .ok (.iload_n 2, 1) := by decide +kernel
theorem dX1_soundIn_24 : decode cX1_soundIn 24 = .ok (.iaload, 1) := by decide +kernel
theorem dX1_soundIn_25 : decode cX1_soundIn 25 = .ok (.aload_n 1, 1) := by decide +kernel
theorem dX1_soundIn_26 : decode cX1_soundIn 26 = .ok (.getfield 69, 3) := by decide +kernel
theorem dX1_soundIn_29 : decode cX1_soundIn 29 = .ok (.iload 4, 2) := by decide +kernel
theorem dX1_soundIn_31 : decode cX1_soundIn 31 = .ok (.imul, 1) := by decide +kernel
theorem dX1_soundIn_32 : decode cX1_soundIn 32 = .ok (.isub, 1) := by decide +kernel
theorem dX1_soundIn_33 : decode cX1_soundIn 33 = .ok (.invokestatic 72, 3) := by decide +kernel
theorem dX1_soundIn_36 : decode cX1_soundIn 36 = .ok (.ireturn, 1) := by decide +kernel
theorem dX1_winnerIn_0 : decode cX1_winnerIn 0 = .ok (.iconst 0, 1) := by decide +kernel
theorem dX1_winnerIn_1 : decode cX1_winnerIn 1 = .ok (.istore_n 3, 1) := by decide +kernel
theorem dX1_winnerIn_2 : decode cX1_winnerIn 2 = .ok (.bipush (-5), 2) := by decide +kernel
theorem dX1_winnerIn_4 : decode cX1_winnerIn 4 = .ok (.istore 4, 2) := by decide +kernel
theorem dX1_winnerIn_6 : decode cX1_winnerIn 6 = .ok (.iconst 0, 1) := by decide +kernel
theorem dX1_winnerIn_7 : decode cX1_winnerIn 7 = .ok (.istore 5, 2) := by decide +kernel
theorem dX1_winnerIn_9 : decode cX1_winnerIn 9 = .ok (.iload 5, 2) := by decide +kernel
theorem dX1_winnerIn_11 : decode cX1_winnerIn 11 = .ok (.bipush 6, 2) := by decide +kernel
theorem dX1_winnerIn_13 : decode cX1_winnerIn 13 = .ok (.if_icmp .ge 45, 3) := by decide +kernel
theorem dX1_winnerIn_16 : decode cX1_winnerIn 16 = .ok (.aload_n 0, 1) := by decide +kernel
theorem dX1_winnerIn_17 : decode cX1_winnerIn 17 = .ok (.aload_n 1, 1) := by decide +kernel
theorem dX1_winnerIn_18 : decode cX1_winnerIn 18 = .ok (.iload 5, 2) := by decide +kernel
theorem dX1_winnerIn_20 : decode cX1_winnerIn 20 = .ok (.iload_n 2, 1) := by decide +kernel
theorem dX1_winnerIn_21 : decode cX1_winnerIn 21 = .ok (.invokevirtual 75, 3) := by decide +kernel
theorem dX1_winnerIn_24 : decode cX1_winnerIn 24 = .ok (.istore 6, 2) := by decide +kernel
theorem dX1_winnerIn_26 : decode cX1_winnerIn 26 = .ok (.iload 6, 2) := by decide +kernel
theorem dX1_winnerIn_28 : decode cX1_winnerIn 28 = .ok (.iload_n 3, 1) := by decide +kernel
theorem dX1_winnerIn_29 : decode cX1_winnerIn 29 = .ok (.if_icmp .le 13, 3) := by decide +kernel
theorem dX1_winnerIn_32 : decode cX1_winnerIn 32 = .ok (.iload 6, 2) := by decide +kernel
theorem dX1_winnerIn_34 : decode cX1_winnerIn 34 = .ok (.istore_n 3, 1) := by decide +kernel
theorem dX1_winnerIn_35 : decode cX1_winnerIn 35 = .ok (.iload 5, 2) := by decide +kernel
theorem dX1_winnerIn_37 : decode cX1_winnerIn 37 = .ok (.istore 4, 2) := by decide +kernel
theorem dX1_winnerIn_39 : decode cX1_winnerIn 39 = .ok (.goto 13, 3) := by decide +kernel
theorem dX1_winnerIn_42 : decode cX1_winnerIn 42 = .ok (.iload 6, 2) := by decide +kernel
theorem dX1_winnerIn_44 : decode cX1_winnerIn 44 = .ok (.iload_n 3, 1) := by decide +kernel
theorem dX1_winnerIn_45 : decode cX1_winnerIn 45 = .ok (.if_icmp .ne 7, 3) := by decide +kernel
theorem dX1_winnerIn_48 : decode cX1_winnerIn 48 = .ok (.bipush (-5), 2) := by decide +kernel
theorem dX1_winnerIn_50 : decode cX1_winnerIn 50 = .ok (.istore 4, 2) := by decide +kernel
theorem dX1_winnerIn_52 : decode cX1_winnerIn 52 = .ok (.iinc 5 1, 3) := by decide +kernel
theorem dX1_winnerIn_55 : decode cX1_winnerIn 55 = .ok (.goto (-46), 3) := by decide +kernel
theorem dX1_winnerIn_58 : decode cX1_winnerIn 58 = .ok (.iload 4, 2) := by decide +kernel
theorem dX1_winnerIn_60 : decode cX1_winnerIn 60 = .ok (.ireturn, 1) := by decide +kernel
theorem dX1_pointsOf_0 : decode cX1_pointsOf 0 = .ok (.iconst 0, 1) := by decide +kernel
theorem dX1_pointsOf_1 : decode cX1_pointsOf 1 = .ok (.istore_n 2, 1) := by decide +kernel
theorem dX1_pointsOf_2 : decode cX1_pointsOf 2 = .ok (.iconst 0, 1) := by decide +kernel
theorem dX1_pointsOf_3 : decode cX1_pointsOf 3 = .ok (.istore_n 3, 1) := by decide +kernel
theorem dX1_pointsOf_4 : decode cX1_pointsOf 4 = .ok (.iload_n 3, 1) := by decide +kernel
theorem dX1_pointsOf_5 : decode cX1_pointsOf 5 = .ok (.bipush 6, 2) := by decide +kernel
theorem dX1_pointsOf_7 : decode cX1_pointsOf 7 = .ok (.if_icmp .ge 22, 3) := by decide +kernel
theorem dX1_pointsOf_10 : decode cX1_pointsOf 10 = .ok (.aload_n 0, 1) := by decide +kernel
theorem dX1_pointsOf_11 : decode cX1_pointsOf 11 = .ok (.getfield 21, 3) := by decide +kernel
theorem dX1_pointsOf_14 : decode cX1_pointsOf 14 = .ok (.iload_n 3, 1) := by decide +kernel
theorem dX1_pointsOf_15 : decode cX1_pointsOf 15 = .ok (.iaload, 1) := by decide +kernel
theorem dX1_pointsOf_16 : decode cX1_pointsOf 16 = .ok (.iload_n 1, 1) := by decide +kernel
theorem dX1_pointsOf_17 : decode cX1_pointsOf 17 = .ok (.if_icmp .ne 6, 3) := by decide +kernel
theorem dX1_pointsOf_20 : decode cX1_pointsOf 20 = .ok (.iinc 2 1, 3) := by decide +kernel
theorem dX1_pointsOf_23 : decode cX1_pointsOf 23 = .ok (.iinc 3 1, 3) := by decide +kernel
theorem dX1_pointsOf_26 : decode cX1_pointsOf 26 = .ok (.goto (-22), 3) := by decide +kernel
theorem dX1_pointsOf_29 : decode cX1_pointsOf 29 = .ok (.iload_n 2, 1) := by decide +kernel
theorem dX1_pointsOf_30 : decode cX1_pointsOf 30 = .ok (.ireturn, 1) := by decide +kernel
theorem dX2_init_0 : decode cX2_init 0 = .ok (.aload_n 0, 1) := by decide +kernel
theorem dX2_init_1 : decode cX2_init 1 = .ok (.invokespecial 5, 3) := by decide +kernel
theorem dX2_init_4 : decode cX2_init 4 = .ok (.aload_n 0, 1) := by decide +kernel
theorem dX2_init_5 : decode cX2_init 5 = .ok (.bipush 60, 2) := by decide +kernel
theorem dX2_init_7 : decode cX2_init 7 = .ok (.newarray .char, 2) := by decide +kernel
theorem dX2_init_9 : decode cX2_init 9 = .ok (.putfield 11, 3) := by decide +kernel
theorem dX2_init_12 : decode cX2_init 12 = .ok (.aload_n 0, 1) := by decide +kernel
theorem dX2_init_13 : decode cX2_init 13 = .ok (.iconst 0, 1) := by decide +kernel
theorem dX2_init_14 : decode cX2_init 14 = .ok (.putfield 15, 3) := by decide +kernel
theorem dX2_init_17 : decode cX2_init 17 = .ok (.return_, 1) := by decide +kernel
theorem dX3_init_0 : decode cX3_init 0 = .ok (.aload_n 0, 1) := by decide +kernel
theorem dX3_init_1 : decode cX3_init 1 = .ok (.invokespecial 3, 3) := by decide +kernel
theorem dX3_init_4 : decode cX3_init 4 = .ok (.aload_n 0, 1) := by decide +kernel
theorem dX3_init_5 : decode cX3_init 5 = .ok (.bipush 6, 2) := by decide +kernel
theorem dX3_init_7 : decode cX3_init 7 = .ok (.newarray .int, 2) := by decide +kernel
theorem dX3_init_9 : decode cX3_init 9 = .ok (.putfield 9, 3) := by decide +kernel
theorem dX3_init_12 : decode cX3_init 12 = .ok (.aload_n 0, 1) := by decide +kernel
theorem dX3_init_13 : decode cX3_init 13 = .ok (.bipush 6, 2) := by decide +kernel
theorem dX3_init_15 : decode cX3_init 15 = .ok (.newarray .int, 2) := by decide +kernel
theorem dX3_init_17 : decode cX3_init 17 = .ok (.putfield 15, 3) := by decide +kernel
theorem dX3_init_20 : decode cX3_init 20 = .ok (.aload_n 0, 1) := by decide +kernel
theorem dX3_init_21 : decode cX3_init 21 = .ok (.bipush 6, 2) := by decide +kernel
theorem dX3_init_23 : decode cX3_init 23 = .ok (.newarray .int, 2) := by decide +kernel
theorem dX3_init_25 : decode cX3_init 25 = .ok (.putfield 18, 3) := by decide +kernel
theorem dX3_init_28 : decode cX3_init 28 = .ok (.aload_n 0, 1) := by decide +kernel
theorem dX3_init_29 : decode cX3_init 29 = .ok (.bipush 6, 2) := by decide +kernel
theorem dX3_init_31 : decode cX3_init 31 = .ok (.newarray .int, 2) := by decide +kernel
theorem dX3_init_33 : decode cX3_init 33 = .ok (.putfield 21, 3) := by decide +kernel
theorem dX3_init_36 : decode cX3_init 36 = .ok (.aload_n 0, 1) := by decide +kernel
theorem dX3_init_37 : decode cX3_init 37 = .ok (.bipush 6, 2) := by decide +kernel
theorem dX3_init_39 : decode cX3_init 39 = .ok (.newarray .int, 2) := by decide +kernel
theorem dX3_init_41 : decode cX3_init 41 = .ok (.putfield 24, 3) := by decide +kernel
theorem dX3_init_44 : decode cX3_init 44 = .ok (.aload_n 0, 1) := by decide +kernel
theorem dX3_init_45 : decode cX3_init 45 = .ok (.bipush 6, 2) := by decide +kernel
theorem dX3_init_47 : decode cX3_init 47 = .ok (.newarray .int, 2) := by decide +kernel
theorem dX3_init_49 : decode cX3_init 49 = .ok (.putfield 27, 3) := by decide +kernel
theorem dX3_init_52 : decode cX3_init 52 = .ok (.aload_n 0, 1) := by decide +kernel
theorem dX3_init_53 : decode cX3_init 53 = .ok (.bipush 6, 2) := by decide +kernel
theorem dX3_init_55 : decode cX3_init 55 = .ok (.newarray .int, 2) := by decide +kernel
theorem dX3_init_57 : decode cX3_init 57 = .ok (.putfield 30, 3) := by decide +kernel
theorem dX3_init_60 : decode cX3_init 60 = .ok (.aload_n 0, 1) := by decide +kernel
theorem dX3_init_61 : decode cX3_init 61 = .ok (.bipush 6, 2) := by decide +kernel
theorem dX3_init_63 : decode cX3_init 63 = .ok (.newarray .int, 2) := by decide +kernel
theorem dX3_init_65 : decode cX3_init 65 = .ok (.putfield 33, 3) := by decide +kernel
theorem dX3_init_68 : decode cX3_init 68 = .ok (.aload_n 0, 1) := by decide +kernel
theorem dX3_init_69 : decode cX3_init 69 = .ok (.bipush 6, 2) := by decide +kernel
theorem dX3_init_71 : decode cX3_init 71 = .ok (.newarray .int, 2) := by decide +kernel
theorem dX3_init_73 : decode cX3_init 73 = .ok (.putfield 36, 3) := by decide +kernel
theorem dX3_init_76 : decode cX3_init 76 = .ok (.aload_n 0, 1) := by decide +kernel
theorem dX3_init_77 : decode cX3_init 77 = .ok (.bipush 30, 2) := by decide +kernel
theorem dX3_init_79 : decode cX3_init 79 = .ok (.newarray .int, 2) := by decide +kernel
theorem dX3_init_81 : decode cX3_init 81 = .ok (.putfield 39, 3) := by decide +kernel
theorem dX3_init_84 : decode cX3_init 84 = .ok (.aload_n 0, 1) := by decide +kernel
theorem dX3_init_85 : decode cX3_init 85 = .ok (.bipush 30, 2) := by decide +kernel
theorem dX3_init_87 : decode cX3_init 87 = .ok (.newarray .int, 2) := by decide +kernel
theorem dX3_init_89 : decode cX3_init 89 = .ok (.putfield 42, 3) := by decide +kernel
theorem dX3_init_92 : decode cX3_init 92 = .ok (.aload_n 0, 1) := by decide +kernel
theorem dX3_init_93 : decode cX3_init 93 = .ok (.bipush 30, 2) := by decide +kernel
theorem dX3_init_95 : decode cX3_init 95 = .ok (.newarray .int, 2) := by decide +kernel
theorem dX3_init_97 : decode cX3_init 97 = .ok (.putfield 45, 3) := by decide +kernel
theorem dX3_init_100 : decode cX3_init 100 = .ok (.aload_n 0, 1) := by decide +kernel
theorem dX3_init_101 : decode cX3_init 101 = .ok (.iconst 1, 1) := by decide +kernel
theorem dX3_init_102 : decode cX3_init 102 = .ok (.putfield 48, 3) := by decide +kernel
theorem dX3_init_105 : decode cX3_init 105 = .ok (.aload_n 0, 1) := by decide +kernel
theorem dX3_init_106 : decode cX3_init 106 = .ok (.iconst 1, 1) := by decide +kernel
theorem dX3_init_107 : decode cX3_init 107 = .ok (.putfield 52, 3) := by decide +kernel
theorem dX3_init_110 : decode cX3_init 110 = .ok (.aload_n 0, 1) := by decide +kernel
theorem dX3_init_111 : decode cX3_init 111 = .ok (.iconst 0, 1) := by decide +kernel
theorem dX3_init_112 : decode cX3_init 112 = .ok (.putfield 55, 3) := by decide +kernel
theorem dX3_init_115 : decode cX3_init 115 = .ok (.aload_n 0, 1) := by decide +kernel
theorem dX3_init_116 : decode cX3_init 116 = .ok (.iconst 0, 1) := by decide +kernel
theorem dX3_init_117 : decode cX3_init 117 = .ok (.putfield 58, 3) := by decide +kernel
theorem dX3_init_120 : decode cX3_init 120 = .ok (.aload_n 0, 1) := by decide +kernel
theorem dX3_init_121 : decode cX3_init 121 = .ok (.bipush (-5), 2) := by decide +kernel
theorem dX3_init_123 : decode cX3_init 123 = .ok (.putfield 61, 3) := by decide +kernel
theorem dX3_init_126 : decode cX3_init 126 = .ok (.iconst 0, 1) := by decide +kernel
theorem dX3_init_127 : decode cX3_init 127 = .ok (.istore_n 1, 1) := by decide +kernel
theorem dX3_init_128 : decode cX3_init 128 = .ok (.iload_n 1, 1) := by decide +kernel
theorem dX3_init_129 : decode cX3_init 129 = .ok (.bipush 6, 2) := by decide +kernel
theorem dX3_init_131 : decode cX3_init 131 = .ok (.if_icmp .ge 33, 3) := by decide +kernel
theorem dX3_init_134 : decode cX3_init 134 = .ok (.aload_n 0, 1) := by decide +kernel
theorem dX3_init_135 : decode cX3_init 135 = .ok (.getfield 9, 3) := by decide +kernel
theorem dX3_init_138 : decode cX3_init 138 = .ok (.iload_n 1, 1) := by decide +kernel
theorem dX3_init_139 : decode cX3_init 139 = .ok (.iconst 4, 1) := by decide +kernel
theorem dX3_init_140 : decode cX3_init 140 = .ok (.iload_n 1, 1) := by decide +kernel
theorem dX3_init_141 : decode cX3_init 141 = .ok (.imul, 1) := by decide +kernel
theorem dX3_init_142 : decode cX3_init 142 = .ok (.iastore, 1) := by decide +kernel
theorem dX3_init_143 : decode cX3_init 143 = .ok (.aload_n 0, 1) := by decide +kernel
theorem dX3_init_144 : decode cX3_init 144 = .ok (.getfield 15, 3) := by decide +kernel
theorem dX3_init_147 : decode cX3_init 147 = .ok (.iload_n 1, 1) := by decide +kernel
theorem dX3_init_148 : decode cX3_init 148 = .ok (.bipush 8, 2) := by decide +kernel
theorem dX3_init_150 : decode cX3_init 150 = .ok (.iastore, 1) := by decide +kernel
theorem dX3_init_151 : decode cX3_init 151 = .ok (.aload_n 0, 1) := by decide +kernel
theorem dX3_init_152 : decode cX3_init 152 = .ok (.getfield 27, 3) := by decide +kernel
theorem dX3_init_155 : decode cX3_init 155 = .ok (.iload_n 1, 1) := by decide +kernel
theorem dX3_init_156 : decode cX3_init 156 = .ok (.iload_n 1, 1) := by decide +kernel
theorem dX3_init_157 : decode cX3_init 157 = .ok (.iastore, 1) := by decide +kernel
theorem dX3_init_158 : decode cX3_init 158 = .ok (.iinc 1 1, 3) := by decide +kernel
theorem dX3_init_161 : decode cX3_init 161 = .ok (.goto (-33), 3) := by decide +kernel
theorem dX3_init_164 : decode cX3_init 164 = .ok (.return_, 1) := by decide +kernel
theorem dX3_copyFrom_0 : decode cX3_copyFrom 0 = .ok (.aload_n 1, 1) := by decide +kernel
theorem dX3_copyFrom_1 : decode cX3_copyFrom 1 = .ok (.getfield 9, 3) := by decide +kernel
theorem dX3_copyFrom_4 : decode cX3_copyFrom 4 = .ok (.aload_n 0, 1) := by decide +kernel
theorem dX3_copyFrom_5 : decode cX3_copyFrom 5 = .ok (.getfield 9, 3) := by decide +kernel
theorem dX3_copyFrom_8 : decode cX3_copyFrom 8 = .ok (.invokestatic 64, 3) := by decide +kernel
theorem dX3_copyFrom_11 : decode cX3_copyFrom 11 = .ok (.aload_n 1, 1) := by decide +kernel
theorem dX3_copyFrom_12 : decode cX3_copyFrom 12 = .ok (.getfield 15, 3) := by decide +kernel
theorem dX3_copyFrom_15 : decode cX3_copyFrom 15 = .ok (.aload_n 0, 1) := by decide +kernel
theorem dX3_copyFrom_16 : decode cX3_copyFrom 16 = .ok (.getfield 15, 3) := by decide +kernel
theorem dX3_copyFrom_19 : decode cX3_copyFrom 19 = .ok (.invokestatic 64, 3) := by decide +kernel
theorem dX3_copyFrom_22 : decode cX3_copyFrom 22 = .ok (.aload_n 1, 1) := by decide +kernel
theorem dX3_copyFrom_23 : decode cX3_copyFrom 23 = .ok (.getfield 18, 3) := by decide +kernel
theorem dX3_copyFrom_26 : decode cX3_copyFrom 26 = .ok (.aload_n 0, 1) := by decide +kernel
theorem dX3_copyFrom_27 : decode cX3_copyFrom 27 = .ok (.getfield 18, 3) := by decide +kernel
theorem dX3_copyFrom_30 : decode cX3_copyFrom 30 = .ok (.invokestatic 64, 3) := by decide +kernel
theorem dX3_copyFrom_33 : decode cX3_copyFrom 33 = .ok (.aload_n 1, 1) := by decide +kernel
theorem dX3_copyFrom_34 : decode cX3_copyFrom 34 = .ok (.getfield 21, 3) := by decide +kernel
theorem dX3_copyFrom_37 : decode cX3_copyFrom 37 = .ok (.aload_n 0, 1) := by decide +kernel
theorem dX3_copyFrom_38 : decode cX3_copyFrom 38 = .ok (.getfield 21, 3) := by decide +kernel
theorem dX3_copyFrom_41 : decode cX3_copyFrom 41 = .ok (.invokestatic 64, 3) := by decide +kernel
theorem dX3_copyFrom_44 : decode cX3_copyFrom 44 = .ok (.aload_n 1, 1) := by decide +kernel
theorem dX3_copyFrom_45 : decode cX3_copyFrom 45 = .ok (.getfield 24, 3) := by decide +kernel
theorem dX3_copyFrom_48 : decode cX3_copyFrom 48 = .ok (.aload_n 0, 1) := by decide +kernel
theorem dX3_copyFrom_49 : decode cX3_copyFrom 49 = .ok (.getfield 24, 3) := by decide +kernel
theorem dX3_copyFrom_52 : decode cX3_copyFrom 52 = .ok (.invokestatic 64, 3) := by decide +kernel
theorem dX3_copyFrom_55 : decode cX3_copyFrom 55 = .ok (.aload_n 1, 1) := by decide +kernel
theorem dX3_copyFrom_56 : decode cX3_copyFrom 56 = .ok (.getfield 27, 3) := by decide +kernel
theorem dX3_copyFrom_59 : decode cX3_copyFrom 59 = .ok (.aload_n 0, 1) := by decide +kernel
theorem dX3_copyFrom_60 : decode cX3_copyFrom 60 = .ok (.getfield 27, 3) := by decide +kernel
theorem dX3_copyFrom_63 : decode cX3_copyFrom 63 = .ok (.invokestatic 64, 3) := by decide +kernel
theorem dX3_copyFrom_66 : decode cX3_copyFrom 66 = .ok (.aload_n 1, 1) := by decide +kernel
theorem dX3_copyFrom_67 : decode cX3_copyFrom 67 = .ok (.getfield 30, 3) := by decide +kernel
theorem dX3_copyFrom_70 : decode cX3_copyFrom 70 = .ok (.aload_n 0, 1) := by decide +kernel
theorem dX3_copyFrom_71 : decode cX3_copyFrom 71 = .ok (.getfield 30, 3) := by decide +kernel
theorem dX3_copyFrom_74 : decode cX3_copyFrom 74 = .ok (.invokestatic 64, 3) := by decide +kernel
theorem dX3_copyFrom_77 : decode cX3_copyFrom 77 = .ok (.aload_n 1, 1) := by decide +kernel
theorem dX3_copyFrom_78 : decode cX3_copyFrom 78 = .ok (.getfield 33, 3) := by decide +kernel
theorem dX3_copyFrom_81 : decode cX3_copyFrom 81 = .ok (.aload_n 0, 1) := by decide +kernel
theorem dX3_copyFrom_82 : decode cX3_copyFrom 82 = .ok (.getfield 33, 3) := by decide +kernel
theorem dX3_copyFrom_85 : decode cX3_copyFrom 85 = .ok (.invokestatic 64, 3) := by decide +kernel
theorem dX3_copyFrom_88 : decode cX3_copyFrom 88 = .ok (.aload_n 1, 1) := by decide +kernel
theorem dX3_copyFrom_89 : decode cX3_copyFrom 89 = .ok (.getfield 36, 3) := by decide +kernel
theorem dX3_copyFrom_92 : decode cX3_copyFrom 92 = .ok (.aload_n 0, 1) := by decide +kernel
theorem dX3_copyFrom_93 : decode cX3_copyFrom 93 = .ok (.getfield 36, 3) := by decide +kernel
theorem dX3_copyFrom_96 : decode cX3_copyFrom 96 = .ok (.invokestatic 64, 3) := by decide +kernel
theorem dX3_copyFrom_99 : decode cX3_copyFrom 99 = .ok (.aload_n 1, 1) := by decide +kernel
theorem dX3_copyFrom_100 : decode cX3_copyFrom 100 = .ok (.getfield 39, 3) := by decide +kernel
theorem dX3_copyFrom_103 : decode cX3_copyFrom 103 = .ok (.aload_n 0, 1) := by decide +kernel
theorem dX3_copyFrom_104 : decode cX3_copyFrom 104 = .ok (.getfield 39, 3) := by decide +kernel
theorem dX3_copyFrom_107 : decode cX3_copyFrom 107 = .ok (.invokestatic 68, 3) := by decide +kernel
theorem dX3_copyFrom_110 : decode cX3_copyFrom 110 = .ok (.aload_n 1, 1) := by decide +kernel
theorem dX3_copyFrom_111 : decode cX3_copyFrom 111 = .ok (.getfield 42, 3) := by decide +kernel
theorem dX3_copyFrom_114 : decode cX3_copyFrom 114 = .ok (.aload_n 0, 1) := by decide +kernel
theorem dX3_copyFrom_115 : decode cX3_copyFrom 115 = .ok (.getfield 42, 3) := by decide +kernel
theorem dX3_copyFrom_118 : decode cX3_copyFrom 118 = .ok (.invokestatic 68, 3) := by decide +kernel
theorem dX3_copyFrom_121 : decode cX3_copyFrom 121 = .ok (.aload_n 1, 1) := by decide +kernel
theorem dX3_copyFrom_122 : decode cX3_copyFrom 122 = .ok (.getfield 45, 3) := by decide +kernel
theorem dX3_copyFrom_125 : decode cX3_copyFrom 125 = .ok (.aload_n 0, 1) := by decide +kernel
theorem dX3_copyFrom_126 : decode cX3_copyFrom 126 = .ok (.getfield 45, 3) := by decide +kernel
theorem dX3_copyFrom_129 : decode cX3_copyFrom 129 = .ok (.invokestatic 68, 3) := by decide +kernel
theorem dX3_copyFrom_132 : decode cX3_copyFrom 132 = .ok (.aload_n 0, 1) := by decide +kernel
theorem dX3_copyFrom_133 : decode cX3_copyFrom 133 = .ok (.aload_n 1, 1) := by decide +kernel
theorem dX3_copyFrom_134 : decode cX3_copyFrom 134 = .ok (.getfield 48, 3) := by decide +kernel
theorem dX3_copyFrom_137 : decode cX3_copyFrom 137 = .ok (.putfield 48, 3) := by decide +kernel
theorem dX3_copyFrom_140 : decode cX3_copyFrom 140 = .ok (.aload_n 0, 1) := by decide +kernel
theorem dX3_copyFrom_141 : decode cX3_copyFrom 141 = .ok (.aload_n 1, 1) := by decide +kernel
theorem dX3_copyFrom_142 : decode cX3_copyFrom 142 = .ok (.getfield 52, 3) := by decide +kernel
theorem dX3_copyFrom_145 : decode cX3_copyFrom 145 = .ok (.putfield 52, 3) := by decide +kernel
theorem dX3_copyFrom_148 : decode cX3_copyFrom 148 = .ok (.aload_n 0, 1) := by decide +kernel
theorem dX3_copyFrom_149 : decode cX3_copyFrom 149 = .ok (.aload_n 1, 1) := by decide +kernel
theorem dX3_copyFrom_150 : decode cX3_copyFrom 150 = .ok (.getfield 55, 3) := by decide +kernel
theorem dX3_copyFrom_153 : decode cX3_copyFrom 153 = .ok (.putfield 55, 3) := by decide +kernel
theorem dX3_copyFrom_156 : decode cX3_copyFrom 156 = .ok (.aload_n 0, 1) := by decide +kernel
theorem dX3_copyFrom_157 : decode cX3_copyFrom 157 = .ok (.aload_n 1, 1) := by decide +kernel
theorem dX3_copyFrom_158 : decode cX3_copyFrom 158 = .ok (.getfield 58, 3) := by decide +kernel
theorem dX3_copyFrom_161 : decode cX3_copyFrom 161 = .ok (.putfield 58, 3) := by decide +kernel
theorem dX3_copyFrom_164 : decode cX3_copyFrom 164 = .ok (.aload_n 0, 1) := by decide +kernel
theorem dX3_copyFrom_165 : decode cX3_copyFrom 165 = .ok (.aload_n 1, 1) := by decide +kernel
theorem dX3_copyFrom_166 : decode cX3_copyFrom 166 = .ok (.getfield 61, 3) := by decide +kernel
theorem dX3_copyFrom_169 : decode cX3_copyFrom 169 = .ok (.putfield 61, 3) := by decide +kernel
theorem dX3_copyFrom_172 : decode cX3_copyFrom 172 = .ok (.return_, 1) := by decide +kernel
theorem dX3_copyTowns_0 : decode cX3_copyTowns 0 = .ok (.aload_n 0, 1) := by decide +kernel
theorem dX3_copyTowns_1 : decode cX3_copyTowns 1 = .ok (.iconst 0, 1) := by decide +kernel
theorem dX3_copyTowns_2 : decode cX3_copyTowns 2 = .ok (.aload_n 1, 1) := by decide +kernel
theorem dX3_copyTowns_3 : decode cX3_copyTowns 3 = .ok (.iconst 0, 1) := by decide +kernel
theorem dX3_copyTowns_4 : decode cX3_copyTowns 4 = .ok (.bipush 6, 2) := by decide +kernel
theorem dX3_copyTowns_6 : decode cX3_copyTowns 6 = .ok (.invokestatic 71, 3) := by decide +kernel
theorem dX3_copyTowns_9 : decode cX3_copyTowns 9 = .ok (.return_, 1) := by decide +kernel
theorem dX3_copyBells_0 : decode cX3_copyBells 0 = .ok (.aload_n 0, 1) := by decide +kernel
theorem dX3_copyBells_1 : decode cX3_copyBells 1 = .ok (.iconst 0, 1) := by decide +kernel
theorem dX3_copyBells_2 : decode cX3_copyBells 2 = .ok (.aload_n 1, 1) := by decide +kernel
theorem dX3_copyBells_3 : decode cX3_copyBells 3 = .ok (.iconst 0, 1) := by decide +kernel
theorem dX3_copyBells_4 : decode cX3_copyBells 4 = .ok (.bipush 30, 2) := by decide +kernel
theorem dX3_copyBells_6 : decode cX3_copyBells 6 = .ok (.invokestatic 71, 3) := by decide +kernel
theorem dX3_copyBells_9 : decode cX3_copyBells 9 = .ok (.return_, 1) := by decide +kernel
theorem dX3_hasBell_0 : decode cX3_hasBell 0 = .ok (.iload_n 1, 1) := by decide +kernel
theorem dX3_hasBell_1 : decode cX3_hasBell 1 = .ok (.invokestatic 77, 3) := by decide +kernel
theorem dX3_hasBell_4 : decode cX3_hasBell 4 = .ok (.ifCond .eq 21, 3) := by decide +kernel
theorem dX3_hasBell_7 : decode cX3_hasBell 7 = .ok (.iload_n 2, 1) := by decide +kernel
theorem dX3_hasBell_8 : decode cX3_hasBell 8 = .ok (.ifCond .lt 17, 3) := by decide +kernel
theorem dX3_hasBell_11 : decode cX3_hasBell 11 = .ok (.iload_n 2, 1) := by decide +kernel
theorem dX3_hasBell_12 : decode cX3_hasBell 12 = .ok (.aload_n 0, 1) := by decide +kernel
theorem dX3_hasBell_13 : decode cX3_hasBell 13 = .ok (.getfield 21, 3) := by decide +kernel
theorem dX3_hasBell_16 : decode cX3_hasBell 16 = .ok (.iload_n 1, 1) := by decide +kernel
theorem dX3_hasBell_17 : decode cX3_hasBell 17 = .ok (.iaload, 1) := by decide +kernel
theorem dX3_hasBell_18 : decode cX3_hasBell 18 = .ok (.if_icmp .ge 7, 3) := by decide +kernel
theorem dX3_hasBell_21 : decode cX3_hasBell 21 = .ok (.iconst 1, 1) := by decide +kernel
theorem dX3_hasBell_22 : decode cX3_hasBell 22 = .ok (.goto 4, 3) := by decide +kernel
theorem dX3_hasBell_25 : decode cX3_hasBell 25 = .ok (.iconst 0, 1) := by decide +kernel
theorem dX3_hasBell_26 : decode cX3_hasBell 26 = .ok (.ireturn, 1) := by decide +kernel
theorem dX3_everyBell_0 : decode cX3_everyBell 0 = .ok (.iconst 1, 1) := by decide +kernel
theorem dX3_everyBell_1 : decode cX3_everyBell 1 = .ok (.aload_n 0, 1) := by decide +kernel
theorem dX3_everyBell_2 : decode cX3_everyBell 2 = .ok (.getfield 21, 3) := by decide +kernel
theorem dX3_everyBell_5 : decode cX3_everyBell 5 = .ok (.iload_n 1, 1) := by decide +kernel
theorem dX3_everyBell_6 : decode cX3_everyBell 6 = .ok (.iaload, 1) := by decide +kernel
theorem dX3_everyBell_7 : decode cX3_everyBell 7 = .ok (.ishl, 1) := by decide +kernel
theorem dX3_everyBell_8 : decode cX3_everyBell 8 = .ok (.iconst 1, 1) := by decide +kernel
theorem dX3_everyBell_9 : decode cX3_everyBell 9 = .ok (.isub, 1) := by decide +kernel
theorem dX3_everyBell_10 : decode cX3_everyBell 10 = .ok (.ireturn, 1) := by decide +kernel
theorem dX3_rested_0 : decode cX3_rested 0 = .ok (.aload_n 0, 1) := by decide +kernel
theorem dX3_rested_1 : decode cX3_rested 1 = .ok (.getfield 15, 3) := by decide +kernel
theorem dX3_rested_4 : decode cX3_rested 4 = .ok (.iload_n 1, 1) := by decide +kernel
theorem dX3_rested_5 : decode cX3_rested 5 = .ok (.iaload, 1) := by decide +kernel
theorem dX3_rested_6 : decode cX3_rested 6 = .ok (.aload_n 0, 1) := by decide +kernel
theorem dX3_rested_7 : decode cX3_rested 7 = .ok (.getfield 18, 3) := by decide +kernel
theorem dX3_rested_10 : decode cX3_rested 10 = .ok (.iload_n 1, 1) := by decide +kernel
theorem dX3_rested_11 : decode cX3_rested 11 = .ok (.iaload, 1) := by decide +kernel
theorem dX3_rested_12 : decode cX3_rested 12 = .ok (.isub, 1) := by decide +kernel
theorem dX3_rested_13 : decode cX3_rested 13 = .ok (.ireturn, 1) := by decide +kernel
theorem dX3_isTakenByAnother_0 : decode cX3_isTakenByAnother 0 = .ok (.iconst 0, 1) := by decide +kernel
theorem dX3_isTakenByAnother_1 : decode cX3_isTakenByAnother 1 = .ok (.istore_n 3, 1) := by decide +kernel
theorem dX3_isTakenByAnother_2 : decode cX3_isTakenByAnother 2 = .ok (.iload_n 3, 1) := by decide +kernel
theorem dX3_isTakenByAnother_3 : decode cX3_isTakenByAnother 3 = .ok (.bipush 6, 2) := by decide +kernel
theorem dX3_isTakenByAnother_5 : decode cX3_isTakenByAnother 5 = .ok (.if_icmp .ge 26, 3) := by decide +kernel
theorem dX3_isTakenByAnother_8 : decode cX3_isTakenByAnother 8 = .ok (.iload_n 3, 1) := by decide +kernel
theorem dX3_isTakenByAnother_9 : decode cX3_isTakenByAnother 9 = .ok (.iload_n 2, 1) := by decide +kernel
theorem dX3_isTakenByAnother_10 : decode cX3_isTakenByAnother 10 = .ok (.if_icmp .eq 15, 3) := by decide +kernel
theorem dX3_isTakenByAnother_13 : decode cX3_isTakenByAnother 13 = .ok (.aload_n 0, 1) := by decide +kernel
theorem dX3_isTakenByAnother_14 : decode cX3_isTakenByAnother 14 = .ok (.getfield 9, 3) := by decide +kernel
theorem dX3_isTakenByAnother_17 : decode cX3_isTakenByAnother 17 = .ok (.iload_n 3, 1) := by decide +kernel
theorem dX3_isTakenByAnother_18 : decode cX3_isTakenByAnother 18 = .ok (.iaload, 1) := by decide +kernel
theorem dX3_isTakenByAnother_19 : decode cX3_isTakenByAnother 19 = .ok (.iload_n 1, 1) := by decide +kernel
theorem dX3_isTakenByAnother_20 : decode cX3_isTakenByAnother 20 = .ok (.if_icmp .ne 5, 3) := by decide +kernel
theorem dX3_isTakenByAnother_23 : decode cX3_isTakenByAnother 23 = .ok (.iconst 1, 1) := by decide +kernel
theorem dX3_isTakenByAnother_24 : decode cX3_isTakenByAnother 24 = .ok (.ireturn, 1) := by decide +kernel
theorem dX3_isTakenByAnother_25 : decode cX3_isTakenByAnother 25 = .ok (.iinc 3 1, 3) := by decide +kernel
theorem dX3_isTakenByAnother_28 : decode cX3_isTakenByAnother 28 = .ok (.goto (-26), 3) := by decide +kernel
theorem dX3_isTakenByAnother_31 : decode cX3_isTakenByAnother 31 = .ok (.iconst 0, 1) := by decide +kernel
theorem dX3_isTakenByAnother_32 : decode cX3_isTakenByAnother 32 = .ok (.ireturn, 1) := by decide +kernel
theorem dX3_addBell_0 : decode cX3_addBell 0 = .ok (.aload_n 0, 1) := by decide +kernel
theorem dX3_addBell_1 : decode cX3_addBell 1 = .ok (.getfield 21, 3) := by decide +kernel
theorem dX3_addBell_4 : decode cX3_addBell 4 = .ok (.iload_n 1, 1) := by decide +kernel
theorem dX3_addBell_5 : decode cX3_addBell 5 = .ok (.iaload, 1) := by decide +kernel
theorem dX3_addBell_6 : decode cX3_addBell 6 = .ok (.istore_n 3, 1) := by decide +kernel
theorem dX3_addBell_7 : decode cX3_addBell 7 = .ok (.aload_n 0, 1) := by decide +kernel
theorem dX3_addBell_8 : decode cX3_addBell 8 = .ok (.iload_n 1, 1) := by decide +kernel
theorem dX3_addBell_9 : decode cX3_addBell 9 = .ok (.iload_n 3, 1) := by decide +kernel
theorem dX3_addBell_10 : decode cX3_addBell 10 = .ok (.invokestatic 81, 3) := by decide +kernel
theorem dX3_addBell_13 : decode cX3_addBell 13 = .ok (.iload_n 2, 1) := by decide +kernel
theorem dX3_addBell_14 : decode cX3_addBell 14 = .ok (.iconst 0, 1) := by decide +kernel
theorem dX3_addBell_15 : decode cX3_addBell 15 = .ok (.iconst 0, 1) := by decide +kernel
theorem dX3_addBell_16 : decode cX3_addBell 16 = .ok (.invokevirtual 85, 3) := by decide +kernel
theorem dX3_addBell_19 : decode cX3_addBell 19 = .ok (.aload_n 0, 1) := by decide +kernel
theorem dX3_addBell_20 : decode cX3_addBell 20 = .ok (.getfield 21, 3) := by decide +kernel
theorem dX3_addBell_23 : decode cX3_addBell 23 = .ok (.iload_n 1, 1) := by decide +kernel
theorem dX3_addBell_24 : decode cX3_addBell 24 = .ok (.iload_n 3, 1) := by decide +kernel
theorem dX3_addBell_25 : decode cX3_addBell 25 = .ok (.iconst 1, 1) := by decide +kernel
theorem dX3_addBell_26 : decode cX3_addBell 26 = .ok (.iadd, 1) := by decide +kernel
theorem dX3_addBell_27 : decode cX3_addBell 27 = .ok (.iastore, 1) := by decide +kernel
theorem dX3_addBell_28 : decode cX3_addBell 28 = .ok (.iload_n 3, 1) := by decide +kernel
theorem dX3_addBell_29 : decode cX3_addBell 29 = .ok (.ireturn, 1) := by decide +kernel
theorem dX3_removeBell_0 : decode cX3_removeBell 0 = .ok (.aload_n 0, 1) := by decide +kernel
theorem dX3_removeBell_1 : decode cX3_removeBell 1 = .ok (.getfield 21, 3) := by decide +kernel
theorem dX3_removeBell_4 : decode cX3_removeBell 4 = .ok (.iload_n 1, 1) := by decide +kernel
theorem dX3_removeBell_5 : decode cX3_removeBell 5 = .ok (.iaload, 1) := by decide +kernel
theorem dX3_removeBell_6 : decode cX3_removeBell 6 = .ok (.iconst 1, 1) := by decide +kernel
theorem dX3_removeBell_7 : decode cX3_removeBell 7 = .ok (.isub, 1) := by decide +kernel
theorem dX3_removeBell_8 : decode cX3_removeBell 8 = .ok (.istore_n 3, 1) := by decide +kernel
theorem dX3_removeBell_9 : decode cX3_removeBell 9 = .ok (.iload_n 2, 1) := by decide +kernel
theorem dX3_removeBell_10 : decode cX3_removeBell 10 = .ok (.iconst 1, 1) := by decide +kernel
theorem dX3_removeBell_11 : decode cX3_removeBell 11 = .ok (.iadd, 1) := by decide +kernel
theorem dX3_removeBell_12 : decode cX3_removeBell 12 = .ok (.istore 4, 2) := by decide +kernel
theorem dX3_removeBell_14 : decode cX3_removeBell 14 = .ok (.iload 4, 2) := by decide +kernel
theorem dX3_removeBell_16 : decode cX3_removeBell 16 = .ok (.iload_n 3, 1) := by decide +kernel
theorem dX3_removeBell_17 : decode cX3_removeBell 17 = .ok (.if_icmp .gt 46, 3) := by decide +kernel
theorem dX3_removeBell_20 : decode cX3_removeBell 20 = .ok (.iload_n 1, 1) := by decide +kernel
theorem dX3_removeBell_21 : decode cX3_removeBell 21 = .ok (.iload 4, 2) := by decide +kernel
theorem dX3_removeBell_23 : decode cX3_removeBell 23 = .ok (.invokestatic 81, 3) := by decide +kernel
theorem dX3_removeBell_26 : decode cX3_removeBell 26 = .ok (.istore 5, 2) := by decide +kernel
theorem dX3_removeBell_28 : decode cX3_removeBell 28 = .ok (.aload_n 0, 1) := by decide +kernel
theorem dX3_removeBell_29 : decode cX3_removeBell 29 = .ok (.iload 5, 2) := by decide +kernel
theorem dX3_removeBell_31 : decode cX3_removeBell 31 = .ok (.iconst 1, 1) := by decide +kernel
theorem dX3_removeBell_32 : decode cX3_removeBell 32 = .ok (.isub, 1) := by decide +kernel
theorem dX3_removeBell_33 : decode cX3_removeBell 33 = .ok (.aload_n 0, 1) := by decide +kernel
theorem dX3_removeBell_34 : decode cX3_removeBell 34 = .ok (.getfield 39, 3) := by decide +kernel
theorem dX3_removeBell_37 : decode cX3_removeBell 37 = .ok (.iload 5, 2) := by decide +kernel
theorem dX3_removeBell_39 : decode cX3_removeBell 39 = .ok (.iaload, 1) := by decide +kernel
theorem dX3_removeBell_40 : decode cX3_removeBell 40 = .ok (.aload_n 0, 1) := by decide +kernel
theorem dX3_removeBell_41 : decode cX3_removeBell 41 = .ok (.getfield 42, 3) := by decide +kernel
theorem dX3_removeBell_44 : decode cX3_removeBell 44 = .ok (.iload 5, 2) := by decide +kernel
theorem dX3_removeBell_46 : decode cX3_removeBell 46 = .ok (.iaload, 1) := by decide +kernel
theorem dX3_removeBell_47 : decode cX3_removeBell 47 = .ok (.aload_n 0, 1) := by decide +kernel
theorem dX3_removeBell_48 : decode cX3_removeBell 48 = .ok (.getfield 45, 3) := by decide +kernel
theorem dX3_removeBell_51 : decode cX3_removeBell 51 = .ok (.iload 5, 2) := by decide +kernel
theorem dX3_removeBell_53 : decode cX3_removeBell 53 = .ok (.iaload, 1) := by decide +kernel
theorem dX3_removeBell_54 : decode cX3_removeBell 54 = .ok (.invokevirtual 85, 3) := by decide +kernel
theorem dX3_removeBell_57 : decode cX3_removeBell 57 = .ok (.iinc 4 1, 3) := by decide +kernel
theorem dX3_removeBell_60 : decode cX3_removeBell 60 = .ok (.goto (-46), 3) := by decide +kernel
theorem dX3_removeBell_63 : decode cX3_removeBell 63 = .ok (.aload_n 0, 1) := by decide +kernel
theorem dX3_removeBell_64 : decode cX3_removeBell 64 = .ok (.iload_n 1, 1) := by decide +kernel
theorem dX3_removeBell_65 : decode cX3_removeBell 65 = .ok (.iload_n 3, 1) := by decide +kernel
theorem dX3_removeBell_66 : decode cX3_removeBell 66 = .ok (.invokestatic 81, 3) := by decide +kernel
theorem dX3_removeBell_69 : decode cX3_removeBell 69 = .ok (.iconst 0, 1) := by decide +kernel
theorem dX3_removeBell_70 : decode cX3_removeBell 70 = .ok (.iconst 0, 1) := by decide +kernel
theorem dX3_removeBell_71 : decode cX3_removeBell 71 = .ok (.iconst 0, 1) := by decide +kernel
theorem dX3_removeBell_72 : decode cX3_removeBell 72 = .ok (.invokevirtual 85, 3) := by decide +kernel
theorem dX3_removeBell_75 : decode cX3_removeBell 75 = .ok (.aload_n 0, 1) := by decide +kernel
theorem dX3_removeBell_76 : decode cX3_removeBell 76 = .ok (.getfield 21, 3) := by decide +kernel
theorem dX3_removeBell_79 : decode cX3_removeBell 79 = .ok (.iload_n 1, 1) := by decide +kernel
theorem dX3_removeBell_80 : decode cX3_removeBell 80 = .ok (.iload_n 3, 1) := by decide +kernel
theorem dX3_removeBell_81 : decode cX3_removeBell 81 = .ok (.iastore, 1) := by decide +kernel
theorem dX3_removeBell_82 : decode cX3_removeBell 82 = .ok (.aload_n 0, 1) := by decide +kernel
theorem dX3_removeBell_83 : decode cX3_removeBell 83 = .ok (.getfield 24, 3) := by decide +kernel
theorem dX3_removeBell_86 : decode cX3_removeBell 86 = .ok (.iload_n 1, 1) := by decide +kernel
theorem dX3_removeBell_87 : decode cX3_removeBell 87 = .ok (.iaload, 1) := by decide +kernel
theorem dX3_removeBell_88 : decode cX3_removeBell 88 = .ok (.iconst 1, 1) := by decide +kernel
theorem dX3_removeBell_89 : decode cX3_removeBell 89 = .ok (.iload_n 2, 1) := by decide +kernel
theorem dX3_removeBell_90 : decode cX3_removeBell 90 = .ok (.ishl, 1) := by decide +kernel
theorem dX3_removeBell_91 : decode cX3_removeBell 91 = .ok (.iconst 1, 1) := by decide +kernel
theorem dX3_removeBell_92 : decode cX3_removeBell 92 = .ok (.isub, 1) := by decide +kernel
theorem dX3_removeBell_93 : decode cX3_removeBell 93 = .ok (.iand, 1) := by decide +kernel
theorem dX3_removeBell_94 : decode cX3_removeBell 94 = .ok (.istore 4, 2) := by decide +kernel
theorem dX3_removeBell_96 : decode cX3_removeBell 96 = .ok (.aload_n 0, 1) := by decide +kernel
theorem dX3_removeBell_97 : decode cX3_removeBell 97 = .ok (.getfield 24, 3) := by decide +kernel
theorem dX3_removeBell_100 : decode cX3_removeBell 100 = .ok (.iload_n 1, 1) := by decide +kernel
theorem dX3_removeBell_101 : decode cX3_removeBell 101 = .ok (.iaload, 1) := by decide +kernel
theorem dX3_removeBell_102 : decode cX3_removeBell 102 = .ok (.iload_n 2, 1) := by decide +kernel
theorem dX3_removeBell_103 : decode cX3_removeBell 103 = .ok (.iconst 1, 1) := by decide +kernel
theorem dX3_removeBell_104 : decode cX3_removeBell 104 = .ok (.iadd, 1) := by decide +kernel
theorem dX3_removeBell_105 : decode cX3_removeBell 105 = .ok (.ishr, 1) := by decide +kernel
theorem dX3_removeBell_106 : decode cX3_removeBell 106 = .ok (.istore 5, 2) := by decide +kernel
theorem dX3_removeBell_108 : decode cX3_removeBell 108 = .ok (.aload_n 0, 1) := by decide +kernel
theorem dX3_removeBell_109 : decode cX3_removeBell 109 = .ok (.getfield 24, 3) := by decide +kernel
theorem dX3_removeBell_112 : decode cX3_removeBell 112 = .ok (.iload_n 1, 1) := by decide +kernel
theorem dX3_removeBell_113 : decode cX3_removeBell 113 = .ok (.iload 4, 2) := by decide +kernel
theorem dX3_removeBell_115 : decode cX3_removeBell 115 = .ok (.iload 5, 2) := by decide +kernel
theorem dX3_removeBell_117 : decode cX3_removeBell 117 = .ok (.iload_n 2, 1) := by decide +kernel
theorem dX3_removeBell_118 : decode cX3_removeBell 118 = .ok (.ishl, 1) := by decide +kernel
theorem dX3_removeBell_119 : decode cX3_removeBell 119 = .ok (.ior, 1) := by decide +kernel
theorem dX3_removeBell_120 : decode cX3_removeBell 120 = .ok (.iastore, 1) := by decide +kernel
theorem dX3_removeBell_121 : decode cX3_removeBell 121 = .ok (.return_, 1) := by decide +kernel
theorem dX3_fillSlot_0 : decode cX3_fillSlot 0 = .ok (.aload_n 0, 1) := by decide +kernel
theorem dX3_fillSlot_1 : decode cX3_fillSlot 1 = .ok (.getfield 39, 3) := by decide +kernel
theorem dX3_fillSlot_4 : decode cX3_fillSlot 4 = .ok (.iload_n 1, 1) := by decide +kernel
theorem dX3_fillSlot_5 : decode cX3_fillSlot 5 = .ok (.iload_n 2, 1) := by decide +kernel
theorem dX3_fillSlot_6 : decode cX3_fillSlot 6 = .ok (.iastore, 1) := by decide +kernel
theorem dX3_fillSlot_7 : decode cX3_fillSlot 7 = .ok (.aload_n 0, 1) := by decide +kernel
theorem dX3_fillSlot_8 : decode cX3_fillSlot 8 = .ok (.getfield 42, 3) := by decide +kernel
theorem dX3_fillSlot_11 : decode cX3_fillSlot 11 = .ok (.iload_n 1, 1) := by decide +kernel
theorem dX3_fillSlot_12 : decode cX3_fillSlot 12 = .ok (.iload_n 3, 1) := by decide +kernel
theorem dX3_fillSlot_13 : decode cX3_fillSlot 13 = .ok (.iastore, 1) := by decide +kernel
theorem dX3_fillSlot_14 : decode cX3_fillSlot 14 = .ok (.aload_n 0, 1) := by decide +kernel
theorem dX3_fillSlot_15 : decode cX3_fillSlot 15 = .ok (.getfield 45, 3) := by decide +kernel
theorem dX3_fillSlot_18 : decode cX3_fillSlot 18 = .ok (.iload_n 1, 1) := by decide +kernel
theorem dX3_fillSlot_19 : decode cX3_fillSlot 19 = .ok (.iload 4, 2) := by decide +kernel
theorem dX3_fillSlot_21 : decode cX3_fillSlot 21 = .ok (.iastore, 1) := by decide +kernel
theorem dX3_fillSlot_22 : decode cX3_fillSlot 22 = .ok (.return_, 1) := by decide +kernel
theorem dX3_wantedBells_0 : decode cX3_wantedBells 0 = .ok (.aload_n 0, 1) := by decide +kernel
theorem dX3_wantedBells_1 : decode cX3_wantedBells 1 = .ok (.getfield 55, 3) := by decide +kernel
theorem dX3_wantedBells_4 : decode cX3_wantedBells 4 = .ok (.bipush 7, 2) := by decide +kernel
theorem dX3_wantedBells_6 : decode cX3_wantedBells 6 = .ok (.irem, 1) := by decide +kernel
theorem dX3_wantedBells_7 : decode cX3_wantedBells 7 = .ok (.aload_n 0, 1) := by decide +kernel
theorem dX3_wantedBells_8 : decode cX3_wantedBells 8 = .ok (.getfield 27, 3) := by decide +kernel
theorem dX3_wantedBells_11 : decode cX3_wantedBells 11 = .ok (.iload_n 1, 1) := by decide +kernel
theorem dX3_wantedBells_12 : decode cX3_wantedBells 12 = .ok (.iaload, 1) := by decide +kernel
theorem dX3_wantedBells_13 : decode cX3_wantedBells 13 = .ok (.if_icmp .ne 11, 3) := by decide +kernel
theorem dX3_wantedBells_16 : decode cX3_wantedBells 16 = .ok (.aload_n 0, 1) := by decide +kernel
theorem dX3_wantedBells_17 : decode cX3_wantedBells 17 = .ok (.iload_n 1, 1) := by decide +kernel
theorem dX3_wantedBells_18 : decode cX3_wantedBells 18 = .ok (.invokevirtual 89, 3) := by decide +kernel
theorem dX3_wantedBells_21 : decode cX3_wantedBells 21 = .ok (.goto 9, 3) := by decide +kernel
theorem dX3_wantedBells_24 : decode cX3_wantedBells 24 = .ok (.aload_n 0, 1) := by decide +kernel
theorem dX3_wantedBells_25 : decode cX3_wantedBells 25 = .ok (.getfield 24, 3) := by decide +kernel
theorem dX3_wantedBells_28 : decode cX3_wantedBells 28 = .ok (.iload_n 1, 1) := by decide +kernel
theorem dX3_wantedBells_29 : decode cX3_wantedBells 29 = .ok (.iaload, 1) := by decide +kernel
theorem dX3_wantedBells_30 : decode cX3_wantedBells 30 = .ok (.ireturn, 1) := by decide +kernel
theorem dX3_allBells_0 : decode cX3_allBells 0 = .ok (.iconst 0, 1) := by decide +kernel
theorem dX3_allBells_1 : decode cX3_allBells 1 = .ok (.istore_n 1, 1) := by decide +kernel
theorem dX3_allBells_2 : decode cX3_allBells 2 = .ok (.iconst 0, 1) := by decide +kernel
theorem dX3_allBells_3 : decode cX3_allBells 3 = .ok (.istore_n 2, 1) := by decide +kernel
theorem dX3_allBells_4 : decode cX3_allBells 4 = .ok (.iload_n 2, 1) := by decide +kernel
theorem dX3_allBells_5 : decode cX3_allBells 5 = .ok (.bipush 6, 2) := by decide +kernel
theorem dX3_allBells_7 : decode cX3_allBells 7 = .ok (.if_icmp .ge 18, 3) := by decide +kernel
theorem dX3_allBells_10 : decode cX3_allBells 10 = .ok (.iload_n 1, 1) := by decide +kernel
theorem dX3_allBells_11 : decode cX3_allBells 11 = .ok (.aload_n 0, 1) := by decide +kernel
theorem dX3_allBells_12 : decode cX3_allBells 12 = .ok (.getfield 21, 3) := by decide +kernel
theorem dX3_allBells_15 : decode cX3_allBells 15 = .ok (.iload_n 2, 1) := by decide +kernel
theorem dX3_allBells_16 : decode cX3_allBells 16 = .ok (.iaload, 1) := by decide +kernel
theorem dX3_allBells_17 : decode cX3_allBells 17 = .ok (.iadd, 1) := by decide +kernel
theorem dX3_allBells_18 : decode cX3_allBells 18 = .ok (.istore_n 1, 1) := by decide +kernel
theorem dX3_allBells_19 : decode cX3_allBells 19 = .ok (.iinc 2 1, 3) := by decide +kernel
theorem dX3_allBells_22 : decode cX3_allBells 22 = .ok (.goto (-18), 3) := by decide +kernel
theorem dX3_allBells_25 : decode cX3_allBells 25 = .ok (.iload_n 1, 1) := by decide +kernel
theorem dX3_allBells_26 : decode cX3_allBells 26 = .ok (.ireturn, 1) := by decide +kernel
theorem dX3_brokenRopes_0 : decode cX3_brokenRopes 0 = .ok (.iconst 0, 1) := by decide +kernel
theorem dX3_brokenRopes_1 : decode cX3_brokenRopes 1 = .ok (.istore_n 1, 1) := by decide +kernel
theorem dX3_brokenRopes_2 : decode cX3_brokenRopes 2 = .ok (.iconst 0, 1) := by decide +kernel
theorem dX3_brokenRopes_3 : decode cX3_brokenRopes 3 = .ok (.istore_n 2, 1) := by decide +kernel
theorem dX3_brokenRopes_4 : decode cX3_brokenRopes 4 = .ok (.iload_n 2, 1) := by decide +kernel
theorem dX3_brokenRopes_5 : decode cX3_brokenRopes 5 = .ok (.bipush 30, 2) := by decide +kernel
theorem dX3_brokenRopes_7 : decode cX3_brokenRopes 7 = .ok (.if_icmp .ge 23, 3) := by decide +kernel
theorem dX3_brokenRopes_10 : decode cX3_brokenRopes 10 = .ok (.aload_n 0, 1) := by decide +kernel
theorem dX3_brokenRopes_11 : decode cX3_brokenRopes 11 = .ok (.getfield 42, 3) := by decide +kernel
theorem dX3_brokenRopes_14 : decode cX3_brokenRopes 14 = .ok (.iload_n 2, 1) := by decide +kernel
theorem dX3_brokenRopes_15 : decode cX3_brokenRopes 15 = .ok (.iaload, 1) := by decide +kernel
theorem dX3_brokenRopes_16 : decode cX3_brokenRopes 16 = .ok (.bipush 6, 2) := by decide +kernel
theorem dX3_brokenRopes_18 : decode cX3_brokenRopes 18 = .ok (.if_icmp .lt 6, 3) := by decide +kernel
theorem dX3_brokenRopes_21 : decode cX3_brokenRopes 21 = .ok (.iinc 1 1, 3) := by decide +kernel
theorem dX3_brokenRopes_24 : decode cX3_brokenRopes 24 = .ok (.iinc 2 1, 3) := by decide +kernel
theorem dX3_brokenRopes_27 : decode cX3_brokenRopes 27 = .ok (.goto (-23), 3) := by decide +kernel
theorem dX3_brokenRopes_30 : decode cX3_brokenRopes 30 = .ok (.iload_n 1, 1) := by decide +kernel
theorem dX3_brokenRopes_31 : decode cX3_brokenRopes 31 = .ok (.ireturn, 1) := by decide +kernel
theorem dX3_silentTowns_0 : decode cX3_silentTowns 0 = .ok (.iconst 0, 1) := by decide +kernel
theorem dX3_silentTowns_1 : decode cX3_silentTowns 1 = .ok (.istore_n 1, 1) := by decide +kernel
theorem dX3_silentTowns_2 : decode cX3_silentTowns 2 = .ok (.iconst 0, 1) := by decide +kernel
theorem dX3_silentTowns_3 : decode cX3_silentTowns 3 = .ok (.istore_n 2, 1) := by decide +kernel
theorem dX3_silentTowns_4 : decode cX3_silentTowns 4 = .ok (.iload_n 2, 1) := by decide +kernel
theorem dX3_silentTowns_5 : decode cX3_silentTowns 5 = .ok (.bipush 6, 2) := by decide +kernel
theorem dX3_silentTowns_7 : decode cX3_silentTowns 7 = .ok (.if_icmp .ge 21, 3) := by decide +kernel
theorem dX3_silentTowns_10 : decode cX3_silentTowns 10 = .ok (.aload_n 0, 1) := by decide +kernel
theorem dX3_silentTowns_11 : decode cX3_silentTowns 11 = .ok (.getfield 30, 3) := by decide +kernel
theorem dX3_silentTowns_14 : decode cX3_silentTowns 14 = .ok (.iload_n 2, 1) := by decide +kernel
theorem dX3_silentTowns_15 : decode cX3_silentTowns 15 = .ok (.iaload, 1) := by decide +kernel
theorem dX3_silentTowns_16 : decode cX3_silentTowns 16 = .ok (.ifCond .le 6, 3) := by decide +kernel
theorem dX3_silentTowns_19 : decode cX3_silentTowns 19 = .ok (.iinc 1 1, 3) := by decide +kernel
theorem dX3_silentTowns_22 : decode cX3_silentTowns 22 = .ok (.iinc 2 1, 3) := by decide +kernel
theorem dX3_silentTowns_25 : decode cX3_silentTowns 25 = .ok (.goto (-21), 3) := by decide +kernel
theorem dX3_silentTowns_28 : decode cX3_silentTowns 28 = .ok (.iload_n 1, 1) := by decide +kernel
theorem dX3_silentTowns_29 : decode cX3_silentTowns 29 = .ok (.ireturn, 1) := by decide +kernel
theorem dX3_allPoints_0 : decode cX3_allPoints 0 = .ok (.iconst 0, 1) := by decide +kernel
theorem dX3_allPoints_1 : decode cX3_allPoints 1 = .ok (.istore_n 1, 1) := by decide +kernel
theorem dX3_allPoints_2 : decode cX3_allPoints 2 = .ok (.iconst 0, 1) := by decide +kernel
theorem dX3_allPoints_3 : decode cX3_allPoints 3 = .ok (.istore_n 2, 1) := by decide +kernel
theorem dX3_allPoints_4 : decode cX3_allPoints 4 = .ok (.iload_n 2, 1) := by decide +kernel
theorem dX3_allPoints_5 : decode cX3_allPoints 5 = .ok (.bipush 6, 2) := by decide +kernel
theorem dX3_allPoints_7 : decode cX3_allPoints 7 = .ok (.if_icmp .ge 18, 3) := by decide +kernel
theorem dX3_allPoints_10 : decode cX3_allPoints 10 = .ok (.iload_n 1, 1) := by decide +kernel
theorem dX3_allPoints_11 : decode cX3_allPoints 11 = .ok (.aload_n 0, 1) := by decide +kernel
theorem dX3_allPoints_12 : decode cX3_allPoints 12 = .ok (.getfield 33, 3) := by decide +kernel
theorem dX3_allPoints_15 : decode cX3_allPoints 15 = .ok (.iload_n 2, 1) := by decide +kernel
theorem dX3_allPoints_16 : decode cX3_allPoints 16 = .ok (.iaload, 1) := by decide +kernel
theorem dX3_allPoints_17 : decode cX3_allPoints 17 = .ok (.iadd, 1) := by decide +kernel
theorem dX3_allPoints_18 : decode cX3_allPoints 18 = .ok (.istore_n 1, 1) := by decide +kernel
theorem dX3_allPoints_19 : decode cX3_allPoints 19 = .ok (.iinc 2 1, 3) := by decide +kernel
theorem dX3_allPoints_22 : decode cX3_allPoints 22 = .ok (.goto (-18), 3) := by decide +kernel
theorem dX3_allPoints_25 : decode cX3_allPoints 25 = .ok (.iload_n 1, 1) := by decide +kernel
theorem dX3_allPoints_26 : decode cX3_allPoints 26 = .ok (.ireturn, 1) := by decide +kernel
theorem dX3_pass_0 : decode cX3_pass 0 = .ok (.aload_n 0, 1) := by decide +kernel
theorem dX3_pass_1 : decode cX3_pass 1 = .ok (.aload_n 1, 1) := by decide +kernel
theorem dX3_pass_2 : decode cX3_pass 2 = .ok (.invokevirtual 93, 3) := by decide +kernel
theorem dX3_pass_5 : decode cX3_pass 5 = .ok (.aload_n 0, 1) := by decide +kernel
theorem dX3_pass_6 : decode cX3_pass 6 = .ok (.aload_n 1, 1) := by decide +kernel
theorem dX3_pass_7 : decode cX3_pass 7 = .ok (.invokevirtual 97, 3) := by decide +kernel
theorem dX3_pass_10 : decode cX3_pass 10 = .ok (.aload_n 0, 1) := by decide +kernel
theorem dX3_pass_11 : decode cX3_pass 11 = .ok (.aload_n 1, 1) := by decide +kernel
theorem dX3_pass_12 : decode cX3_pass 12 = .ok (.invokevirtual 100, 3) := by decide +kernel
theorem dX3_pass_15 : decode cX3_pass 15 = .ok (.aload_n 0, 1) := by decide +kernel
theorem dX3_pass_16 : decode cX3_pass 16 = .ok (.aload_n 1, 1) := by decide +kernel
theorem dX3_pass_17 : decode cX3_pass 17 = .ok (.getfield 103, 3) := by decide +kernel
theorem dX3_pass_20 : decode cX3_pass 20 = .ok (.invokevirtual 108, 3) := by decide +kernel
theorem dX3_pass_23 : decode cX3_pass 23 = .ok (.aload_n 0, 1) := by decide +kernel
theorem dX3_pass_24 : decode cX3_pass 24 = .ok (.dup, 1) := by decide +kernel
theorem dX3_pass_25 : decode cX3_pass 25 = .ok (.getfield 55, 3) := by decide +kernel
theorem dX3_pass_28 : decode cX3_pass 28 = .ok (.iconst 1, 1) := by decide +kernel
theorem dX3_pass_29 : decode cX3_pass 29 = .ok (.iadd, 1) := by decide +kernel
theorem dX3_pass_30 : decode cX3_pass 30 = .ok (.putfield 55, 3) := by decide +kernel
theorem dX3_pass_33 : decode cX3_pass 33 = .ok (.return_, 1) := by decide +kernel
theorem dX3_givePoints_0 : decode cX3_givePoints 0 = .ok (.iconst 0, 1) := by decide +kernel
theorem dX3_givePoints_1 : decode cX3_givePoints 1 = .ok (.istore_n 2, 1) := by decide +kernel
theorem dX3_givePoints_2 : decode cX3_givePoints 2 = .ok (.iload_n 2, 1) := by decide +kernel
theorem dX3_givePoints_3 : decode cX3_givePoints 3 = .ok (.bipush 6, 2) := by decide +kernel
theorem dX3_givePoints_5 : decode cX3_givePoints 5 = .ok (.if_icmp .ge 33, 3) := by decide +kernel
theorem dX3_givePoints_8 : decode cX3_givePoints 8 = .ok (.aload_n 1, 1) := by decide +kernel
theorem dX3_givePoints_9 : decode cX3_givePoints 9 = .ok (.getfield 112, 3) := by decide +kernel
theorem dX3_givePoints_12 : decode cX3_givePoints 12 = .ok (.iload_n 2, 1) := by decide +kernel
theorem dX3_givePoints_13 : decode cX3_givePoints 13 = .ok (.iaload, 1) := by decide +kernel
theorem dX3_givePoints_14 : decode cX3_givePoints 14 = .ok (.istore_n 3, 1) := by decide +kernel
theorem dX3_givePoints_15 : decode cX3_givePoints 15 = .ok (.iload_n 3, 1) := by decide +kernel
theorem dX3_givePoints_16 : decode cX3_givePoints 16 = .ok (.invokestatic 77, 3) := by decide +kernel
theorem dX3_givePoints_19 : decode cX3_givePoints 19 = .ok (.ifCond .eq 13, 3) := by decide +kernel
theorem dX3_givePoints_22 : decode cX3_givePoints 22 = .ok (.aload_n 0, 1) := by decide +kernel
theorem dX3_givePoints_23 : decode cX3_givePoints 23 = .ok (.getfield 33, 3) := by decide +kernel
theorem dX3_givePoints_26 : decode cX3_givePoints 26 = .ok (.iload_n 3, 1) := by decide +kernel
theorem dX3_givePoints_27 : decode cX3_givePoints 27 = .ok (.dup2, 1) := by decide +kernel
theorem dX3_givePoints_28 : decode cX3_givePoints 28 = .ok (.iaload, 1) := by decide +kernel
theorem dX3_givePoints_29 : decode cX3_givePoints 29 = .ok (.iconst 1, 1) := by decide +kernel
theorem dX3_givePoints_30 : decode cX3_givePoints 30 = .ok (.iadd, 1) := by decide +kernel
theorem dX3_givePoints_31 : decode cX3_givePoints 31 = .ok (.iastore, 1) := by decide +kernel
theorem dX3_givePoints_32 : decode cX3_givePoints 32 = .ok (.iinc 2 1, 3) := by decide +kernel
theorem dX3_givePoints_35 : decode cX3_givePoints 35 = .ok (.goto (-33), 3) := by decide +kernel
theorem dX3_givePoints_38 : decode cX3_givePoints 38 = .ok (.return_, 1) := by decide +kernel
theorem dX3_wearRopes_0 : decode cX3_wearRopes 0 = .ok (.iconst 0, 1) := by decide +kernel
theorem dX3_wearRopes_1 : decode cX3_wearRopes 1 = .ok (.istore_n 2, 1) := by decide +kernel
theorem dX3_wearRopes_2 : decode cX3_wearRopes 2 = .ok (.iload_n 2, 1) := by decide +kernel
theorem dX3_wearRopes_3 : decode cX3_wearRopes 3 = .ok (.bipush 30, 2) := by decide +kernel
theorem dX3_wearRopes_5 : decode cX3_wearRopes 5 = .ok (.if_icmp .ge 38, 3) := by decide +kernel
theorem dX3_wearRopes_8 : decode cX3_wearRopes 8 = .ok (.aload_n 1, 1) := by decide +kernel
theorem dX3_wearRopes_9 : decode cX3_wearRopes 9 = .ok (.getfield 115, 3) := by decide +kernel
theorem dX3_wearRopes_12 : decode cX3_wearRopes 12 = .ok (.iload_n 2, 1) := by decide +kernel
theorem dX3_wearRopes_13 : decode cX3_wearRopes 13 = .ok (.iaload, 1) := by decide +kernel
theorem dX3_wearRopes_14 : decode cX3_wearRopes 14 = .ok (.ifCond .ne 23, 3) := by decide +kernel
theorem dX3_wearRopes_17 : decode cX3_wearRopes 17 = .ok (.aload_n 0, 1) := by decide +kernel
theorem dX3_wearRopes_18 : decode cX3_wearRopes 18 = .ok (.getfield 42, 3) := by decide +kernel
theorem dX3_wearRopes_21 : decode cX3_wearRopes 21 = .ok (.iload_n 2, 1) := by decide +kernel
theorem dX3_wearRopes_22 : decode cX3_wearRopes 22 = .ok (.dup2, 1) := by decide +kernel
theorem dX3_wearRopes_23 : decode cX3_wearRopes 23 = .ok (.iaload, 1) := by decide +kernel
theorem dX3_wearRopes_24 : decode cX3_wearRopes 24 = .ok (.iconst 1, 1) := by decide +kernel
theorem dX3_wearRopes_25 : decode cX3_wearRopes 25 = .ok (.iadd, 1) := by decide +kernel
theorem dX3_wearRopes_26 : decode cX3_wearRopes 26 = .ok (.iastore, 1) := by decide +kernel
theorem dX3_wearRopes_27 : decode cX3_wearRopes 27 = .ok (.aload_n 0, 1) := by decide +kernel
theorem dX3_wearRopes_28 : decode cX3_wearRopes 28 = .ok (.getfield 45, 3) := by decide +kernel
theorem dX3_wearRopes_31 : decode cX3_wearRopes 31 = .ok (.iload_n 2, 1) := by decide +kernel
theorem dX3_wearRopes_32 : decode cX3_wearRopes 32 = .ok (.dup2, 1) := by decide +kernel
theorem dX3_wearRopes_33 : decode cX3_wearRopes 33 = .ok (.iaload, 1) := by decide +kernel
theorem dX3_wearRopes_34 : decode cX3_wearRopes 34 = .ok (.iconst 1, 1) := by decide +kernel
theorem dX3_wearRopes_35 : decode cX3_wearRopes 35 = .ok (.iadd, 1) := by decide +kernel
theorem dX3_wearRopes_36 : decode cX3_wearRopes 36 = .ok (.iastore, 1) := by decide +kernel
theorem dX3_wearRopes_37 : decode cX3_wearRopes 37 = .ok (.iinc 2 1, 3) := by decide +kernel
theorem dX3_wearRopes_40 : decode cX3_wearRopes 40 = .ok (.goto (-38), 3) := by decide +kernel
theorem dX3_wearRopes_43 : decode cX3_wearRopes 43 = .ok (.return_, 1) := by decide +kernel
theorem dX3_tireRingers_0 : decode cX3_tireRingers 0 = .ok (.iconst 0, 1) := by decide +kernel
theorem dX3_tireRingers_1 : decode cX3_tireRingers 1 = .ok (.istore_n 2, 1) := by decide +kernel
theorem dX3_tireRingers_2 : decode cX3_tireRingers 2 = .ok (.iload_n 2, 1) := by decide +kernel
theorem dX3_tireRingers_3 : decode cX3_tireRingers 3 = .ok (.bipush 6, 2) := by decide +kernel
theorem dX3_tireRingers_5 : decode cX3_tireRingers 5 = .ok (.if_icmp .ge 23, 3) := by decide +kernel
theorem dX3_tireRingers_8 : decode cX3_tireRingers 8 = .ok (.aload_n 0, 1) := by decide +kernel
theorem dX3_tireRingers_9 : decode cX3_tireRingers 9 = .ok (.getfield 18, 3) := by decide +kernel
theorem dX3_tireRingers_12 : decode cX3_tireRingers 12 = .ok (.iload_n 2, 1) := by decide +kernel
theorem dX3_tireRingers_13 : decode cX3_tireRingers 13 = .ok (.aload_n 1, 1) := by decide +kernel
theorem dX3_tireRingers_14 : decode cX3_tireRingers 14 = .ok (.getfield 118, 3) := by decide +kernel
theorem dX3_tireRingers_17 : decode cX3_tireRingers 17 = .ok (.iload_n 2, 1) := by decide +kernel
theorem dX3_tireRingers_18 : decode cX3_tireRingers 18 = .ok (.iaload, 1) := by decide +kernel
theorem dX3_tireRingers_19 : decode cX3_tireRingers 19 = .ok (.iconst 2, 1) := by decide +kernel
theorem dX3_tireRingers_20 : decode cX3_tireRingers 20 = .ok (.idiv, 1) := by decide +kernel
theorem dX3_tireRingers_21 : decode cX3_tireRingers 21 = .ok (.iastore, 1) := by decide +kernel
theorem dX3_tireRingers_22 : decode cX3_tireRingers 22 = .ok (.iinc 2 1, 3) := by decide +kernel
theorem dX3_tireRingers_25 : decode cX3_tireRingers 25 = .ok (.goto (-23), 3) := by decide +kernel
theorem dX3_tireRingers_28 : decode cX3_tireRingers 28 = .ok (.return_, 1) := by decide +kernel
theorem dX3_fallSilent_0 : decode cX3_fallSilent 0 = .ok (.iconst 0, 1) := by decide +kernel
theorem dX3_fallSilent_1 : decode cX3_fallSilent 1 = .ok (.istore_n 2, 1) := by decide +kernel
theorem dX3_fallSilent_2 : decode cX3_fallSilent 2 = .ok (.iload_n 2, 1) := by decide +kernel
theorem dX3_fallSilent_3 : decode cX3_fallSilent 3 = .ok (.bipush 6, 2) := by decide +kernel
theorem dX3_fallSilent_5 : decode cX3_fallSilent 5 = .ok (.if_icmp .ge 28, 3) := by decide +kernel
theorem dX3_fallSilent_8 : decode cX3_fallSilent 8 = .ok (.aload_n 0, 1) := by decide +kernel
theorem dX3_fallSilent_9 : decode cX3_fallSilent 9 = .ok (.getfield 30, 3) := by decide +kernel
theorem dX3_fallSilent_12 : decode cX3_fallSilent 12 = .ok (.iload_n 2, 1) := by decide +kernel
theorem dX3_fallSilent_13 : decode cX3_fallSilent 13 = .ok (.iaload, 1) := by decide +kernel
theorem dX3_fallSilent_14 : decode cX3_fallSilent 14 = .ok (.ifCond .le 13, 3) := by decide +kernel
theorem dX3_fallSilent_17 : decode cX3_fallSilent 17 = .ok (.aload_n 0, 1) := by decide +kernel
theorem dX3_fallSilent_18 : decode cX3_fallSilent 18 = .ok (.getfield 30, 3) := by decide +kernel
theorem dX3_fallSilent_21 : decode cX3_fallSilent 21 = .ok (.iload_n 2, 1) := by decide +kernel
theorem dX3_fallSilent_22 : decode cX3_fallSilent 22 = .ok (.dup2, 1) := by decide +kernel
theorem dX3_fallSilent_23 : decode cX3_fallSilent 23 = .ok (.iaload, 1) := by decide +kernel
theorem dX3_fallSilent_24 : decode cX3_fallSilent 24 = .ok (.iconst 1, 1) := by decide +kernel
theorem dX3_fallSilent_25 : decode cX3_fallSilent 25 = .ok (.isub, 1) := by decide +kernel
theorem dX3_fallSilent_26 : decode cX3_fallSilent 26 = .ok (.iastore, 1) := by decide +kernel
theorem dX3_fallSilent_27 : decode cX3_fallSilent 27 = .ok (.iinc 2 1, 3) := by decide +kernel
theorem dX3_fallSilent_30 : decode cX3_fallSilent 30 = .ok (.goto (-28), 3) := by decide +kernel
theorem dX3_fallSilent_33 : decode cX3_fallSilent 33 = .ok (.aload_n 0, 1) := by decide +kernel
theorem dX3_fallSilent_34 : decode cX3_fallSilent 34 = .ok (.iload_n 1, 1) := by decide +kernel
theorem dX3_fallSilent_35 : decode cX3_fallSilent 35 = .ok (.putfield 61, 3) := by decide +kernel
theorem dX3_fallSilent_38 : decode cX3_fallSilent 38 = .ok (.iload_n 1, 1) := by decide +kernel
theorem dX3_fallSilent_39 : decode cX3_fallSilent 39 = .ok (.invokestatic 77, 3) := by decide +kernel
theorem dX3_fallSilent_42 : decode cX3_fallSilent 42 = .ok (.ifCond .eq 26, 3) := by decide +kernel
theorem dX3_fallSilent_45 : decode cX3_fallSilent 45 = .ok (.aload_n 0, 1) := by decide +kernel
theorem dX3_fallSilent_46 : decode cX3_fallSilent 46 = .ok (.getfield 30, 3) := by decide +kernel
theorem dX3_fallSilent_49 : decode cX3_fallSilent 49 = .ok (.iload_n 1, 1) := by decide +kernel
theorem dX3_fallSilent_50 : decode cX3_fallSilent 50 = .ok (.aload_n 0, 1) := by decide +kernel
theorem dX3_fallSilent_51 : decode cX3_fallSilent 51 = .ok (.getfield 52, 3) := by decide +kernel
theorem dX3_fallSilent_54 : decode cX3_fallSilent 54 = .ok (.iastore, 1) := by decide +kernel
theorem dX3_fallSilent_55 : decode cX3_fallSilent 55 = .ok (.aload_n 0, 1) := by decide +kernel
theorem dX3_fallSilent_56 : decode cX3_fallSilent 56 = .ok (.getfield 36, 3) := by decide +kernel
theorem dX3_fallSilent_59 : decode cX3_fallSilent 59 = .ok (.iload_n 1, 1) := by decide +kernel
theorem dX3_fallSilent_60 : decode cX3_fallSilent 60 = .ok (.dup2, 1) := by decide +kernel
theorem dX3_fallSilent_61 : decode cX3_fallSilent 61 = .ok (.iaload, 1) := by decide +kernel
theorem dX3_fallSilent_62 : decode cX3_fallSilent 62 = .ok (.iconst 1, 1) := by decide +kernel
theorem dX3_fallSilent_63 : decode cX3_fallSilent 63 = .ok (.iadd, 1) := by decide +kernel
theorem dX3_fallSilent_64 : decode cX3_fallSilent 64 = .ok (.iastore, 1) := by decide +kernel
theorem dX3_fallSilent_65 : decode cX3_fallSilent 65 = .ok (.goto 13, 3) := by decide +kernel
theorem dX3_fallSilent_68 : decode cX3_fallSilent 68 = .ok (.aload_n 0, 1) := by decide +kernel
theorem dX3_fallSilent_69 : decode cX3_fallSilent 69 = .ok (.dup, 1) := by decide +kernel
theorem dX3_fallSilent_70 : decode cX3_fallSilent 70 = .ok (.getfield 58, 3) := by decide +kernel
theorem dX3_fallSilent_73 : decode cX3_fallSilent 73 = .ok (.iconst 1, 1) := by decide +kernel
theorem dX3_fallSilent_74 : decode cX3_fallSilent 74 = .ok (.iadd, 1) := by decide +kernel
theorem dX3_fallSilent_75 : decode cX3_fallSilent 75 = .ok (.putfield 58, 3) := by decide +kernel
theorem dX3_fallSilent_78 : decode cX3_fallSilent 78 = .ok (.return_, 1) := by decide +kernel
theorem dX4_init_0 : decode cX4_init 0 = .ok (.aload_n 0, 1) := by decide +kernel
theorem dX4_init_1 : decode cX4_init 1 = .ok (.invokespecial 1, 3) := by decide +kernel
theorem dX4_init_4 : decode cX4_init 4 = .ok (.aload_n 0, 1) := by decide +kernel
theorem dX4_init_5 : decode cX4_init 5 = .ok (.new 7, 3) := by decide +kernel
theorem dX4_init_8 : decode cX4_init 8 = .ok (.dup, 1) := by decide +kernel
theorem dX4_init_9 : decode cX4_init 9 = .ok (.invokespecial 9, 3) := by decide +kernel
theorem dX4_init_12 : decode cX4_init 12 = .ok (.putfield 10, 3) := by decide +kernel
theorem dX4_init_15 : decode cX4_init 15 = .ok (.aload_n 0, 1) := by decide +kernel
theorem dX4_init_16 : decode cX4_init 16 = .ok (.new 7, 3) := by decide +kernel
theorem dX4_init_19 : decode cX4_init 19 = .ok (.dup, 1) := by decide +kernel
theorem dX4_init_20 : decode cX4_init 20 = .ok (.invokespecial 9, 3) := by decide +kernel
theorem dX4_init_23 : decode cX4_init 23 = .ok (.putfield 16, 3) := by decide +kernel
theorem dX4_init_26 : decode cX4_init 26 = .ok (.aload_n 0, 1) := by decide +kernel
theorem dX4_init_27 : decode cX4_init 27 = .ok (.new 7, 3) := by decide +kernel
theorem dX4_init_30 : decode cX4_init 30 = .ok (.dup, 1) := by decide +kernel
theorem dX4_init_31 : decode cX4_init 31 = .ok (.invokespecial 9, 3) := by decide +kernel
theorem dX4_init_34 : decode cX4_init 34 = .ok (.putfield 19, 3) := by decide +kernel
theorem dX4_init_37 : decode cX4_init 37 = .ok (.aload_n 0, 1) := by decide +kernel
theorem dX4_init_38 : decode cX4_init 38 = .ok (.iconst 0, 1) := by decide +kernel
theorem dX4_init_39 : decode cX4_init 39 = .ok (.putfield 22, 3) := by decide +kernel
theorem dX4_init_42 : decode cX4_init 42 = .ok (.aload_n 0, 1) := by decide +kernel
theorem dX4_init_43 : decode cX4_init 43 = .ok (.new 26, 3) := by decide +kernel
theorem dX4_init_46 : decode cX4_init 46 = .ok (.dup, 1) := by decide +kernel
theorem dX4_init_47 : decode cX4_init 47 = .ok (.invokespecial 28, 3) := by decide +kernel
theorem dX4_init_50 : decode cX4_init 50 = .ok (.putfield 29, 3) := by decide +kernel
theorem dX4_init_53 : decode cX4_init 53 = .ok (.aload_n 0, 1) := by decide +kernel
theorem dX4_init_54 : decode cX4_init 54 = .ok (.new 33, 3) := by decide +kernel
theorem dX4_init_57 : decode cX4_init 57 = .ok (.dup, 1) := by decide +kernel
theorem dX4_init_58 : decode cX4_init 58 = .ok (.invokespecial 35, 3) := by decide +kernel
theorem dX4_init_61 : decode cX4_init 61 = .ok (.putfield 36, 3) := by decide +kernel
theorem dX4_init_64 : decode cX4_init 64 = .ok (.aload_n 0, 1) := by decide +kernel
theorem dX4_init_65 : decode cX4_init 65 = .ok (.new 40, 3) := by decide +kernel
theorem dX4_init_68 : decode cX4_init 68 = .ok (.dup, 1) := by decide +kernel
theorem dX4_init_69 : decode cX4_init 69 = .ok (.invokespecial 42, 3) := by decide +kernel
theorem dX4_init_72 : decode cX4_init 72 = .ok (.putfield 43, 3) := by decide +kernel
theorem dX4_init_75 : decode cX4_init 75 = .ok (.return_, 1) := by decide +kernel
theorem dX4_hang_0 : decode cX4_hang 0 = .ok (.iload_n 1, 1) := by decide +kernel
theorem dX4_hang_1 : decode cX4_hang 1 = .ok (.invokestatic 47, 3) := by decide +kernel
theorem dX4_hang_4 : decode cX4_hang 4 = .ok (.ifCond .ne 5, 3) := by decide +kernel
theorem dX4_hang_7 : decode cX4_hang 7 = .ok (.iconst (-1), 1) := by decide +kernel
theorem dX4_hang_8 : decode cX4_hang 8 = .ok (.ireturn, 1) := by decide +kernel
theorem dX4_hang_9 : decode cX4_hang 9 = .ok (.iload_n 2, 1) := by decide +kernel
theorem dX4_hang_10 : decode cX4_hang 10 = .ok (.iconst 1, 1) := by decide +kernel
theorem dX4_hang_11 : decode cX4_hang 11 = .ok (.if_icmp .lt 9, 3) := by decide +kernel
theorem dX4_hang_14 : decode cX4_hang 14 = .ok (.iload_n 2, 1) := by decide +kernel
theorem dX4_hang_15 : decode cX4_hang 15 = .ok (.bipush 9, 2) := by decide +kernel
theorem dX4_hang_17 : decode cX4_hang 17 = .ok (.if_icmp .le 6, 3) := by decide +kernel
theorem dX4_hang_20 : decode cX4_hang 20 = .ok (.bipush (-2), 2) := by decide +kernel
theorem dX4_hang_22 : decode cX4_hang 22 = .ok (.ireturn, 1) := by decide +kernel
theorem dX4_hang_23 : decode cX4_hang 23 = .ok (.aload_n 0, 1) := by decide +kernel
theorem dX4_hang_24 : decode cX4_hang 24 = .ok (.getfield 10, 3) := by decide +kernel
theorem dX4_hang_27 : decode cX4_hang 27 = .ok (.getfield 51, 3) := by decide +kernel
theorem dX4_hang_30 : decode cX4_hang 30 = .ok (.iload_n 1, 1) := by decide +kernel
theorem dX4_hang_31 : decode cX4_hang 31 = .ok (.iaload, 1) := by decide +kernel
theorem dX4_hang_32 : decode cX4_hang 32 = .ok (.iconst 5, 1) := by decide +kernel
theorem dX4_hang_33 : decode cX4_hang 33 = .ok (.if_icmp .lt 6, 3) := by decide +kernel
theorem dX4_hang_36 : decode cX4_hang 36 = .ok (.bipush (-3), 2) := by decide +kernel
theorem dX4_hang_38 : decode cX4_hang 38 = .ok (.ireturn, 1) := by decide +kernel
theorem dX4_hang_39 : decode cX4_hang 39 = .ok (.aload_n 0, 1) := by decide +kernel
theorem dX4_hang_40 : decode cX4_hang 40 = .ok (.getfield 29, 3) := by decide +kernel
theorem dX4_hang_43 : decode cX4_hang 43 = .ok (.aload_n 0, 1) := by decide +kernel
theorem dX4_hang_44 : decode cX4_hang 44 = .ok (.getfield 10, 3) := by decide +kernel
theorem dX4_hang_47 : decode cX4_hang 47 = .ok (.invokevirtual 55, 3) := by decide +kernel
theorem dX4_hang_50 : decode cX4_hang 50 = .ok (.aload_n 0, 1) := by decide +kernel
theorem dX4_hang_51 : decode cX4_hang 51 = .ok (.getfield 10, 3) := by decide +kernel
theorem dX4_hang_54 : decode cX4_hang 54 = .ok (.iload_n 1, 1) := by decide +kernel
theorem dX4_hang_55 : decode cX4_hang 55 = .ok (.iload_n 2, 1) := by decide +kernel
theorem dX4_hang_56 : decode cX4_hang 56 = .ok (.invokevirtual 59, 3) := by decide +kernel
theorem dX4_hang_59 : decode cX4_hang 59 = .ok (.ireturn, 1) := by decide +kernel
theorem dX4_melt_0 : decode cX4_melt 0 = .ok (.aload_n 0, 1) := by decide +kernel
theorem dX4_melt_1 : decode cX4_melt 1 = .ok (.getfield 10, 3) := by decide +kernel
theorem dX4_melt_4 : decode cX4_melt 4 = .ok (.iload_n 1, 1) := by decide +kernel
theorem dX4_melt_5 : decode cX4_melt 5 = .ok (.iload_n 2, 1) := by decide +kernel
theorem dX4_melt_6 : decode cX4_melt 6 = .ok (.invokevirtual 63, 3) := by decide +kernel
theorem dX4_melt_9 : decode cX4_melt 9 = .ok (.ifCond .ne 5, 3) := by decide +kernel
theorem dX4_melt_12 : decode cX4_melt 12 = .ok (.iconst (-1), 1) := by decide +kernel
theorem dX4_melt_13 : decode cX4_melt 13 = .ok (.ireturn, 1) := by decide +kernel
theorem dX4_melt_14 : decode cX4_melt 14 = .ok (.aload_n 0, 1) := by decide +kernel
theorem dX4_melt_15 : decode cX4_melt 15 = .ok (.getfield 29, 3) := by decide +kernel
theorem dX4_melt_18 : decode cX4_melt 18 = .ok (.aload_n 0, 1) := by decide +kernel
theorem dX4_melt_19 : decode cX4_melt 19 = .ok (.getfield 10, 3) := by decide +kernel
theorem dX4_melt_22 : decode cX4_melt 22 = .ok (.invokevirtual 55, 3) := by decide +kernel
theorem dX4_melt_25 : decode cX4_melt 25 = .ok (.aload_n 0, 1) := by decide +kernel
theorem dX4_melt_26 : decode cX4_melt 26 = .ok (.getfield 10, 3) := by decide +kernel
theorem dX4_melt_29 : decode cX4_melt 29 = .ok (.getfield 67, 3) := by decide +kernel
theorem dX4_melt_32 : decode cX4_melt 32 = .ok (.iload_n 1, 1) := by decide +kernel
theorem dX4_melt_33 : decode cX4_melt 33 = .ok (.iload_n 2, 1) := by decide +kernel
theorem dX4_melt_34 : decode cX4_melt 34 = .ok (.invokestatic 70, 3) := by decide +kernel
theorem dX4_melt_37 : decode cX4_melt 37 = .ok (.iaload, 1) := by decide +kernel
theorem dX4_melt_38 : decode cX4_melt 38 = .ok (.istore_n 3, 1) := by decide +kernel
theorem dX4_melt_39 : decode cX4_melt 39 = .ok (.aload_n 0, 1) := by decide +kernel
theorem dX4_melt_40 : decode cX4_melt 40 = .ok (.getfield 10, 3) := by decide +kernel
theorem dX4_melt_43 : decode cX4_melt 43 = .ok (.iload_n 1, 1) := by decide +kernel
theorem dX4_melt_44 : decode cX4_melt 44 = .ok (.iload_n 2, 1) := by decide +kernel
theorem dX4_melt_45 : decode cX4_melt 45 = .ok (.invokevirtual 73, 3) := by decide +kernel
theorem dX4_melt_48 : decode cX4_melt 48 = .ok (.iload_n 3, 1) := by decide +kernel
theorem dX4_melt_49 : decode cX4_melt 49 = .ok (.ireturn, 1) := by decide +kernel
theorem dX4_settle_0 : decode cX4_settle 0 = .ok (.iload_n 1, 1) := by decide +kernel
theorem dX4_settle_1 : decode cX4_settle 1 = .ok (.invokestatic 47, 3) := by decide +kernel
theorem dX4_settle_4 : decode cX4_settle 4 = .ok (.ifCond .ne 5, 3) := by decide +kernel
theorem dX4_settle_7 : decode cX4_settle 7 = .ok (.iconst (-1), 1) := by decide +kernel
theorem dX4_settle_8 : decode cX4_settle 8 = .ok (.ireturn, 1) := by decide +kernel
theorem dX4_settle_9 : decode cX4_settle 9 = .ok (.iload_n 2, 1) := by decide +kernel
theorem dX4_settle_10 : decode cX4_settle 10 = .ok (.ifCond .lt 9, 3) := by decide +kernel
theorem dX4_settle_13 : decode cX4_settle 13 = .ok (.iload_n 2, 1) := by decide +kernel
theorem dX4_settle_14 : decode cX4_settle 14 = .ok (.bipush 40, 2) := by decide +kernel
theorem dX4_settle_16 : decode cX4_settle 16 = .ok (.if_icmp .le 6, 3) := by decide +kernel
theorem dX4_settle_19 : decode cX4_settle 19 = .ok (.bipush (-2), 2) := by decide +kernel
theorem dX4_settle_21 : decode cX4_settle 21 = .ok (.ireturn, 1) := by decide +kernel
theorem dX4_settle_22 : decode cX4_settle 22 = .ok (.iload_n 3, 1) := by decide +kernel
theorem dX4_settle_23 : decode cX4_settle 23 = .ok (.iconst 1, 1) := by decide +kernel
theorem dX4_settle_24 : decode cX4_settle 24 = .ok (.if_icmp .lt 9, 3) := by decide +kernel
theorem dX4_settle_27 : decode cX4_settle 27 = .ok (.iload_n 3, 1) := by decide +kernel
theorem dX4_settle_28 : decode cX4_settle 28 = .ok (.bipush 20, 2) := by decide +kernel
theorem dX4_settle_30 : decode cX4_settle 30 = .ok (.if_icmp .le 6, 3) := by decide +kernel
theorem dX4_settle_33 : decode cX4_settle 33 = .ok (.bipush (-2), 2) := by decide +kernel
theorem dX4_settle_35 : decode cX4_settle 35 = .ok (.ireturn, 1) := by decide +kernel
theorem dX4_settle_36 : decode cX4_settle 36 = .ok (.aload_n 0, 1) := by decide +kernel
theorem dX4_settle_37 : decode cX4_settle 37 = .ok (.getfield 10, 3) := by decide +kernel
theorem dX4_settle_40 : decode cX4_settle 40 = .ok (.iload_n 2, 1) := by decide +kernel
theorem dX4_settle_41 : decode cX4_settle 41 = .ok (.iload_n 1, 1) := by decide +kernel
theorem dX4_settle_42 : decode cX4_settle 42 = .ok (.invokevirtual 77, 3) := by decide +kernel
theorem dX4_settle_45 : decode cX4_settle 45 = .ok (.ifCond .eq 6, 3) := by decide +kernel
theorem dX4_settle_48 : decode cX4_settle 48 = .ok (.bipush (-4), 2) := by decide +kernel
theorem dX4_settle_50 : decode cX4_settle 50 = .ok (.ireturn, 1) := by decide +kernel
theorem dX4_settle_51 : decode cX4_settle 51 = .ok (.aload_n 0, 1) := by decide +kernel
theorem dX4_settle_52 : decode cX4_settle 52 = .ok (.getfield 29, 3) := by decide +kernel
theorem dX4_settle_55 : decode cX4_settle 55 = .ok (.aload_n 0, 1) := by decide +kernel
theorem dX4_settle_56 : decode cX4_settle 56 = .ok (.getfield 10, 3) := by decide +kernel
theorem dX4_settle_59 : decode cX4_settle 59 = .ok (.invokevirtual 55, 3) := by decide +kernel
theorem dX4_settle_62 : decode cX4_settle 62 = .ok (.aload_n 0, 1) := by decide +kernel
theorem dX4_settle_63 : decode cX4_settle 63 = .ok (.getfield 10, 3) := by decide +kernel
theorem dX4_settle_66 : decode cX4_settle 66 = .ok (.getfield 80, 3) := by decide +kernel
theorem dX4_settle_69 : decode cX4_settle 69 = .ok (.iload_n 1, 1) := by decide +kernel
theorem dX4_settle_70 : decode cX4_settle 70 = .ok (.iload_n 2, 1) := by decide +kernel
theorem dX4_settle_71 : decode cX4_settle 71 = .ok (.iastore, 1) := by decide +kernel
theorem dX4_settle_72 : decode cX4_settle 72 = .ok (.aload_n 0, 1) := by decide +kernel
theorem dX4_settle_73 : decode cX4_settle 73 = .ok (.getfield 10, 3) := by decide +kernel
theorem dX4_settle_76 : decode cX4_settle 76 = .ok (.getfield 83, 3) := by decide +kernel
theorem dX4_settle_79 : decode cX4_settle 79 = .ok (.iload_n 1, 1) := by decide +kernel
theorem dX4_settle_80 : decode cX4_settle 80 = .ok (.iload_n 3, 1) := by decide +kernel
theorem dX4_settle_81 : decode cX4_settle 81 = .ok (.iastore, 1) := by decide +kernel
theorem dX4_settle_82 : decode cX4_settle 82 = .ok (.aload_n 0, 1) := by decide +kernel
theorem dX4_settle_83 : decode cX4_settle 83 = .ok (.getfield 10, 3) := by decide +kernel
theorem dX4_settle_86 : decode cX4_settle 86 = .ok (.getfield 86, 3) := by decide +kernel
theorem dX4_settle_89 : decode cX4_settle 89 = .ok (.iload_n 1, 1) := by decide +kernel
theorem dX4_settle_90 : decode cX4_settle 90 = .ok (.aload_n 0, 1) := by decide +kernel
theorem dX4_settle_91 : decode cX4_settle 91 = .ok (.getfield 10, 3) := by decide +kernel
theorem dX4_settle_94 : decode cX4_settle 94 = .ok (.getfield 86, 3) := by decide +kernel
theorem dX4_settle_97 : decode cX4_settle 97 = .ok (.iload_n 1, 1) := by decide +kernel
theorem dX4_settle_98 : decode cX4_settle 98 = .ok (.iaload, 1) := by decide +kernel
theorem dX4_settle_99 : decode cX4_settle 99 = .ok (.iload_n 3, 1) := by decide +kernel
theorem dX4_settle_100 : decode cX4_settle 100 = .ok (.invokestatic 89, 3) := by decide +kernel
theorem dX4_settle_103 : decode cX4_settle 103 = .ok (.iastore, 1) := by decide +kernel
theorem dX4_settle_104 : decode cX4_settle 104 = .ok (.aload_n 0, 1) := by decide +kernel
theorem dX4_settle_105 : decode cX4_settle 105 = .ok (.getfield 10, 3) := by decide +kernel
theorem dX4_settle_108 : decode cX4_settle 108 = .ok (.getfield 86, 3) := by decide +kernel
theorem dX4_settle_111 : decode cX4_settle 111 = .ok (.iload_n 1, 1) := by decide +kernel
theorem dX4_settle_112 : decode cX4_settle 112 = .ok (.iaload, 1) := by decide +kernel
theorem dX4_settle_113 : decode cX4_settle 113 = .ok (.ireturn, 1) := by decide +kernel
theorem dX4_plan_0 : decode cX4_plan 0 = .ok (.aload_n 0, 1) := by decide +kernel
theorem dX4_plan_1 : decode cX4_plan 1 = .ok (.iload_n 1, 1) := by decide +kernel
theorem dX4_plan_2 : decode cX4_plan 2 = .ok (.iload_n 2, 1) := by decide +kernel
theorem dX4_plan_3 : decode cX4_plan 3 = .ok (.invokevirtual 94, 3) := by decide +kernel
theorem dX4_plan_6 : decode cX4_plan 6 = .ok (.istore_n 3, 1) := by decide +kernel
theorem dX4_plan_7 : decode cX4_plan 7 = .ok (.iload_n 3, 1) := by decide +kernel
theorem dX4_plan_8 : decode cX4_plan 8 = .ok (.ifCond .eq 5, 3) := by decide +kernel
theorem dX4_plan_11 : decode cX4_plan 11 = .ok (.iload_n 3, 1) := by decide +kernel
theorem dX4_plan_12 : decode cX4_plan 12 = .ok (.ireturn, 1) := by decide +kernel
theorem dX4_plan_13 : decode cX4_plan 13 = .ok (.aload_n 0, 1) := by decide +kernel
theorem dX4_plan_14 : decode cX4_plan 14 = .ok (.getfield 29, 3) := by decide +kernel
theorem dX4_plan_17 : decode cX4_plan 17 = .ok (.aload_n 0, 1) := by decide +kernel
theorem dX4_plan_18 : decode cX4_plan 18 = .ok (.getfield 10, 3) := by decide +kernel
theorem dX4_plan_21 : decode cX4_plan 21 = .ok (.invokevirtual 55, 3) := by decide +kernel
theorem dX4_plan_24 : decode cX4_plan 24 = .ok (.aload_n 0, 1) := by decide +kernel
theorem dX4_plan_25 : decode cX4_plan 25 = .ok (.iload_n 1, 1) := by decide +kernel
theorem dX4_plan_26 : decode cX4_plan 26 = .ok (.iload_n 2, 1) := by decide +kernel
theorem dX4_plan_27 : decode cX4_plan 27 = .ok (.invokevirtual 97, 3) := by decide +kernel
theorem dX4_plan_30 : decode cX4_plan 30 = .ok (.ireturn, 1) := by decide +kernel
theorem dX4_splice_0 : decode cX4_splice 0 = .ok (.aload_n 0, 1) := by decide +kernel
theorem dX4_splice_1 : decode cX4_splice 1 = .ok (.iload_n 1, 1) := by decide +kernel
theorem dX4_splice_2 : decode cX4_splice 2 = .ok (.iload_n 2, 1) := by decide +kernel
theorem dX4_splice_3 : decode cX4_splice 3 = .ok (.invokevirtual 100, 3) := by decide +kernel
theorem dX4_splice_6 : decode cX4_splice 6 = .ok (.istore_n 3, 1) := by decide +kernel
theorem dX4_splice_7 : decode cX4_splice 7 = .ok (.iload_n 3, 1) := by decide +kernel
theorem dX4_splice_8 : decode cX4_splice 8 = .ok (.ifCond .eq 5, 3) := by decide +kernel
theorem dX4_splice_11 : decode cX4_splice 11 = .ok (.iload_n 3, 1) := by decide +kernel
theorem dX4_splice_12 : decode cX4_splice 12 = .ok (.ireturn, 1) := by decide +kernel
theorem dX4_splice_13 : decode cX4_splice 13 = .ok (.aload_n 0, 1) := by decide +kernel
theorem dX4_splice_14 : decode cX4_splice 14 = .ok (.getfield 29, 3) := by decide +kernel
theorem dX4_splice_17 : decode cX4_splice 17 = .ok (.aload_n 0, 1) := by decide +kernel
theorem dX4_splice_18 : decode cX4_splice 18 = .ok (.getfield 10, 3) := by decide +kernel
theorem dX4_splice_21 : decode cX4_splice 21 = .ok (.invokevirtual 55, 3) := by decide +kernel
theorem dX4_splice_24 : decode cX4_splice 24 = .ok (.aload_n 0, 1) := by decide +kernel
theorem dX4_splice_25 : decode cX4_splice 25 = .ok (.iload_n 1, 1) := by decide +kernel
theorem dX4_splice_26 : decode cX4_splice 26 = .ok (.iload_n 2, 1) := by decide +kernel
theorem dX4_splice_27 : decode cX4_splice 27 = .ok (.invokevirtual 103, 3) := by decide +kernel
theorem dX4_splice_30 : decode cX4_splice 30 = .ok (.ireturn, 1) := by decide +kernel
theorem dX4_feast_0 : decode cX4_feast 0 = .ok (.iload_n 1, 1) := by decide +kernel
theorem dX4_feast_1 : decode cX4_feast 1 = .ok (.invokestatic 47, 3) := by decide +kernel
theorem dX4_feast_4 : decode cX4_feast 4 = .ok (.ifCond .ne 5, 3) := by decide +kernel
theorem dX4_feast_7 : decode cX4_feast 7 = .ok (.iconst (-1), 1) := by decide +kernel
theorem dX4_feast_8 : decode cX4_feast 8 = .ok (.ireturn, 1) := by decide +kernel
theorem dX4_feast_9 : decode cX4_feast 9 = .ok (.iload_n 2, 1) := by decide +kernel
theorem dX4_feast_10 : decode cX4_feast 10 = .ok (.ifCond .lt 9, 3) := by decide +kernel
theorem dX4_feast_13 : decode cX4_feast 13 = .ok (.iload_n 2, 1) := by decide +kernel
theorem dX4_feast_14 : decode cX4_feast 14 = .ok (.bipush 7, 2) := by decide +kernel
theorem dX4_feast_16 : decode cX4_feast 16 = .ok (.if_icmp .lt 6, 3) := by decide +kernel
theorem dX4_feast_19 : decode cX4_feast 19 = .ok (.bipush (-2), 2) := by decide +kernel
theorem dX4_feast_21 : decode cX4_feast 21 = .ok (.ireturn, 1) := by decide +kernel
theorem dX4_feast_22 : decode cX4_feast 22 = .ok (.aload_n 0, 1) := by decide +kernel
theorem dX4_feast_23 : decode cX4_feast 23 = .ok (.getfield 29, 3) := by decide +kernel
theorem dX4_feast_26 : decode cX4_feast 26 = .ok (.aload_n 0, 1) := by decide +kernel
theorem dX4_feast_27 : decode cX4_feast 27 = .ok (.getfield 10, 3) := by decide +kernel
theorem dX4_feast_30 : decode cX4_feast 30 = .ok (.invokevirtual 55, 3) := by decide +kernel
theorem dX4_feast_33 : decode cX4_feast 33 = .ok (.aload_n 0, 1) := by decide +kernel
theorem dX4_feast_34 : decode cX4_feast 34 = .ok (.getfield 10, 3) := by decide +kernel
theorem dX4_feast_37 : decode cX4_feast 37 = .ok (.getfield 106, 3) := by decide +kernel
theorem dX4_feast_40 : decode cX4_feast 40 = .ok (.iload_n 1, 1) := by decide +kernel
theorem dX4_feast_41 : decode cX4_feast 41 = .ok (.iaload, 1) := by decide +kernel
theorem dX4_feast_42 : decode cX4_feast 42 = .ok (.istore_n 3, 1) := by decide +kernel
theorem dX4_feast_43 : decode cX4_feast 43 = .ok (.aload_n 0, 1) := by decide +kernel
theorem dX4_feast_44 : decode cX4_feast 44 = .ok (.getfield 10, 3) := by decide +kernel
theorem dX4_feast_47 : decode cX4_feast 47 = .ok (.getfield 106, 3) := by decide +kernel
theorem dX4_feast_50 : decode cX4_feast 50 = .ok (.iload_n 1, 1) := by decide +kernel
theorem dX4_feast_51 : decode cX4_feast 51 = .ok (.iload_n 2, 1) := by decide +kernel
theorem dX4_feast_52 : decode cX4_feast 52 = .ok (.iastore, 1) := by decide +kernel
theorem dX4_feast_53 : decode cX4_feast 53 = .ok (.iload_n 3, 1) := by decide +kernel
theorem dX4_feast_54 : decode cX4_feast 54 = .ok (.ireturn, 1) := by decide +kernel
theorem dX4_set_0 : decode cX4_set 0 = .ok (.iload_n 1, 1) := by decide +kernel
theorem dX4_set_1 : decode cX4_set 1 = .ok (.ifCond .lt 8, 3) := by decide +kernel
theorem dX4_set_4 : decode cX4_set 4 = .ok (.iload_n 1, 1) := by decide +kernel
theorem dX4_set_5 : decode cX4_set 5 = .ok (.iconst 2, 1) := by decide +kernel
theorem dX4_set_6 : decode cX4_set 6 = .ok (.if_icmp .lt 5, 3) := by decide +kernel
theorem dX4_set_9 : decode cX4_set 9 = .ok (.iconst (-1), 1) := by decide +kernel
theorem dX4_set_10 : decode cX4_set 10 = .ok (.ireturn, 1) := by decide +kernel
theorem dX4_set_11 : decode cX4_set 11 = .ok (.iload_n 1, 1) := by decide +kernel
theorem dX4_set_12 : decode cX4_set 12 = .ok (.iload_n 2, 1) := by decide +kernel
theorem dX4_set_13 : decode cX4_set 13 = .ok (.invokestatic 109, 3) := by decide +kernel
theorem dX4_set_16 : decode cX4_set 16 = .ok (.ifCond .ne 6, 3) := by decide +kernel
theorem dX4_set_19 : decode cX4_set 19 = .ok (.bipush (-2), 2) := by decide +kernel
theorem dX4_set_21 : decode cX4_set 21 = .ok (.ireturn, 1) := by decide +kernel
theorem dX4_set_22 : decode cX4_set 22 = .ok (.aload_n 0, 1) := by decide +kernel
theorem dX4_set_23 : decode cX4_set 23 = .ok (.getfield 29, 3) := by decide +kernel
theorem dX4_set_26 : decode cX4_set 26 = .ok (.aload_n 0, 1) := by decide +kernel
theorem dX4_set_27 : decode cX4_set 27 = .ok (.getfield 10, 3) := by decide +kernel
theorem dX4_set_30 : decode cX4_set 30 = .ok (.invokevirtual 55, 3) := by decide +kernel
theorem dX4_set_33 : decode cX4_set 33 = .ok (.iload_n 1, 1) := by decide +kernel
theorem dX4_set_34 : decode cX4_set 34 = .ok (.ifCond .ne 13, 3) := by decide +kernel
theorem dX4_set_37 : decode cX4_set 37 = .ok (.aload_n 0, 1) := by decide +kernel
theorem dX4_set_38 : decode cX4_set 38 = .ok (.getfield 10, 3) := by decide +kernel
theorem dX4_set_41 : decode cX4_set 41 = .ok (.getfield 112, 3) := by decide +kernel
theorem dX4_set_44 : decode cX4_set 44 = .ok (.goto 10, 3) := by decide +kernel
theorem dX4_set_47 : decode cX4_set 47 = .ok (.aload_n 0, 1) := by decide +kernel
theorem dX4_set_48 : decode cX4_set 48 = .ok (.getfield 10, 3) := by decide +kernel
theorem dX4_set_51 : decode cX4_set 51 = .ok (.getfield 116, 3) := by decide +kernel
theorem dX4_set_54 : decode cX4_set 54 = .ok (.istore_n 3, 1) := by decide +kernel
theorem dX4_set_55 : decode cX4_set 55 = .ok (.iload_n 1, 1) := by decide +kernel
theorem dX4_set_56 : decode cX4_set 56 = .ok (.ifCond .ne 14, 3) := by decide +kernel
theorem dX4_set_59 : decode cX4_set 59 = .ok (.aload_n 0, 1) := by decide +kernel
theorem dX4_set_60 : decode cX4_set 60 = .ok (.getfield 10, 3) := by decide +kernel
theorem dX4_set_63 : decode cX4_set 63 = .ok (.iload_n 2, 1) := by decide +kernel
theorem dX4_set_64 : decode cX4_set 64 = .ok (.putfield 112, 3) := by decide +kernel
theorem dX4_set_67 : decode cX4_set 67 = .ok (.goto 11, 3) := by decide +kernel
theorem dX4_set_70 : decode cX4_set 70 = .ok (.aload_n 0, 1) := by decide +kernel
theorem dX4_set_71 : decode cX4_set 71 = .ok (.getfield 10, 3) := by decide +kernel
theorem dX4_set_74 : decode cX4_set 74 = .ok (.iload_n 2, 1) := by decide +kernel
theorem dX4_set_75 : decode cX4_set 75 = .ok (.putfield 116, 3) := by decide +kernel
theorem dX4_set_78 : decode cX4_set 78 = .ok (.iload_n 3, 1) := by decide +kernel
theorem dX4_set_79 : decode cX4_set 79 = .ok (.ireturn, 1) := by decide +kernel
theorem dX4_turns_0 : decode cX4_turns 0 = .ok (.iload_n 1, 1) := by decide +kernel
theorem dX4_turns_1 : decode cX4_turns 1 = .ok (.invokestatic 119, 3) := by decide +kernel
theorem dX4_turns_4 : decode cX4_turns 4 = .ok (.istore_n 2, 1) := by decide +kernel
theorem dX4_turns_5 : decode cX4_turns 5 = .ok (.iload_n 2, 1) := by decide +kernel
theorem dX4_turns_6 : decode cX4_turns 6 = .ok (.ifCond .eq 5, 3) := by decide +kernel
theorem dX4_turns_9 : decode cX4_turns 9 = .ok (.iload_n 2, 1) := by decide +kernel
theorem dX4_turns_10 : decode cX4_turns 10 = .ok (.ireturn, 1) := by decide +kernel
theorem dX4_turns_11 : decode cX4_turns 11 = .ok (.aload_n 0, 1) := by decide +kernel
theorem dX4_turns_12 : decode cX4_turns 12 = .ok (.getfield 29, 3) := by decide +kernel
theorem dX4_turns_15 : decode cX4_turns 15 = .ok (.aload_n 0, 1) := by decide +kernel
theorem dX4_turns_16 : decode cX4_turns 16 = .ok (.getfield 10, 3) := by decide +kernel
theorem dX4_turns_19 : decode cX4_turns 19 = .ok (.invokevirtual 55, 3) := by decide +kernel
theorem dX4_turns_22 : decode cX4_turns 22 = .ok (.aload_n 0, 1) := by decide +kernel
theorem dX4_turns_23 : decode cX4_turns 23 = .ok (.aload_n 0, 1) := by decide +kernel
theorem dX4_turns_24 : decode cX4_turns 24 = .ok (.getfield 10, 3) := by decide +kernel
theorem dX4_turns_27 : decode cX4_turns 27 = .ok (.iload_n 1, 1) := by decide +kernel
theorem dX4_turns_28 : decode cX4_turns 28 = .ok (.invokevirtual 123, 3) := by decide +kernel
theorem dX4_turns_31 : decode cX4_turns 31 = .ok (.aload_n 0, 1) := by decide +kernel
theorem dX4_turns_32 : decode cX4_turns 32 = .ok (.getfield 10, 3) := by decide +kernel
theorem dX4_turns_35 : decode cX4_turns 35 = .ok (.getfield 127, 3) := by decide +kernel
theorem dX4_turns_38 : decode cX4_turns 38 = .ok (.ireturn, 1) := by decide +kernel
theorem dX4_town_0 : decode cX4_town 0 = .ok (.iload_n 1, 1) := by decide +kernel
theorem dX4_town_1 : decode cX4_town 1 = .ok (.invokestatic 47, 3) := by decide +kernel
theorem dX4_town_4 : decode cX4_town 4 = .ok (.ifCond .ne 5, 3) := by decide +kernel
theorem dX4_town_7 : decode cX4_town 7 = .ok (.iconst (-1), 1) := by decide +kernel
theorem dX4_town_8 : decode cX4_town 8 = .ok (.ireturn, 1) := by decide +kernel
theorem dX4_town_9 : decode cX4_town 9 = .ok (.iload_n 2, 1) := by decide +kernel
theorem dX4_town_10 : decode cX4_town 10 = .ok (.tableswitch 140 0 8 #[50, 60, 70, 80, 90, 100, 110, 120, 130], 50) := by decide +kernel
theorem dX4_town_60 : decode cX4_town 60 = .ok (.aload_n 0, 1) := by decide +kernel
theorem dX4_town_61 : decode cX4_town 61 = .ok (.getfield 10, 3) := by decide +kernel
theorem dX4_town_64 : decode cX4_town 64 = .ok (.getfield 80, 3) := by decide +kernel
theorem dX4_town_67 : decode cX4_town 67 = .ok (.iload_n 1, 1) := by decide +kernel
theorem dX4_town_68 : decode cX4_town 68 = .ok (.iaload, 1) := by decide +kernel
theorem dX4_town_69 : decode cX4_town 69 = .ok (.ireturn, 1) := by decide +kernel
theorem dX4_town_70 : decode cX4_town 70 = .ok (.aload_n 0, 1) := by decide +kernel
theorem dX4_town_71 : decode cX4_town 71 = .ok (.getfield 10, 3) := by decide +kernel
theorem dX4_town_74 : decode cX4_town 74 = .ok (.getfield 83, 3) := by decide +kernel
theorem dX4_town_77 : decode cX4_town 77 = .ok (.iload_n 1, 1) := by decide +kernel
theorem dX4_town_78 : decode cX4_town 78 = .ok (.iaload, 1) := by decide +kernel
theorem dX4_town_79 : decode cX4_town 79 = .ok (.ireturn, 1) := by decide +kernel
theorem dX4_town_80 : decode cX4_town 80 = .ok (.aload_n 0, 1) := by decide +kernel
theorem dX4_town_81 : decode cX4_town 81 = .ok (.getfield 10, 3) := by decide +kernel
theorem dX4_town_84 : decode cX4_town 84 = .ok (.getfield 86, 3) := by decide +kernel
theorem dX4_town_87 : decode cX4_town 87 = .ok (.iload_n 1, 1) := by decide +kernel
theorem dX4_town_88 : decode cX4_town 88 = .ok (.iaload, 1) := by decide +kernel
theorem dX4_town_89 : decode cX4_town 89 = .ok (.ireturn, 1) := by decide +kernel
theorem dX4_town_90 : decode cX4_town 90 = .ok (.aload_n 0, 1) := by decide +kernel
theorem dX4_town_91 : decode cX4_town 91 = .ok (.getfield 10, 3) := by decide +kernel
theorem dX4_town_94 : decode cX4_town 94 = .ok (.getfield 51, 3) := by decide +kernel
theorem dX4_town_97 : decode cX4_town 97 = .ok (.iload_n 1, 1) := by decide +kernel
theorem dX4_town_98 : decode cX4_town 98 = .ok (.iaload, 1) := by decide +kernel
theorem dX4_town_99 : decode cX4_town 99 = .ok (.ireturn, 1) := by decide +kernel
theorem dX4_town_100 : decode cX4_town 100 = .ok (.aload_n 0, 1) := by decide +kernel
theorem dX4_town_101 : decode cX4_town 101 = .ok (.getfield 10, 3) := by decide +kernel
theorem dX4_town_104 : decode cX4_town 104 = .ok (.getfield 159, 3) := by decide +kernel
theorem dX4_town_107 : decode cX4_town 107 = .ok (.iload_n 1, 1) := by decide +kernel
theorem dX4_town_108 : decode cX4_town 108 = .ok (.iaload, 1) := by decide +kernel
theorem dX4_town_109 : decode cX4_town 109 = .ok (.ireturn, 1) := by decide +kernel
theorem dX4_town_110 : decode cX4_town 110 = .ok (.aload_n 0, 1) := by decide +kernel
theorem dX4_town_111 : decode cX4_town 111 = .ok (.getfield 10, 3) := by decide +kernel
theorem dX4_town_114 : decode cX4_town 114 = .ok (.getfield 106, 3) := by decide +kernel
theorem dX4_town_117 : decode cX4_town 117 = .ok (.iload_n 1, 1) := by decide +kernel
theorem dX4_town_118 : decode cX4_town 118 = .ok (.iaload, 1) := by decide +kernel
theorem dX4_town_119 : decode cX4_town 119 = .ok (.ireturn, 1) := by decide +kernel
theorem dX4_town_120 : decode cX4_town 120 = .ok (.aload_n 0, 1) := by decide +kernel
theorem dX4_town_121 : decode cX4_town 121 = .ok (.getfield 10, 3) := by decide +kernel
theorem dX4_town_124 : decode cX4_town 124 = .ok (.getfield 162, 3) := by decide +kernel
theorem dX4_town_127 : decode cX4_town 127 = .ok (.iload_n 1, 1) := by decide +kernel
theorem dX4_town_128 : decode cX4_town 128 = .ok (.iaload, 1) := by decide +kernel
theorem dX4_town_129 : decode cX4_town 129 = .ok (.ireturn, 1) := by decide +kernel
theorem dX4_town_130 : decode cX4_town 130 = .ok (.aload_n 0, 1) := by decide +kernel
theorem dX4_town_131 : decode cX4_town 131 = .ok (.getfield 10, 3) := by decide +kernel
theorem dX4_town_134 : decode cX4_town 134 = .ok (.getfield 165, 3) := by decide +kernel
theorem dX4_town_137 : decode cX4_town 137 = .ok (.iload_n 1, 1) := by decide +kernel
theorem dX4_town_138 : decode cX4_town 138 = .ok (.iaload, 1) := by decide +kernel
theorem dX4_town_139 : decode cX4_town 139 = .ok (.ireturn, 1) := by decide +kernel
theorem dX4_town_140 : decode cX4_town 140 = .ok (.aload_n 0, 1) := by decide +kernel
theorem dX4_town_141 : decode cX4_town 141 = .ok (.getfield 10, 3) := by decide +kernel
theorem dX4_town_144 : decode cX4_town 144 = .ok (.getfield 168, 3) := by decide +kernel
theorem dX4_town_147 : decode cX4_town 147 = .ok (.iload_n 1, 1) := by decide +kernel
theorem dX4_town_148 : decode cX4_town 148 = .ok (.iaload, 1) := by decide +kernel
theorem dX4_town_149 : decode cX4_town 149 = .ok (.ireturn, 1) := by decide +kernel
theorem dX4_town_150 : decode cX4_town 150 = .ok (.bipush (-2), 2) := by decide +kernel
theorem dX4_town_152 : decode cX4_town 152 = .ok (.ireturn, 1) := by decide +kernel
theorem dX4_bell_0 : decode cX4_bell 0 = .ok (.aload_n 0, 1) := by decide +kernel
theorem dX4_bell_1 : decode cX4_bell 1 = .ok (.getfield 10, 3) := by decide +kernel
theorem dX4_bell_4 : decode cX4_bell 4 = .ok (.iload_n 1, 1) := by decide +kernel
theorem dX4_bell_5 : decode cX4_bell 5 = .ok (.iload_n 2, 1) := by decide +kernel
theorem dX4_bell_6 : decode cX4_bell 6 = .ok (.invokevirtual 63, 3) := by decide +kernel
theorem dX4_bell_9 : decode cX4_bell 9 = .ok (.ifCond .ne 5, 3) := by decide +kernel
theorem dX4_bell_12 : decode cX4_bell 12 = .ok (.iconst (-1), 1) := by decide +kernel
theorem dX4_bell_13 : decode cX4_bell 13 = .ok (.ireturn, 1) := by decide +kernel
theorem dX4_bell_14 : decode cX4_bell 14 = .ok (.iload_n 1, 1) := by decide +kernel
theorem dX4_bell_15 : decode cX4_bell 15 = .ok (.iload_n 2, 1) := by decide +kernel
theorem dX4_bell_16 : decode cX4_bell 16 = .ok (.invokestatic 70, 3) := by decide +kernel
theorem dX4_bell_19 : decode cX4_bell 19 = .ok (.istore 4, 2) := by decide +kernel
theorem dX4_bell_21 : decode cX4_bell 21 = .ok (.iload_n 3, 1) := by decide +kernel
theorem dX4_bell_22 : decode cX4_bell 22 = .ok (.tableswitch 103 0 4 #[34, 45, 56, 70, 81], 34) := by decide +kernel
theorem dX4_bell_56 : decode cX4_bell 56 = .ok (.aload_n 0, 1) := by decide +kernel
theorem dX4_bell_57 : decode cX4_bell 57 = .ok (.getfield 10, 3) := by decide +kernel
theorem dX4_bell_60 : decode cX4_bell 60 = .ok (.getfield 67, 3) := by decide +kernel
theorem dX4_bell_63 : decode cX4_bell 63 = .ok (.iload 4, 2) := by decide +kernel
theorem dX4_bell_65 : decode cX4_bell 65 = .ok (.iaload, 1) := by decide +kernel
theorem dX4_bell_66 : decode cX4_bell 66 = .ok (.ireturn, 1) := by decide +kernel
theorem dX4_bell_67 : decode cX4_bell 67 = .ok (.aload_n 0, 1) := by decide +kernel
theorem dX4_bell_68 : decode cX4_bell 68 = .ok (.getfield 10, 3) := by decide +kernel
theorem dX4_bell_71 : decode cX4_bell 71 = .ok (.getfield 171, 3) := by decide +kernel
theorem dX4_bell_74 : decode cX4_bell 74 = .ok (.iload 4, 2) := by decide +kernel
theorem dX4_bell_76 : decode cX4_bell 76 = .ok (.iaload, 1) := by decide +kernel
theorem dX4_bell_77 : decode cX4_bell 77 = .ok (.ireturn, 1) := by decide +kernel
theorem dX4_bell_78 : decode cX4_bell 78 = .ok (.aload_n 0, 1) := by decide +kernel
theorem dX4_bell_79 : decode cX4_bell 79 = .ok (.getfield 10, 3) := by decide +kernel
theorem dX4_bell_82 : decode cX4_bell 82 = .ok (.getfield 67, 3) := by decide +kernel
theorem dX4_bell_85 : decode cX4_bell 85 = .ok (.iload 4, 2) := by decide +kernel
theorem dX4_bell_87 : decode cX4_bell 87 = .ok (.iaload, 1) := by decide +kernel
theorem dX4_bell_88 : decode cX4_bell 88 = .ok (.invokestatic 174, 3) := by decide +kernel
theorem dX4_bell_91 : decode cX4_bell 91 = .ok (.ireturn, 1) := by decide +kernel
theorem dX4_bell_92 : decode cX4_bell 92 = .ok (.aload_n 0, 1) := by decide +kernel
theorem dX4_bell_93 : decode cX4_bell 93 = .ok (.getfield 10, 3) := by decide +kernel
theorem dX4_bell_96 : decode cX4_bell 96 = .ok (.getfield 177, 3) := by decide +kernel
theorem dX4_bell_99 : decode cX4_bell 99 = .ok (.iload 4, 2) := by decide +kernel
theorem dX4_bell_101 : decode cX4_bell 101 = .ok (.iaload, 1) := by decide +kernel
theorem dX4_bell_102 : decode cX4_bell 102 = .ok (.ireturn, 1) := by decide +kernel
theorem dX4_bell_103 : decode cX4_bell 103 = .ok (.aload_n 0, 1) := by decide +kernel
theorem dX4_bell_104 : decode cX4_bell 104 = .ok (.getfield 36, 3) := by decide +kernel
theorem dX4_bell_107 : decode cX4_bell 107 = .ok (.aload_n 0, 1) := by decide +kernel
theorem dX4_bell_108 : decode cX4_bell 108 = .ok (.getfield 10, 3) := by decide +kernel
theorem dX4_bell_111 : decode cX4_bell 111 = .ok (.invokevirtual 180, 3) := by decide +kernel
theorem dX4_bell_114 : decode cX4_bell 114 = .ok (.aload_n 0, 1) := by decide +kernel
theorem dX4_bell_115 : decode cX4_bell 115 = .ok (.getfield 36, 3) := by decide +kernel
theorem dX4_bell_118 : decode cX4_bell 118 = .ok (.getfield 183, 3) := by decide +kernel
theorem dX4_bell_121 : decode cX4_bell 121 = .ok (.iload 4, 2) := by decide +kernel
theorem dX4_bell_123 : decode cX4_bell 123 = .ok (.iaload, 1) := by decide +kernel
theorem dX4_bell_124 : decode cX4_bell 124 = .ok (.ireturn, 1) := by decide +kernel
theorem dX4_bell_125 : decode cX4_bell 125 = .ok (.bipush (-2), 2) := by decide +kernel
theorem dX4_bell_127 : decode cX4_bell 127 = .ok (.ireturn, 1) := by decide +kernel
theorem dX4_count_0 : decode cX4_count 0 = .ok (.iload_n 1, 1) := by decide +kernel
theorem dX4_count_1 : decode cX4_count 1 = .ok (.tableswitch 147 0 10 #[59, 67, 75, 83, 91, 99, 107, 115, 123, 131, 139], 59) := by decide +kernel
theorem dX4_count_60 : decode cX4_count 60 = .ok (.aload_n 0, 1) := by decide +kernel
theorem dX4_count_61 : decode cX4_count 61 = .ok (.getfield 10, 3) := by decide +kernel
theorem dX4_count_64 : decode cX4_count 64 = .ok (.getfield 156, 3) := by decide +kernel
theorem dX4_count_67 : decode cX4_count 67 = .ok (.ireturn, 1) := by decide +kernel
theorem dX4_count_68 : decode cX4_count 68 = .ok (.aload_n 0, 1) := by decide +kernel
theorem dX4_count_69 : decode cX4_count 69 = .ok (.getfield 10, 3) := by decide +kernel
theorem dX4_count_72 : decode cX4_count 72 = .ok (.invokevirtual 186, 3) := by decide +kernel
theorem dX4_count_75 : decode cX4_count 75 = .ok (.ireturn, 1) := by decide +kernel
theorem dX4_count_76 : decode cX4_count 76 = .ok (.aload_n 0, 1) := by decide +kernel
theorem dX4_count_77 : decode cX4_count 77 = .ok (.getfield 10, 3) := by decide +kernel
theorem dX4_count_80 : decode cX4_count 80 = .ok (.invokevirtual 189, 3) := by decide +kernel
theorem dX4_count_83 : decode cX4_count 83 = .ok (.ireturn, 1) := by decide +kernel
theorem dX4_count_84 : decode cX4_count 84 = .ok (.aload_n 0, 1) := by decide +kernel
theorem dX4_count_85 : decode cX4_count 85 = .ok (.getfield 10, 3) := by decide +kernel
theorem dX4_count_88 : decode cX4_count 88 = .ok (.invokevirtual 192, 3) := by decide +kernel
theorem dX4_count_91 : decode cX4_count 91 = .ok (.ireturn, 1) := by decide +kernel
theorem dX4_count_92 : decode cX4_count 92 = .ok (.aload_n 0, 1) := by decide +kernel
theorem dX4_count_93 : decode cX4_count 93 = .ok (.getfield 10, 3) := by decide +kernel
theorem dX4_count_96 : decode cX4_count 96 = .ok (.invokevirtual 195, 3) := by decide +kernel
theorem dX4_count_99 : decode cX4_count 99 = .ok (.ireturn, 1) := by decide +kernel
theorem dX4_count_100 : decode cX4_count 100 = .ok (.aload_n 0, 1) := by decide +kernel
theorem dX4_count_101 : decode cX4_count 101 = .ok (.getfield 10, 3) := by decide +kernel
theorem dX4_count_104 : decode cX4_count 104 = .ok (.getfield 198, 3) := by decide +kernel
theorem dX4_count_107 : decode cX4_count 107 = .ok (.ireturn, 1) := by decide +kernel
theorem dX4_count_108 : decode cX4_count 108 = .ok (.aload_n 0, 1) := by decide +kernel
theorem dX4_count_109 : decode cX4_count 109 = .ok (.getfield 10, 3) := by decide +kernel
theorem dX4_count_112 : decode cX4_count 112 = .ok (.getfield 127, 3) := by decide +kernel
theorem dX4_count_115 : decode cX4_count 115 = .ok (.ireturn, 1) := by decide +kernel
theorem dX4_count_116 : decode cX4_count 116 = .ok (.aload_n 0, 1) := by decide +kernel
theorem dX4_count_117 : decode cX4_count 117 = .ok (.getfield 10, 3) := by decide +kernel
theorem dX4_count_120 : decode cX4_count 120 = .ok (.getfield 112, 3) := by decide +kernel
theorem dX4_count_123 : decode cX4_count 123 = .ok (.ireturn, 1) := by decide +kernel
theorem dX4_count_124 : decode cX4_count 124 = .ok (.aload_n 0, 1) := by decide +kernel
theorem dX4_count_125 : decode cX4_count 125 = .ok (.getfield 10, 3) := by decide +kernel
theorem dX4_count_128 : decode cX4_count 128 = .ok (.getfield 116, 3) := by decide +kernel
theorem dX4_count_131 : decode cX4_count 131 = .ok (.ireturn, 1) := by decide +kernel
theorem dX4_count_132 : decode cX4_count 132 = .ok (.aload_n 0, 1) := by decide +kernel
theorem dX4_count_133 : decode cX4_count 133 = .ok (.getfield 29, 3) := by decide +kernel
theorem dX4_count_136 : decode cX4_count 136 = .ok (.getfield 147, 3) := by decide +kernel
theorem dX4_count_139 : decode cX4_count 139 = .ok (.ireturn, 1) := by decide +kernel
theorem dX4_count_140 : decode cX4_count 140 = .ok (.aload_n 0, 1) := by decide +kernel
theorem dX4_count_141 : decode cX4_count 141 = .ok (.getfield 43, 3) := by decide +kernel
theorem dX4_count_144 : decode cX4_count 144 = .ok (.getfield 130, 3) := by decide +kernel
theorem dX4_count_147 : decode cX4_count 147 = .ok (.ireturn, 1) := by decide +kernel
theorem dX4_count_148 : decode cX4_count 148 = .ok (.bipush (-2), 2) := by decide +kernel
theorem dX4_count_150 : decode cX4_count 150 = .ok (.ireturn, 1) := by decide +kernel
theorem dX4_loudness_0 : decode cX4_loudness 0 = .ok (.iload_n 1, 1) := by decide +kernel
theorem dX4_loudness_1 : decode cX4_loudness 1 = .ok (.invokestatic 47, 3) := by decide +kernel
theorem dX4_loudness_4 : decode cX4_loudness 4 = .ok (.ifCond .ne 5, 3) := by decide +kernel
theorem dX4_loudness_7 : decode cX4_loudness 7 = .ok (.iconst (-1), 1) := by decide +kernel
theorem dX4_loudness_8 : decode cX4_loudness 8 = .ok (.ireturn, 1) := by decide +kernel
theorem dX4_loudness_9 : decode cX4_loudness 9 = .ok (.aload_n 0, 1) := by decide +kernel
theorem dX4_loudness_10 : decode cX4_loudness 10 = .ok (.getfield 36, 3) := by decide +kernel
theorem dX4_loudness_13 : decode cX4_loudness 13 = .ok (.aload_n 0, 1) := by decide +kernel
theorem dX4_loudness_14 : decode cX4_loudness 14 = .ok (.getfield 10, 3) := by decide +kernel
theorem dX4_loudness_17 : decode cX4_loudness 17 = .ok (.invokevirtual 180, 3) := by decide +kernel
theorem dX4_loudness_20 : decode cX4_loudness 20 = .ok (.aload_n 0, 1) := by decide +kernel
theorem dX4_loudness_21 : decode cX4_loudness 21 = .ok (.getfield 36, 3) := by decide +kernel
theorem dX4_loudness_24 : decode cX4_loudness 24 = .ok (.getfield 201, 3) := by decide +kernel
theorem dX4_loudness_27 : decode cX4_loudness 27 = .ok (.iload_n 1, 1) := by decide +kernel
theorem dX4_loudness_28 : decode cX4_loudness 28 = .ok (.iaload, 1) := by decide +kernel
theorem dX4_loudness_29 : decode cX4_loudness 29 = .ok (.ireturn, 1) := by decide +kernel
theorem dX4_heard_0 : decode cX4_heard 0 = .ok (.iload_n 1, 1) := by decide +kernel
theorem dX4_heard_1 : decode cX4_heard 1 = .ok (.invokestatic 47, 3) := by decide +kernel
theorem dX4_heard_4 : decode cX4_heard 4 = .ok (.ifCond .eq 10, 3) := by decide +kernel
theorem dX4_heard_7 : decode cX4_heard 7 = .ok (.iload_n 2, 1) := by decide +kernel
theorem dX4_heard_8 : decode cX4_heard 8 = .ok (.invokestatic 47, 3) := by decide +kernel
theorem dX4_heard_11 : decode cX4_heard 11 = .ok (.ifCond .ne 5, 3) := by decide +kernel
theorem dX4_heard_14 : decode cX4_heard 14 = .ok (.iconst (-1), 1) := by decide +kernel
theorem dX4_heard_15 : decode cX4_heard 15 = .ok (.ireturn, 1) := by decide +kernel
theorem dX4_heard_16 : decode cX4_heard 16 = .ok (.aload_n 0, 1) := by decide +kernel
theorem dX4_heard_17 : decode cX4_heard 17 = .ok (.getfield 36, 3) := by decide +kernel
theorem dX4_heard_20 : decode cX4_heard 20 = .ok (.aload_n 0, 1) := by decide +kernel
theorem dX4_heard_21 : decode cX4_heard 21 = .ok (.getfield 10, 3) := by decide +kernel
theorem dX4_heard_24 : decode cX4_heard 24 = .ok (.invokevirtual 180, 3) := by decide +kernel
theorem dX4_heard_27 : decode cX4_heard 27 = .ok (.aload_n 0, 1) := by decide +kernel
theorem dX4_heard_28 : decode cX4_heard 28 = .ok (.getfield 36, 3) := by decide +kernel
theorem dX4_heard_31 : decode cX4_heard 31 = .ok (.aload_n 0, 1) := by decide +kernel
theorem dX4_heard_32 : decode cX4_heard 32 = .ok (.getfield 10, 3) := by decide +kernel
theorem dX4_heard_35 : decode cX4_heard 35 = .ok (.iload_n 1, 1) := by decide +kernel
theorem dX4_heard_36 : decode cX4_heard 36 = .ok (.iload_n 2, 1) := by decide +kernel
theorem dX4_heard_37 : decode cX4_heard 37 = .ok (.invokevirtual 204, 3) := by decide +kernel
theorem dX4_heard_40 : decode cX4_heard 40 = .ok (.ireturn, 1) := by decide +kernel
theorem dX4_winner_0 : decode cX4_winner 0 = .ok (.iload_n 1, 1) := by decide +kernel
theorem dX4_winner_1 : decode cX4_winner 1 = .ok (.invokestatic 47, 3) := by decide +kernel
theorem dX4_winner_4 : decode cX4_winner 4 = .ok (.ifCond .ne 5, 3) := by decide +kernel
theorem dX4_winner_7 : decode cX4_winner 7 = .ok (.iconst (-1), 1) := by decide +kernel
theorem dX4_winner_8 : decode cX4_winner 8 = .ok (.ireturn, 1) := by decide +kernel
theorem dX4_winner_9 : decode cX4_winner 9 = .ok (.aload_n 0, 1) := by decide +kernel
theorem dX4_winner_10 : decode cX4_winner 10 = .ok (.getfield 36, 3) := by decide +kernel
theorem dX4_winner_13 : decode cX4_winner 13 = .ok (.aload_n 0, 1) := by decide +kernel
theorem dX4_winner_14 : decode cX4_winner 14 = .ok (.getfield 10, 3) := by decide +kernel
theorem dX4_winner_17 : decode cX4_winner 17 = .ok (.invokevirtual 180, 3) := by decide +kernel
theorem dX4_winner_20 : decode cX4_winner 20 = .ok (.aload_n 0, 1) := by decide +kernel
theorem dX4_winner_21 : decode cX4_winner 21 = .ok (.getfield 36, 3) := by decide +kernel
theorem dX4_winner_24 : decode cX4_winner 24 = .ok (.getfield 208, 3) := by decide +kernel
theorem dX4_winner_27 : decode cX4_winner 27 = .ok (.iload_n 1, 1) := by decide +kernel
theorem dX4_winner_28 : decode cX4_winner 28 = .ok (.iaload, 1) := by decide +kernel
theorem dX4_winner_29 : decode cX4_winner 29 = .ok (.ireturn, 1) := by decide +kernel
theorem dX4_ifPlanned_0 : decode cX4_ifPlanned 0 = .ok (.aload_n 0, 1) := by decide +kernel
theorem dX4_ifPlanned_1 : decode cX4_ifPlanned 1 = .ok (.iload_n 1, 1) := by decide +kernel
theorem dX4_ifPlanned_2 : decode cX4_ifPlanned 2 = .ok (.iload_n 2, 1) := by decide +kernel
theorem dX4_ifPlanned_3 : decode cX4_ifPlanned 3 = .ok (.invokevirtual 94, 3) := by decide +kernel
theorem dX4_ifPlanned_6 : decode cX4_ifPlanned 6 = .ok (.istore_n 3, 1) := by decide +kernel
theorem dX4_ifPlanned_7 : decode cX4_ifPlanned 7 = .ok (.iload_n 3, 1) := by decide +kernel
theorem dX4_ifPlanned_8 : decode cX4_ifPlanned 8 = .ok (.ifCond .eq 5, 3) := by decide +kernel
theorem dX4_ifPlanned_11 : decode cX4_ifPlanned 11 = .ok (.iload_n 3, 1) := by decide +kernel
theorem dX4_ifPlanned_12 : decode cX4_ifPlanned 12 = .ok (.ireturn, 1) := by decide +kernel
theorem dX4_ifPlanned_13 : decode cX4_ifPlanned 13 = .ok (.aload_n 0, 1) := by decide +kernel
theorem dX4_ifPlanned_14 : decode cX4_ifPlanned 14 = .ok (.getfield 16, 3) := by decide +kernel
theorem dX4_ifPlanned_17 : decode cX4_ifPlanned 17 = .ok (.aload_n 0, 1) := by decide +kernel
theorem dX4_ifPlanned_18 : decode cX4_ifPlanned 18 = .ok (.getfield 10, 3) := by decide +kernel
theorem dX4_ifPlanned_21 : decode cX4_ifPlanned 21 = .ok (.invokevirtual 153, 3) := by decide +kernel
theorem dX4_ifPlanned_24 : decode cX4_ifPlanned 24 = .ok (.aload_n 0, 1) := by decide +kernel
theorem dX4_ifPlanned_25 : decode cX4_ifPlanned 25 = .ok (.iload_n 1, 1) := by decide +kernel
theorem dX4_ifPlanned_26 : decode cX4_ifPlanned 26 = .ok (.iload_n 2, 1) := by decide +kernel
theorem dX4_ifPlanned_27 : decode cX4_ifPlanned 27 = .ok (.invokevirtual 211, 3) := by decide +kernel
theorem dX4_ifPlanned_30 : decode cX4_ifPlanned 30 = .ok (.ireturn, 1) := by decide +kernel
theorem dX4_bestPlan_0 : decode cX4_bestPlan 0 = .ok (.iload_n 1, 1) := by decide +kernel
theorem dX4_bestPlan_1 : decode cX4_bestPlan 1 = .ok (.invokestatic 47, 3) := by decide +kernel
theorem dX4_bestPlan_4 : decode cX4_bestPlan 4 = .ok (.ifCond .ne 5, 3) := by decide +kernel
theorem dX4_bestPlan_7 : decode cX4_bestPlan 7 = .ok (.iconst (-1), 1) := by decide +kernel
theorem dX4_bestPlan_8 : decode cX4_bestPlan 8 = .ok (.ireturn, 1) := by decide +kernel
theorem dX4_bestPlan_9 : decode cX4_bestPlan 9 = .ok (.aload_n 0, 1) := by decide +kernel
theorem dX4_bestPlan_10 : decode cX4_bestPlan 10 = .ok (.getfield 16, 3) := by decide +kernel
theorem dX4_bestPlan_13 : decode cX4_bestPlan 13 = .ok (.aload_n 0, 1) := by decide +kernel
theorem dX4_bestPlan_14 : decode cX4_bestPlan 14 = .ok (.getfield 10, 3) := by decide +kernel
theorem dX4_bestPlan_17 : decode cX4_bestPlan 17 = .ok (.invokevirtual 153, 3) := by decide +kernel
theorem dX4_bestPlan_20 : decode cX4_bestPlan 20 = .ok (.iconst 0, 1) := by decide +kernel
theorem dX4_bestPlan_21 : decode cX4_bestPlan 21 = .ok (.istore_n 2, 1) := by decide +kernel
theorem dX4_bestPlan_22 : decode cX4_bestPlan 22 = .ok (.aload_n 0, 1) := by decide +kernel
theorem dX4_bestPlan_23 : decode cX4_bestPlan 23 = .ok (.iload_n 1, 1) := by decide +kernel
theorem dX4_bestPlan_24 : decode cX4_bestPlan 24 = .ok (.iload_n 2, 1) := by decide +kernel
theorem dX4_bestPlan_25 : decode cX4_bestPlan 25 = .ok (.invokevirtual 211, 3) := by decide +kernel
theorem dX4_bestPlan_28 : decode cX4_bestPlan 28 = .ok (.istore_n 3, 1) := by decide +kernel
theorem dX4_bestPlan_29 : decode cX4_bestPlan 29 = .ok (.aload_n 0, 1) := by decide +kernel
theorem dX4_bestPlan_30 : decode cX4_bestPlan 30 = .ok (.getfield 36, 3) := by decide +kernel
theorem dX4_bestPlan_33 : decode cX4_bestPlan 33 = .ok (.getfield 201, 3) := by decide +kernel
theorem dX4_bestPlan_36 : decode cX4_bestPlan 36 = .ok (.iload_n 1, 1) := by decide +kernel
theorem dX4_bestPlan_37 : decode cX4_bestPlan 37 = .ok (.iaload, 1) := by decide +kernel
theorem dX4_bestPlan_38 : decode cX4_bestPlan 38 = .ok (.istore 4, 2) := by decide +kernel
theorem dX4_bestPlan_40 : decode cX4_bestPlan 40 = .ok (.iconst 1, 1) := by decide +kernel
theorem dX4_bestPlan_41 : decode cX4_bestPlan 41 = .ok (.istore 5, 2) := by decide +kernel
theorem dX4_bestPlan_43 : decode cX4_bestPlan 43 = .ok (.iload 5, 2) := by decide +kernel
theorem dX4_bestPlan_45 : decode cX4_bestPlan 45 = .ok (.aload_n 0, 1) := by decide +kernel
theorem dX4_bestPlan_46 : decode cX4_bestPlan 46 = .ok (.getfield 10, 3) := by decide +kernel
theorem dX4_bestPlan_49 : decode cX4_bestPlan 49 = .ok (.iload_n 1, 1) := by decide +kernel
theorem dX4_bestPlan_50 : decode cX4_bestPlan 50 = .ok (.invokevirtual 214, 3) := by decide +kernel
theorem dX4_bestPlan_53 : decode cX4_bestPlan 53 = .ok (.if_icmp .gt 58, 3) := by decide +kernel
theorem dX4_bestPlan_56 : decode cX4_bestPlan 56 = .ok (.aload_n 0, 1) := by decide +kernel
theorem dX4_bestPlan_57 : decode cX4_bestPlan 57 = .ok (.iload_n 1, 1) := by decide +kernel
theorem dX4_bestPlan_58 : decode cX4_bestPlan 58 = .ok (.iload 5, 2) := by decide +kernel
theorem dX4_bestPlan_60 : decode cX4_bestPlan 60 = .ok (.invokevirtual 211, 3) := by decide +kernel
theorem dX4_bestPlan_63 : decode cX4_bestPlan 63 = .ok (.istore 6, 2) := by decide +kernel
theorem dX4_bestPlan_65 : decode cX4_bestPlan 65 = .ok (.aload_n 0, 1) := by decide +kernel
theorem dX4_bestPlan_66 : decode cX4_bestPlan 66 = .ok (.getfield 36, 3) := by decide +kernel
theorem dX4_bestPlan_69 : decode cX4_bestPlan 69 = .ok (.getfield 201, 3) := by decide +kernel
theorem dX4_bestPlan_72 : decode cX4_bestPlan 72 = .ok (.iload_n 1, 1) := by decide +kernel
theorem dX4_bestPlan_73 : decode cX4_bestPlan 73 = .ok (.iaload, 1) := by decide +kernel
theorem dX4_bestPlan_74 : decode cX4_bestPlan 74 = .ok (.istore 7, 2) := by decide +kernel
theorem dX4_bestPlan_76 : decode cX4_bestPlan 76 = .ok (.iload 6, 2) := by decide +kernel
theorem dX4_bestPlan_78 : decode cX4_bestPlan 78 = .ok (.iload_n 3, 1) := by decide +kernel
theorem dX4_bestPlan_79 : decode cX4_bestPlan 79 = .ok (.if_icmp .gt 16, 3) := by decide +kernel
theorem dX4_bestPlan_82 : decode cX4_bestPlan 82 = .ok (.iload 6, 2) := by decide +kernel
theorem dX4_bestPlan_84 : decode cX4_bestPlan 84 = .ok (.iload_n 3, 1) := by decide +kernel
theorem dX4_bestPlan_85 : decode cX4_bestPlan 85 = .ok (.if_icmp .ne 20, 3) := by decide +kernel
theorem dX4_bestPlan_88 : decode cX4_bestPlan 88 = .ok (.iload 7, 2) := by decide +kernel
theorem dX4_bestPlan_90 : decode cX4_bestPlan 90 = .ok (.iload 4, 2) := by decide +kernel
theorem dX4_bestPlan_92 : decode cX4_bestPlan 92 = .ok (.if_icmp .ge 13, 3) := by decide +kernel
theorem dX4_bestPlan_95 : decode cX4_bestPlan 95 = .ok (.iload 5, 2) := by decide +kernel
theorem dX4_bestPlan_97 : decode cX4_bestPlan 97 = .ok (.istore_n 2, 1) := by decide +kernel
theorem dX4_bestPlan_98 : decode cX4_bestPlan 98 = .ok (.iload 6, 2) := by decide +kernel
theorem dX4_bestPlan_100 : decode cX4_bestPlan 100 = .ok (.istore_n 3, 1) := by decide +kernel
theorem dX4_bestPlan_101 : decode cX4_bestPlan 101 = .ok (.iload 7, 2) := by decide +kernel
theorem dX4_bestPlan_103 : decode cX4_bestPlan 103 = .ok (.istore 4, 2) := by decide +kernel
theorem dX4_bestPlan_105 : decode cX4_bestPlan 105 = .ok (.iinc 5 1, 3) := by decide +kernel
theorem dX4_bestPlan_108 : decode cX4_bestPlan 108 = .ok (.goto (-65), 3) := by decide +kernel
theorem dX4_bestPlan_111 : decode cX4_bestPlan 111 = .ok (.iload_n 2, 1) := by decide +kernel
theorem dX4_bestPlan_112 : decode cX4_bestPlan 112 = .ok (.ireturn, 1) := by decide +kernel
theorem dX4_pointsIn_0 : decode cX4_pointsIn 0 = .ok (.iload_n 1, 1) := by decide +kernel
theorem dX4_pointsIn_1 : decode cX4_pointsIn 1 = .ok (.invokestatic 47, 3) := by decide +kernel
theorem dX4_pointsIn_4 : decode cX4_pointsIn 4 = .ok (.ifCond .ne 5, 3) := by decide +kernel
theorem dX4_pointsIn_7 : decode cX4_pointsIn 7 = .ok (.iconst (-1), 1) := by decide +kernel
theorem dX4_pointsIn_8 : decode cX4_pointsIn 8 = .ok (.ireturn, 1) := by decide +kernel
theorem dX4_pointsIn_9 : decode cX4_pointsIn 9 = .ok (.iload_n 2, 1) := by decide +kernel
theorem dX4_pointsIn_10 : decode cX4_pointsIn 10 = .ok (.invokestatic 119, 3) := by decide +kernel
theorem dX4_pointsIn_13 : decode cX4_pointsIn 13 = .ok (.istore_n 3, 1) := by decide +kernel
theorem dX4_pointsIn_14 : decode cX4_pointsIn 14 = .ok (.iload_n 3, 1) := by decide +kernel
theorem dX4_pointsIn_15 : decode cX4_pointsIn 15 = .ok (.ifCond .eq 5, 3) := by decide +kernel
theorem dX4_pointsIn_18 : decode cX4_pointsIn 18 = .ok (.iload_n 3, 1) := by decide +kernel
theorem dX4_pointsIn_19 : decode cX4_pointsIn 19 = .ok (.ireturn, 1) := by decide +kernel
theorem dX4_pointsIn_20 : decode cX4_pointsIn 20 = .ok (.aload_n 0, 1) := by decide +kernel
theorem dX4_pointsIn_21 : decode cX4_pointsIn 21 = .ok (.getfield 16, 3) := by decide +kernel
theorem dX4_pointsIn_24 : decode cX4_pointsIn 24 = .ok (.aload_n 0, 1) := by decide +kernel
theorem dX4_pointsIn_25 : decode cX4_pointsIn 25 = .ok (.getfield 10, 3) := by decide +kernel
theorem dX4_pointsIn_28 : decode cX4_pointsIn 28 = .ok (.invokevirtual 153, 3) := by decide +kernel
theorem dX4_pointsIn_31 : decode cX4_pointsIn 31 = .ok (.aload_n 0, 1) := by decide +kernel
theorem dX4_pointsIn_32 : decode cX4_pointsIn 32 = .ok (.aload_n 0, 1) := by decide +kernel
theorem dX4_pointsIn_33 : decode cX4_pointsIn 33 = .ok (.getfield 16, 3) := by decide +kernel
theorem dX4_pointsIn_36 : decode cX4_pointsIn 36 = .ok (.iload_n 2, 1) := by decide +kernel
theorem dX4_pointsIn_37 : decode cX4_pointsIn 37 = .ok (.invokevirtual 123, 3) := by decide +kernel
theorem dX4_pointsIn_40 : decode cX4_pointsIn 40 = .ok (.aload_n 0, 1) := by decide +kernel
theorem dX4_pointsIn_41 : decode cX4_pointsIn 41 = .ok (.getfield 16, 3) := by decide +kernel
theorem dX4_pointsIn_44 : decode cX4_pointsIn 44 = .ok (.getfield 165, 3) := by decide +kernel
theorem dX4_pointsIn_47 : decode cX4_pointsIn 47 = .ok (.iload_n 1, 1) := by decide +kernel
theorem dX4_pointsIn_48 : decode cX4_pointsIn 48 = .ok (.iaload, 1) := by decide +kernel
theorem dX4_pointsIn_49 : decode cX4_pointsIn 49 = .ok (.ireturn, 1) := by decide +kernel
theorem dX4_share_0 : decode cX4_share 0 = .ok (.aload_n 0, 1) := by decide +kernel
theorem dX4_share_1 : decode cX4_share 1 = .ok (.getfield 10, 3) := by decide +kernel
theorem dX4_share_4 : decode cX4_share 4 = .ok (.invokevirtual 195, 3) := by decide +kernel
theorem dX4_share_7 : decode cX4_share 7 = .ok (.istore_n 2, 1) := by decide +kernel
theorem dX4_share_8 : decode cX4_share 8 = .ok (.iload_n 1, 1) := by decide +kernel
theorem dX4_share_9 : decode cX4_share 9 = .ok (.invokestatic 47, 3) := by decide +kernel
theorem dX4_share_12 : decode cX4_share 12 = .ok (.ifCond .eq 7, 3) := by decide +kernel
theorem dX4_share_15 : decode cX4_share 15 = .ok (.iload_n 2, 1) := by decide +kernel
theorem dX4_share_16 : decode cX4_share 16 = .ok (.ifCond .ne 5, 3) := by decide +kernel
theorem dX4_share_19 : decode cX4_share 19 = .ok (.dconst 0, 1) := by decide +kernel
theorem dX4_share_20 : decode cX4_share 20 = .ok (.dreturn, 1) := by decide +kernel
theorem dX4_share_21 : decode cX4_share 21 = .ok (.aload_n 0, 1) := by decide +kernel
theorem dX4_share_22 : decode cX4_share 22 = .ok (.getfield 10, 3) := by decide +kernel
theorem dX4_share_25 : decode cX4_share 25 = .ok (.getfield 165, 3) := by decide +kernel
theorem dX4_share_28 : decode cX4_share 28 = .ok (.iload_n 1, 1) := by decide +kernel
theorem dX4_share_29 : decode cX4_share 29 = .ok (.iaload, 1) := by decide +kernel
theorem dX4_share_30 : decode cX4_share 30 = .ok (.i2d, 1) := by decide +kernel
theorem dX4_share_31 : decode cX4_share 31 = .ok (.iload_n 2, 1) := by decide +kernel
theorem dX4_share_32 : decode cX4_share 32 = .ok (.i2d, 1) := by decide +kernel
theorem dX4_share_33 : decode cX4_share 33 = .ok (.ddiv, 1) := by decide +kernel
theorem dX4_share_34 : decode cX4_share 34 = .ok (.dreturn, 1) := by decide +kernel
theorem dX4_isTown_0 : decode cX4_isTown 0 = .ok (.iload_n 0, 1) := by decide +kernel
theorem dX4_isTown_1 : decode cX4_isTown 1 = .ok (.ifCond .lt 13, 3) := by decide +kernel
theorem dX4_isTown_4 : decode cX4_isTown 4 = .ok (.iload_n 0, 1) := by decide +kernel
theorem dX4_isTown_5 : decode cX4_isTown 5 = .ok (.bipush 6, 2) := by decide +kernel
theorem dX4_isTown_7 : decode cX4_isTown 7 = .ok (.if_icmp .ge 7, 3) := by decide +kernel
theorem dX4_isTown_10 : decode cX4_isTown 10 = .ok (.iconst 1, 1) := by decide +kernel
theorem dX4_isTown_11 : decode cX4_isTown 11 = .ok (.goto 4, 3) := by decide +kernel
theorem dX4_isTown_14 : decode cX4_isTown 14 = .ok (.iconst 0, 1) := by decide +kernel
theorem dX4_isTown_15 : decode cX4_isTown 15 = .ok (.ireturn, 1) := by decide +kernel
theorem dX4_slot_0 : decode cX4_slot 0 = .ok (.iload_n 0, 1) := by decide +kernel
theorem dX4_slot_1 : decode cX4_slot 1 = .ok (.iconst 5, 1) := by decide +kernel
theorem dX4_slot_2 : decode cX4_slot 2 = .ok (.imul, 1) := by decide +kernel
theorem dX4_slot_3 : decode cX4_slot 3 = .ok (.iload_n 1, 1) := by decide +kernel
theorem dX4_slot_4 : decode cX4_slot 4 = .ok (.iadd, 1) := by decide +kernel
theorem dX4_slot_5 : decode cX4_slot 5 = .ok (.ireturn, 1) := by decide +kernel
theorem dX4_ringersFor_0 : decode cX4_ringersFor 0 = .ok (.iload_n 0, 1) := by decide +kernel
theorem dX4_ringersFor_1 : decode cX4_ringersFor 1 = .ok (.iconst 1, 1) := by decide +kernel
theorem dX4_ringersFor_2 : decode cX4_ringersFor 2 = .ok (.iadd, 1) := by decide +kernel
theorem dX4_ringersFor_3 : decode cX4_ringersFor 3 = .ok (.iconst 2, 1) := by decide +kernel
theorem dX4_ringersFor_4 : decode cX4_ringersFor 4 = .ok (.idiv, 1) := by decide +kernel
theorem dX4_ringersFor_5 : decode cX4_ringersFor 5 = .ok (.ireturn, 1) := by decide +kernel
theorem dX4_isInRange_0 : decode cX4_isInRange 0 = .ok (.iload_n 0, 1) := by decide +kernel
theorem dX4_isInRange_1 : decode cX4_isInRange 1 = .ok (.ifCond .ne 19, 3) := by decide +kernel
theorem dX4_isInRange_4 : decode cX4_isInRange 4 = .ok (.iload_n 1, 1) := by decide +kernel
theorem dX4_isInRange_5 : decode cX4_isInRange 5 = .ok (.ifCond .lt 13, 3) := by decide +kernel
theorem dX4_isInRange_8 : decode cX4_isInRange 8 = .ok (.iload_n 1, 1) := by decide +kernel
theorem dX4_isInRange_9 : decode cX4_isInRange 9 = .ok (.bipush 9, 2) := by decide +kernel
theorem dX4_isInRange_11 : decode cX4_isInRange 11 = .ok (.if_icmp .gt 7, 3) := by decide +kernel
theorem dX4_isInRange_14 : decode cX4_isInRange 14 = .ok (.iconst 1, 1) := by decide +kernel
theorem dX4_isInRange_15 : decode cX4_isInRange 15 = .ok (.goto 4, 3) := by decide +kernel
theorem dX4_isInRange_18 : decode cX4_isInRange 18 = .ok (.iconst 0, 1) := by decide +kernel
theorem dX4_isInRange_19 : decode cX4_isInRange 19 = .ok (.ireturn, 1) := by decide +kernel
theorem dX4_isInRange_20 : decode cX4_isInRange 20 = .ok (.iload_n 1, 1) := by decide +kernel
theorem dX4_isInRange_21 : decode cX4_isInRange 21 = .ok (.iconst 1, 1) := by decide +kernel
theorem dX4_isInRange_22 : decode cX4_isInRange 22 = .ok (.if_icmp .lt 12, 3) := by decide +kernel
theorem dX4_isInRange_25 : decode cX4_isInRange 25 = .ok (.iload_n 1, 1) := by decide +kernel
theorem dX4_isInRange_26 : decode cX4_isInRange 26 = .ok (.iconst 3, 1) := by decide +kernel
theorem dX4_isInRange_27 : decode cX4_isInRange 27 = .ok (.if_icmp .gt 7, 3) := by decide +kernel
theorem dX4_isInRange_30 : decode cX4_isInRange 30 = .ok (.iconst 1, 1) := by decide +kernel
theorem dX4_isInRange_31 : decode cX4_isInRange 31 = .ok (.goto 4, 3) := by decide +kernel
theorem dX4_isInRange_34 : decode cX4_isInRange 34 = .ok (.iconst 0, 1) := by decide +kernel
theorem dX4_isInRange_35 : decode cX4_isInRange 35 = .ok (.ireturn, 1) := by decide +kernel
theorem dX4_planError_0 : decode cX4_planError 0 = .ok (.iload_n 1, 1) := by decide +kernel
theorem dX4_planError_1 : decode cX4_planError 1 = .ok (.invokestatic 47, 3) := by decide +kernel
theorem dX4_planError_4 : decode cX4_planError 4 = .ok (.ifCond .ne 5, 3) := by decide +kernel
theorem dX4_planError_7 : decode cX4_planError 7 = .ok (.iconst (-1), 1) := by decide +kernel
theorem dX4_planError_8 : decode cX4_planError 8 = .ok (.ireturn, 1) := by decide +kernel
theorem dX4_planError_9 : decode cX4_planError 9 = .ok (.iload_n 2, 1) := by decide +kernel
theorem dX4_planError_10 : decode cX4_planError 10 = .ok (.ifCond .lt 15, 3) := by decide +kernel
theorem dX4_planError_13 : decode cX4_planError 13 = .ok (.iload_n 2, 1) := by decide +kernel
theorem dX4_planError_14 : decode cX4_planError 14 = .ok (.aload_n 0, 1) := by decide +kernel
theorem dX4_planError_15 : decode cX4_planError 15 = .ok (.getfield 10, 3) := by decide +kernel
theorem dX4_planError_18 : decode cX4_planError 18 = .ok (.iload_n 1, 1) := by decide +kernel
theorem dX4_planError_19 : decode cX4_planError 19 = .ok (.invokevirtual 214, 3) := by decide +kernel
theorem dX4_planError_22 : decode cX4_planError 22 = .ok (.if_icmp .le 6, 3) := by decide +kernel
theorem dX4_planError_25 : decode cX4_planError 25 = .ok (.bipush (-2), 2) := by decide +kernel
theorem dX4_planError_27 : decode cX4_planError 27 = .ok (.ireturn, 1) := by decide +kernel
theorem dX4_planError_28 : decode cX4_planError 28 = .ok (.iconst 0, 1) := by decide +kernel
theorem dX4_planError_29 : decode cX4_planError 29 = .ok (.ireturn, 1) := by decide +kernel
theorem dX4_changePlan_0 : decode cX4_changePlan 0 = .ok (.aload_n 0, 1) := by decide +kernel
theorem dX4_changePlan_1 : decode cX4_changePlan 1 = .ok (.getfield 10, 3) := by decide +kernel
theorem dX4_changePlan_4 : decode cX4_changePlan 4 = .ok (.getfield 159, 3) := by decide +kernel
theorem dX4_changePlan_7 : decode cX4_changePlan 7 = .ok (.iload_n 1, 1) := by decide +kernel
theorem dX4_changePlan_8 : decode cX4_changePlan 8 = .ok (.iaload, 1) := by decide +kernel
theorem dX4_changePlan_9 : decode cX4_changePlan 9 = .ok (.istore_n 3, 1) := by decide +kernel
theorem dX4_changePlan_10 : decode cX4_changePlan 10 = .ok (.aload_n 0, 1) := by decide +kernel
theorem dX4_changePlan_11 : decode cX4_changePlan 11 = .ok (.getfield 10, 3) := by decide +kernel
theorem dX4_changePlan_14 : decode cX4_changePlan 14 = .ok (.getfield 159, 3) := by decide +kernel
theorem dX4_changePlan_17 : decode cX4_changePlan 17 = .ok (.iload_n 1, 1) := by decide +kernel
theorem dX4_changePlan_18 : decode cX4_changePlan 18 = .ok (.iload_n 2, 1) := by decide +kernel
theorem dX4_changePlan_19 : decode cX4_changePlan 19 = .ok (.iastore, 1) := by decide +kernel
theorem dX4_changePlan_20 : decode cX4_changePlan 20 = .ok (.iload_n 3, 1) := by decide +kernel
theorem dX4_changePlan_21 : decode cX4_changePlan 21 = .ok (.ireturn, 1) := by decide +kernel
theorem dX4_spliceError_0 : decode cX4_spliceError 0 = .ok (.aload_n 0, 1) := by decide +kernel
theorem dX4_spliceError_1 : decode cX4_spliceError 1 = .ok (.getfield 10, 3) := by decide +kernel
theorem dX4_spliceError_4 : decode cX4_spliceError 4 = .ok (.iload_n 1, 1) := by decide +kernel
theorem dX4_spliceError_5 : decode cX4_spliceError 5 = .ok (.iload_n 2, 1) := by decide +kernel
theorem dX4_spliceError_6 : decode cX4_spliceError 6 = .ok (.invokevirtual 63, 3) := by decide +kernel
theorem dX4_spliceError_9 : decode cX4_spliceError 9 = .ok (.ifCond .ne 5, 3) := by decide +kernel
theorem dX4_spliceError_12 : decode cX4_spliceError 12 = .ok (.iconst (-1), 1) := by decide +kernel
theorem dX4_spliceError_13 : decode cX4_spliceError 13 = .ok (.ireturn, 1) := by decide +kernel
theorem dX4_spliceError_14 : decode cX4_spliceError 14 = .ok (.aload_n 0, 1) := by decide +kernel
theorem dX4_spliceError_15 : decode cX4_spliceError 15 = .ok (.getfield 10, 3) := by decide +kernel
theorem dX4_spliceError_18 : decode cX4_spliceError 18 = .ok (.getfield 171, 3) := by decide +kernel
theorem dX4_spliceError_21 : decode cX4_spliceError 21 = .ok (.iload_n 1, 1) := by decide +kernel
theorem dX4_spliceError_22 : decode cX4_spliceError 22 = .ok (.iload_n 2, 1) := by decide +kernel
theorem dX4_spliceError_23 : decode cX4_spliceError 23 = .ok (.invokestatic 70, 3) := by decide +kernel
theorem dX4_spliceError_26 : decode cX4_spliceError 26 = .ok (.iaload, 1) := by decide +kernel
theorem dX4_spliceError_27 : decode cX4_spliceError 27 = .ok (.ifCond .eq 15, 3) := by decide +kernel
theorem dX4_spliceError_30 : decode cX4_spliceError 30 = .ok (.aload_n 0, 1) := by decide +kernel
theorem dX4_spliceError_31 : decode cX4_spliceError 31 = .ok (.getfield 10, 3) := by decide +kernel
theorem dX4_spliceError_34 : decode cX4_spliceError 34 = .ok (.iload_n 1, 1) := by decide +kernel
theorem dX4_spliceError_35 : decode cX4_spliceError 35 = .ok (.invokevirtual 217, 3) := by decide +kernel
theorem dX4_spliceError_38 : decode cX4_spliceError 38 = .ok (.iconst 2, 1) := by decide +kernel
theorem dX4_spliceError_39 : decode cX4_spliceError 39 = .ok (.if_icmp .ge 6, 3) := by decide +kernel
theorem dX4_spliceError_42 : decode cX4_spliceError 42 = .ok (.bipush (-4), 2) := by decide +kernel
theorem dX4_spliceError_44 : decode cX4_spliceError 44 = .ok (.ireturn, 1) := by decide +kernel
theorem dX4_spliceError_45 : decode cX4_spliceError 45 = .ok (.iconst 0, 1) := by decide +kernel
theorem dX4_spliceError_46 : decode cX4_spliceError 46 = .ok (.ireturn, 1) := by decide +kernel
theorem dX4_mendRope_0 : decode cX4_mendRope 0 = .ok (.iload_n 1, 1) := by decide +kernel
theorem dX4_mendRope_1 : decode cX4_mendRope 1 = .ok (.iload_n 2, 1) := by decide +kernel
theorem dX4_mendRope_2 : decode cX4_mendRope 2 = .ok (.invokestatic 70, 3) := by decide +kernel
theorem dX4_mendRope_5 : decode cX4_mendRope 5 = .ok (.istore_n 3, 1) := by decide +kernel
theorem dX4_mendRope_6 : decode cX4_mendRope 6 = .ok (.aload_n 0, 1) := by decide +kernel
theorem dX4_mendRope_7 : decode cX4_mendRope 7 = .ok (.getfield 10, 3) := by decide +kernel
theorem dX4_mendRope_10 : decode cX4_mendRope 10 = .ok (.getfield 171, 3) := by decide +kernel
theorem dX4_mendRope_13 : decode cX4_mendRope 13 = .ok (.iload_n 3, 1) := by decide +kernel
theorem dX4_mendRope_14 : decode cX4_mendRope 14 = .ok (.iaload, 1) := by decide +kernel
theorem dX4_mendRope_15 : decode cX4_mendRope 15 = .ok (.istore 4, 2) := by decide +kernel
theorem dX4_mendRope_17 : decode cX4_mendRope 17 = .ok (.aload_n 0, 1) := by decide +kernel
theorem dX4_mendRope_18 : decode cX4_mendRope 18 = .ok (.getfield 10, 3) := by decide +kernel
theorem dX4_mendRope_21 : decode cX4_mendRope 21 = .ok (.getfield 171, 3) := by decide +kernel
theorem dX4_mendRope_24 : decode cX4_mendRope 24 = .ok (.iload_n 3, 1) := by decide +kernel
theorem dX4_mendRope_25 : decode cX4_mendRope 25 = .ok (.iconst 0, 1) := by decide +kernel
theorem dX4_mendRope_26 : decode cX4_mendRope 26 = .ok (.iastore, 1) := by decide +kernel
theorem dX4_mendRope_27 : decode cX4_mendRope 27 = .ok (.aload_n 0, 1) := by decide +kernel
theorem dX4_mendRope_28 : decode cX4_mendRope 28 = .ok (.getfield 10, 3) := by decide +kernel
theorem dX4_mendRope_31 : decode cX4_mendRope 31 = .ok (.getfield 86, 3) := by decide +kernel
theorem dX4_mendRope_34 : decode cX4_mendRope 34 = .ok (.iload_n 1, 1) := by decide +kernel
theorem dX4_mendRope_35 : decode cX4_mendRope 35 = .ok (.dup2, 1) := by decide +kernel
theorem dX4_mendRope_36 : decode cX4_mendRope 36 = .ok (.iaload, 1) := by decide +kernel
theorem dX4_mendRope_37 : decode cX4_mendRope 37 = .ok (.iconst 2, 1) := by decide +kernel
theorem dX4_mendRope_38 : decode cX4_mendRope 38 = .ok (.iadd, 1) := by decide +kernel
theorem dX4_mendRope_39 : decode cX4_mendRope 39 = .ok (.iastore, 1) := by decide +kernel
theorem dX4_mendRope_40 : decode cX4_mendRope 40 = .ok (.iload 4, 2) := by decide +kernel
theorem dX4_mendRope_42 : decode cX4_mendRope 42 = .ok (.ireturn, 1) := by decide +kernel
theorem dX4_turnsError_0 : decode cX4_turnsError 0 = .ok (.iload_n 0, 1) := by decide +kernel
theorem dX4_turnsError_1 : decode cX4_turnsError 1 = .ok (.iconst 1, 1) := by decide +kernel
theorem dX4_turnsError_2 : decode cX4_turnsError 2 = .ok (.if_icmp .lt 9, 3) := by decide +kernel
theorem dX4_turnsError_5 : decode cX4_turnsError 5 = .ok (.iload_n 0, 1) := by decide +kernel
theorem dX4_turnsError_6 : decode cX4_turnsError 6 = .ok (.bipush 50, 2) := by decide +kernel
theorem dX4_turnsError_8 : decode cX4_turnsError 8 = .ok (.if_icmp .le 8, 3) := by decide +kernel
theorem dX4_turnsError_11 : decode cX4_turnsError 11 = .ok (.bipush (-2), 2) := by decide +kernel
theorem dX4_turnsError_13 : decode cX4_turnsError 13 = .ok (.goto 4, 3) := by decide +kernel
theorem dX4_turnsError_16 : decode cX4_turnsError 16 = .ok (.iconst 0, 1) := by decide +kernel
theorem dX4_turnsError_17 : decode cX4_turnsError 17 = .ok (.ireturn, 1) := by decide +kernel
theorem dX4_makeTurns_0 : decode cX4_makeTurns 0 = .ok (.iconst 0, 1) := by decide +kernel
theorem dX4_makeTurns_1 : decode cX4_makeTurns 1 = .ok (.istore_n 3, 1) := by decide +kernel
theorem dX4_makeTurns_2 : decode cX4_makeTurns 2 = .ok (.iload_n 3, 1) := by decide +kernel
theorem dX4_makeTurns_3 : decode cX4_makeTurns 3 = .ok (.iload_n 2, 1) := by decide +kernel
theorem dX4_makeTurns_4 : decode cX4_makeTurns 4 = .ok (.if_icmp .ge 25, 3) := by decide +kernel
theorem dX4_makeTurns_7 : decode cX4_makeTurns 7 = .ok (.aload_n 0, 1) := by decide +kernel
theorem dX4_makeTurns_8 : decode cX4_makeTurns 8 = .ok (.getfield 36, 3) := by decide +kernel
theorem dX4_makeTurns_11 : decode cX4_makeTurns 11 = .ok (.aload_n 1, 1) := by decide +kernel
theorem dX4_makeTurns_12 : decode cX4_makeTurns 12 = .ok (.invokevirtual 180, 3) := by decide +kernel
theorem dX4_makeTurns_15 : decode cX4_makeTurns 15 = .ok (.aload_n 1, 1) := by decide +kernel
theorem dX4_makeTurns_16 : decode cX4_makeTurns 16 = .ok (.aload_n 0, 1) := by decide +kernel
theorem dX4_makeTurns_17 : decode cX4_makeTurns 17 = .ok (.getfield 36, 3) := by decide +kernel
theorem dX4_makeTurns_20 : decode cX4_makeTurns 20 = .ok (.invokevirtual 220, 3) := by decide +kernel
theorem dX4_makeTurns_23 : decode cX4_makeTurns 23 = .ok (.iinc 3 1, 3) := by decide +kernel
theorem dX4_makeTurns_26 : decode cX4_makeTurns 26 = .ok (.goto (-24), 3) := by decide +kernel
theorem dX4_makeTurns_29 : decode cX4_makeTurns 29 = .ok (.return_, 1) := by decide +kernel
theorem dX4_pointsWithPlan_0 : decode cX4_pointsWithPlan 0 = .ok (.aload_n 0, 1) := by decide +kernel
theorem dX4_pointsWithPlan_1 : decode cX4_pointsWithPlan 1 = .ok (.getfield 16, 3) := by decide +kernel
theorem dX4_pointsWithPlan_4 : decode cX4_pointsWithPlan 4 = .ok (.getfield 159, 3) := by decide +kernel
theorem dX4_pointsWithPlan_7 : decode cX4_pointsWithPlan 7 = .ok (.iload_n 1, 1) := by decide +kernel
theorem dX4_pointsWithPlan_8 : decode cX4_pointsWithPlan 8 = .ok (.iload_n 2, 1) := by decide +kernel
theorem dX4_pointsWithPlan_9 : decode cX4_pointsWithPlan 9 = .ok (.iastore, 1) := by decide +kernel
theorem dX4_pointsWithPlan_10 : decode cX4_pointsWithPlan 10 = .ok (.aload_n 0, 1) := by decide +kernel
theorem dX4_pointsWithPlan_11 : decode cX4_pointsWithPlan 11 = .ok (.getfield 36, 3) := by decide +kernel
theorem dX4_pointsWithPlan_14 : decode cX4_pointsWithPlan 14 = .ok (.aload_n 0, 1) := by decide +kernel
theorem dX4_pointsWithPlan_15 : decode cX4_pointsWithPlan 15 = .ok (.getfield 16, 3) := by decide +kernel
theorem dX4_pointsWithPlan_18 : decode cX4_pointsWithPlan 18 = .ok (.invokevirtual 180, 3) := by decide +kernel
theorem dX4_pointsWithPlan_21 : decode cX4_pointsWithPlan 21 = .ok (.aload_n 0, 1) := by decide +kernel
theorem dX4_pointsWithPlan_22 : decode cX4_pointsWithPlan 22 = .ok (.getfield 36, 3) := by decide +kernel
theorem dX4_pointsWithPlan_25 : decode cX4_pointsWithPlan 25 = .ok (.iload_n 1, 1) := by decide +kernel
theorem dX4_pointsWithPlan_26 : decode cX4_pointsWithPlan 26 = .ok (.invokevirtual 224, 3) := by decide +kernel
theorem dX4_pointsWithPlan_29 : decode cX4_pointsWithPlan 29 = .ok (.ireturn, 1) := by decide +kernel
