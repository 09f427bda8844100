theorem dJ6_bitCount_0f7a4_0 : decode cJ6_bitCount_0f7a4 0 = .ok (.iload_n 0, 1) := by decide +kernel
theorem dJ6_bitCount_0f7a4_1 : decode cJ6_bitCount_0f7a4 1 = .ok (.iload_n 0, 1) := by decide +kernel
theorem dJ6_bitCount_0f7a4_2 : decode cJ6_bitCount_0f7a4 2 = .ok (.iconst 1, 1) := by decide +kernel
theorem dJ6_bitCount_0f7a4_3 : decode cJ6_bitCount_0f7a4 3 = .ok (.iushr, 1) := by decide +kernel
theorem dJ6_bitCount_0f7a4_4 : decode cJ6_bitCount_0f7a4 4 = .ok (.ldc_w 265, 3) := by decide +kernel
theorem dJ6_bitCount_0f7a4_7 : decode cJ6_bitCount_0f7a4 7 = .ok (.iand, 1) := by decide +kernel
theorem dJ6_bitCount_0f7a4_8 : decode cJ6_bitCount_0f7a4 8 = .ok (.isub, 1) := by decide +kernel
theorem dJ6_bitCount_0f7a4_9 : decode cJ6_bitCount_0f7a4 9 = .ok (.istore_n 0, 1) := by decide +kernel
theorem dJ6_bitCount_0f7a4_10 : decode cJ6_bitCount_0f7a4 10 = .ok (.iload_n 0, 1) := by decide +kernel
theorem dJ6_bitCount_0f7a4_11 : decode cJ6_bitCount_0f7a4 11 = .ok (.ldc_w 266, 3) := by decide +kernel
theorem dJ6_bitCount_0f7a4_14 : decode cJ6_bitCount_0f7a4 14 = .ok (.iand, 1) := by decide +kernel
theorem dJ6_bitCount_0f7a4_15 : decode cJ6_bitCount_0f7a4 15 = .ok (.iload_n 0, 1) := by decide +kernel
theorem dJ6_bitCount_0f7a4_16 : decode cJ6_bitCount_0f7a4 16 = .ok (.iconst 2, 1) := by decide +kernel
theorem dJ6_bitCount_0f7a4_17 : decode cJ6_bitCount_0f7a4 17 = .ok (.iushr, 1) := by decide +kernel
theorem dJ6_bitCount_0f7a4_18 : decode cJ6_bitCount_0f7a4 18 = .ok (.ldc_w 266, 3) := by decide +kernel
theorem dJ6_bitCount_0f7a4_21 : decode cJ6_bitCount_0f7a4 21 = .ok (.iand, 1) := by decide +kernel
theorem dJ6_bitCount_0f7a4_22 : decode cJ6_bitCount_0f7a4 22 = .ok (.iadd, 1) := by decide +kernel
theorem dJ6_bitCount_0f7a4_23 : decode cJ6_bitCount_0f7a4 23 = .ok (.istore_n 0, 1) := by decide +kernel
theorem dJ6_bitCount_0f7a4_24 : decode cJ6_bitCount_0f7a4 24 = .ok (.iload_n 0, 1) := by decide +kernel
theorem dJ6_bitCount_0f7a4_25 : decode cJ6_bitCount_0f7a4 25 = .ok (.iload_n 0, 1) := by decide +kernel
theorem dJ6_bitCount_0f7a4_26 : decode cJ6_bitCount_0f7a4 26 = .ok (.iconst 4, 1) := by decide +kernel
theorem dJ6_bitCount_0f7a4_27 : decode cJ6_bitCount_0f7a4 27 = .ok (.iushr, 1) := by decide +kernel
theorem dJ6_bitCount_0f7a4_28 : decode cJ6_bitCount_0f7a4 28 = .ok (.iadd, 1) := by decide +kernel
theorem dJ6_bitCount_0f7a4_29 : decode cJ6_bitCount_0f7a4 29 = .ok (.ldc_w 267, 3) := by decide +kernel
theorem dJ6_bitCount_0f7a4_32 : decode cJ6_bitCount_0f7a4 32 = .ok (.iand, 1) := by decide +kernel
theorem dJ6_bitCount_0f7a4_33 : decode cJ6_bitCount_0f7a4 33 = .ok (.istore_n 0, 1) := by decide +kernel
theorem dJ6_bitCount_0f7a4_34 : decode cJ6_bitCount_0f7a4 34 = .ok (.iload_n 0, 1) := by decide +kernel
theorem dJ6_bitCount_0f7a4_35 : decode cJ6_bitCount_0f7a4 35 = .ok (.iload_n 0, 1) := by decide +kernel
theorem dJ6_bitCount_0f7a4_36 : decode cJ6_bitCount_0f7a4 36 = .ok (.bipush 8, 2) := by decide +kernel
theorem dJ6_bitCount_0f7a4_38 : decode cJ6_bitCount_0f7a4 38 = .ok (.iushr, 1) := by decide +kernel
theorem dJ6_bitCount_0f7a4_39 : decode cJ6_bitCount_0f7a4 39 = .ok (.iadd, 1) := by decide +kernel
theorem dJ6_bitCount_0f7a4_40 : decode cJ6_bitCount_0f7a4 40 = .ok (.istore_n 0, 1) := by decide +kernel
theorem dJ6_bitCount_0f7a4_41 : decode cJ6_bitCount_0f7a4 41 = .ok (.iload_n 0, 1) := by decide +kernel
theorem dJ6_bitCount_0f7a4_42 : decode cJ6_bitCount_0f7a4 42 = .ok (.iload_n 0, 1) := by decide +kernel
theorem dJ6_bitCount_0f7a4_43 : decode cJ6_bitCount_0f7a4 43 = .ok (.bipush 16, 2) := by decide +kernel
theorem dJ6_bitCount_0f7a4_45 : decode cJ6_bitCount_0f7a4 45 = .ok (.iushr, 1) := by decide +kernel
theorem dJ6_bitCount_0f7a4_46 : decode cJ6_bitCount_0f7a4 46 = .ok (.iadd, 1) := by decide +kernel
theorem dJ6_bitCount_0f7a4_47 : decode cJ6_bitCount_0f7a4 47 = .ok (.istore_n 0, 1) := by decide +kernel
theorem dJ6_bitCount_0f7a4_48 : decode cJ6_bitCount_0f7a4 48 = .ok (.iload_n 0, 1) := by decide +kernel
theorem dJ6_bitCount_0f7a4_49 : decode cJ6_bitCount_0f7a4 49 = .ok (.bipush 63, 2) := by decide +kernel
theorem dJ6_bitCount_0f7a4_51 : decode cJ6_bitCount_0f7a4 51 = .ok (.iand, 1) := by decide +kernel
theorem dJ6_bitCount_0f7a4_52 : decode cJ6_bitCount_0f7a4 52 = .ok (.ireturn, 1) := by decide +kernel
theorem dX0_holdAll_0 : decode cX0_holdAll 0 = .ok (.aload_n 0, 1) := by decide +kernel
theorem dX0_holdAll_1 : decode cX0_holdAll 1 = .ok (.getfield 9, 3) := by decide +kernel
theorem dX0_holdAll_4 : decode cX0_holdAll 4 = .ok (.iconst 0, 1) := by decide +kernel
theorem dX0_holdAll_5 : decode cX0_holdAll 5 = .ok (.aload_n 0, 1) := by decide +kernel
theorem dX0_holdAll_6 : decode cX0_holdAll 6 = .ok (.getfield 15, 3) := by decide +kernel
theorem dX0_holdAll_9 : decode cX0_holdAll 9 = .ok (.iconst 0, 1) := by decide +kernel
theorem dX0_holdAll_10 : decode cX0_holdAll 10 = .ok (.bipush 10, 2) := by decide +kernel
theorem dX0_holdAll_12 : decode cX0_holdAll 12 = .ok (.invokestatic 67, 3) := by decide +kernel
theorem dX0_holdAll_15 : decode cX0_holdAll 15 = .ok (.iconst 1, 1) := by decide +kernel
theorem dX0_holdAll_16 : decode cX0_holdAll 16 = .ok (.istore_n 1, 1) := by decide +kernel
theorem dX0_holdAll_17 : decode cX0_holdAll 17 = .ok (.iconst 0, 1) := by decide +kernel
theorem dX0_holdAll_18 : decode cX0_holdAll 18 = .ok (.istore_n 2, 1) := by decide +kernel
theorem dX0_holdAll_19 : decode cX0_holdAll 19 = .ok (.iload_n 2, 1) := by decide +kernel
theorem dX0_holdAll_20 : decode cX0_holdAll 20 = .ok (.aload_n 0, 1) := by decide +kernel
theorem dX0_holdAll_21 : decode cX0_holdAll 21 = .ok (.getfield 33, 3) := by decide +kernel
theorem dX0_holdAll_24 : decode cX0_holdAll 24 = .ok (.getfield 73, 3) := by decide +kernel
theorem dX0_holdAll_27 : decode cX0_holdAll 27 = .ok (.if_icmp .ge 129, 3) := by decide +kernel
theorem dX0_holdAll_30 : decode cX0_holdAll 30 = .ok (.iload_n 1, 1) := by decide +kernel
theorem dX0_holdAll_31 : decode cX0_holdAll 31 = .ok (.ifCond .eq 125, 3) := by decide +kernel
theorem dX0_holdAll_34 : decode cX0_holdAll 34 = .ok (.iload_n 2, 1) := by decide +kernel
theorem dX0_holdAll_35 : decode cX0_holdAll 35 = .ok (.iconst 4, 1) := by decide +kernel
theorem dX0_holdAll_36 : decode cX0_holdAll 36 = .ok (.imul, 1) := by decide +kernel
theorem dX0_holdAll_37 : decode cX0_holdAll 37 = .ok (.istore_n 3, 1) := by decide +kernel
theorem dX0_holdAll_38 : decode cX0_holdAll 38 = .ok (.aload_n 0, 1) := by decide +kernel
theorem dX0_holdAll_39 : decode cX0_holdAll 39 = .ok (.getfield 33, 3) := by decide +kernel
theorem dX0_holdAll_42 : decode cX0_holdAll 42 = .ok (.getfield 76, 3) := by decide +kernel
theorem dX0_holdAll_45 : decode cX0_holdAll 45 = .ok (.iload_n 3, 1) := by decide +kernel
theorem dX0_holdAll_46 : decode cX0_holdAll 46 = .ok (.iaload, 1) := by decide +kernel
theorem dX0_holdAll_47 : decode cX0_holdAll 47 = .ok (.istore 4, 2) := by decide +kernel
theorem dX0_holdAll_49 : decode cX0_holdAll 49 = .ok (.aload_n 0, 1) := by decide +kernel
theorem dX0_holdAll_50 : decode cX0_holdAll 50 = .ok (.getfield 33, 3) := by decide +kernel
theorem dX0_holdAll_53 : decode cX0_holdAll 53 = .ok (.getfield 76, 3) := by decide +kernel
theorem dX0_holdAll_56 : decode cX0_holdAll 56 = .ok (.iload_n 3, 1) := by decide +kernel
theorem dX0_holdAll_57 : decode cX0_holdAll 57 = .ok (.iconst 1, 1) := by decide +kernel
theorem dX0_holdAll_58 : decode cX0_holdAll 58 = .ok (.iadd, 1) := by decide +kernel
theorem dX0_holdAll_59 : decode cX0_holdAll 59 = .ok (.iaload, 1) := by decide +kernel
theorem dX0_holdAll_60 : decode cX0_holdAll 60 = .ok (.istore 5, 2) := by decide +kernel
theorem dX0_holdAll_62 : decode cX0_holdAll 62 = .ok (.aload_n 0, 1) := by decide +kernel
theorem dX0_holdAll_63 : decode cX0_holdAll 63 = .ok (.getfield 33, 3) := by decide +kernel
theorem dX0_holdAll_66 : decode cX0_holdAll 66 = .ok (.getfield 76, 3) := by decide +kernel
theorem dX0_holdAll_69 : decode cX0_holdAll 69 = .ok (.iload_n 3, 1) := by decide +kernel
theorem dX0_holdAll_70 : decode cX0_holdAll 70 = .ok (.iconst 2, 1) := by decide +kernel
theorem dX0_holdAll_71 : decode cX0_holdAll 71 = .ok (.iadd, 1) := by decide +kernel
theorem dX0_holdAll_72 : decode cX0_holdAll 72 = .ok (.iaload, 1) := by decide +kernel
theorem dX0_holdAll_73 : decode cX0_holdAll 73 = .ok (.istore 6, 2) := by decide +kernel
theorem dX0_holdAll_75 : decode cX0_holdAll 75 = .ok (.aload_n 0, 1) := by decide +kernel
theorem dX0_holdAll_76 : decode cX0_holdAll 76 = .ok (.getfield 33, 3) := by decide +kernel
theorem dX0_holdAll_79 : decode cX0_holdAll 79 = .ok (.getfield 76, 3) := by decide +kernel
theorem dX0_holdAll_82 : decode cX0_holdAll 82 = .ok (.iload_n 3, 1) := by decide +kernel
theorem dX0_holdAll_83 : decode cX0_holdAll 83 = .ok (.iconst 3, 1) := by decide +kernel
theorem dX0_holdAll_84 : decode cX0_holdAll 84 = .ok (.iadd, 1) := by decide +kernel
theorem dX0_holdAll_85 : decode cX0_holdAll 85 = .ok (.iaload, 1) := by decide +kernel
theorem dX0_holdAll_86 : decode cX0_holdAll 86 = .ok (.istore 7, 2) := by decide +kernel
theorem dX0_holdAll_88 : decode cX0_holdAll 88 = .ok (.aload_n 0, 1) := by decide +kernel
theorem dX0_holdAll_89 : decode cX0_holdAll 89 = .ok (.getfield 33, 3) := by decide +kernel
theorem dX0_holdAll_92 : decode cX0_holdAll 92 = .ok (.aload_n 0, 1) := by decide +kernel
theorem dX0_holdAll_93 : decode cX0_holdAll 93 = .ok (.getfield 15, 3) := by decide +kernel
theorem dX0_holdAll_96 : decode cX0_holdAll 96 = .ok (.iload 4, 2) := by decide +kernel
theorem dX0_holdAll_98 : decode cX0_holdAll 98 = .ok (.invokevirtual 79, 3) := by decide +kernel
theorem dX0_holdAll_101 : decode cX0_holdAll 101 = .ok (.iload 6, 2) := by decide +kernel
theorem dX0_holdAll_103 : decode cX0_holdAll 103 = .ok (.if_icmp .ne 25, 3) := by decide +kernel
theorem dX0_holdAll_106 : decode cX0_holdAll 106 = .ok (.aload_n 0, 1) := by decide +kernel
theorem dX0_holdAll_107 : decode cX0_holdAll 107 = .ok (.getfield 33, 3) := by decide +kernel
theorem dX0_holdAll_110 : decode cX0_holdAll 110 = .ok (.aload_n 0, 1) := by decide +kernel
theorem dX0_holdAll_111 : decode cX0_holdAll 111 = .ok (.getfield 15, 3) := by decide +kernel
theorem dX0_holdAll_114 : decode cX0_holdAll 114 = .ok (.iload 5, 2) := by decide +kernel
theorem dX0_holdAll_116 : decode cX0_holdAll 116 = .ok (.invokevirtual 79, 3) := by decide +kernel
theorem dX0_holdAll_119 : decode cX0_holdAll 119 = .ok (.iload 7, 2) := by decide +kernel
theorem dX0_holdAll_121 : decode cX0_holdAll 121 = .ok (.if_icmp .ne 7, 3) := by decide +kernel
theorem dX0_holdAll_124 : decode cX0_holdAll 124 = .ok (.iconst 1, 1) := by decide +kernel
theorem dX0_holdAll_125 : decode cX0_holdAll 125 = .ok (.goto 4, 3) := by decide +kernel
theorem dX0_holdAll_128 : decode cX0_holdAll 128 = .ok (.iconst 0, 1) := by decide +kernel
theorem dX0_holdAll_129 : decode cX0_holdAll 129 = .ok (.istore_n 1, 1) := by decide +kernel
theorem dX0_holdAll_130 : decode cX0_holdAll 130 = .ok (.iload_n 1, 1) := by decide +kernel
theorem dX0_holdAll_131 : decode cX0_holdAll 131 = .ok (.ifCond .eq 19, 3) := by decide +kernel
theorem dX0_holdAll_134 : decode cX0_holdAll 134 = .ok (.aload_n 0, 1) := by decide +kernel
theorem dX0_holdAll_135 : decode cX0_holdAll 135 = .ok (.getfield 37, 3) := by decide +kernel
theorem dX0_holdAll_138 : decode cX0_holdAll 138 = .ok (.aload_n 0, 1) := by decide +kernel
theorem dX0_holdAll_139 : decode cX0_holdAll 139 = .ok (.getfield 15, 3) := by decide +kernel
theorem dX0_holdAll_142 : decode cX0_holdAll 142 = .ok (.iload 4, 2) := by decide +kernel
theorem dX0_holdAll_144 : decode cX0_holdAll 144 = .ok (.iload 5, 2) := by decide +kernel
theorem dX0_holdAll_146 : decode cX0_holdAll 146 = .ok (.invokevirtual 83, 3) := by decide +kernel
theorem dX0_holdAll_149 : decode cX0_holdAll 149 = .ok (.pop, 1) := by decide +kernel
theorem dX0_holdAll_150 : decode cX0_holdAll 150 = .ok (.iinc 2 1, 3) := by decide +kernel
theorem dX0_holdAll_153 : decode cX0_holdAll 153 = .ok (.goto (-134), 3) := by decide +kernel
theorem dX0_holdAll_156 : decode cX0_holdAll 156 = .ok (.iload_n 1, 1) := by decide +kernel
theorem dX0_holdAll_157 : decode cX0_holdAll 157 = .ok (.ireturn, 1) := by decide +kernel
theorem dX0_init_0 : decode cX0_init 0 = .ok (.aload_n 0, 1) := by decide +kernel
theorem dX0_init_1 : decode cX0_init 1 = .ok (.invokespecial 3, 3) := by decide +kernel
theorem dX0_init_4 : decode cX0_init 4 = .ok (.aload_n 0, 1) := by decide +kernel
theorem dX0_init_5 : decode cX0_init 5 = .ok (.bipush 10, 2) := by decide +kernel
theorem dX0_init_7 : decode cX0_init 7 = .ok (.newarray .int, 2) := by decide +kernel
theorem dX0_init_9 : decode cX0_init 9 = .ok (.putfield 9, 3) := by decide +kernel
theorem dX0_init_12 : decode cX0_init 12 = .ok (.aload_n 0, 1) := by decide +kernel
theorem dX0_init_13 : decode cX0_init 13 = .ok (.bipush 10, 2) := by decide +kernel
theorem dX0_init_15 : decode cX0_init 15 = .ok (.newarray .int, 2) := by decide +kernel
theorem dX0_init_17 : decode cX0_init 17 = .ok (.putfield 15, 3) := by decide +kernel
theorem dX0_init_20 : decode cX0_init 20 = .ok (.aload_n 0, 1) := by decide +kernel
theorem dX0_init_21 : decode cX0_init 21 = .ok (.bipush 10, 2) := by decide +kernel
theorem dX0_init_23 : decode cX0_init 23 = .ok (.newarray .int, 2) := by decide +kernel
theorem dX0_init_25 : decode cX0_init 25 = .ok (.putfield 18, 3) := by decide +kernel
theorem dX0_init_28 : decode cX0_init 28 = .ok (.aload_n 0, 1) := by decide +kernel
theorem dX0_init_29 : decode cX0_init 29 = .ok (.bipush 10, 2) := by decide +kernel
theorem dX0_init_31 : decode cX0_init 31 = .ok (.newarray .int, 2) := by decide +kernel
theorem dX0_init_33 : decode cX0_init 33 = .ok (.putfield 21, 3) := by decide +kernel
theorem dX0_init_36 : decode cX0_init 36 = .ok (.aload_n 0, 1) := by decide +kernel
theorem dX0_init_37 : decode cX0_init 37 = .ok (.bipush 64, 2) := by decide +kernel
theorem dX0_init_39 : decode cX0_init 39 = .ok (.newarray .int, 2) := by decide +kernel
theorem dX0_init_41 : decode cX0_init 41 = .ok (.putfield 24, 3) := by decide +kernel
theorem dX0_init_44 : decode cX0_init 44 = .ok (.aload_n 0, 1) := by decide +kernel
theorem dX0_init_45 : decode cX0_init 45 = .ok (.sipush 128, 3) := by decide +kernel
theorem dX0_init_48 : decode cX0_init 48 = .ok (.newarray .int, 2) := by decide +kernel
theorem dX0_init_50 : decode cX0_init 50 = .ok (.putfield 27, 3) := by decide +kernel
theorem dX0_init_53 : decode cX0_init 53 = .ok (.aload_n 0, 1) := by decide +kernel
theorem dX0_init_54 : decode cX0_init 54 = .ok (.bipush 64, 2) := by decide +kernel
theorem dX0_init_56 : decode cX0_init 56 = .ok (.newarray .int, 2) := by decide +kernel
theorem dX0_init_58 : decode cX0_init 58 = .ok (.putfield 30, 3) := by decide +kernel
theorem dX0_init_61 : decode cX0_init 61 = .ok (.aload_n 0, 1) := by decide +kernel
theorem dX0_init_62 : decode cX0_init 62 = .ok (.aload_n 1, 1) := by decide +kernel
theorem dX0_init_63 : decode cX0_init 63 = .ok (.putfield 33, 3) := by decide +kernel
theorem dX0_init_66 : decode cX0_init 66 = .ok (.aload_n 0, 1) := by decide +kernel
theorem dX0_init_67 : decode cX0_init 67 = .ok (.aload_n 2, 1) := by decide +kernel
theorem dX0_init_68 : decode cX0_init 68 = .ok (.putfield 37, 3) := by decide +kernel
theorem dX0_init_71 : decode cX0_init 71 = .ok (.return_, 1) := by decide +kernel
theorem dX0_keep_0 : decode cX0_keep 0 = .ok (.aload_n 0, 1) := by decide +kernel
theorem dX0_keep_1 : decode cX0_keep 1 = .ok (.getfield 41, 3) := by decide +kernel
theorem dX0_keep_4 : decode cX0_keep 4 = .ok (.iconst 5, 1) := by decide +kernel
theorem dX0_keep_5 : decode cX0_keep 5 = .ok (.imul, 1) := by decide +kernel
theorem dX0_keep_6 : decode cX0_keep 6 = .ok (.istore_n 1, 1) := by decide +kernel
theorem dX0_keep_7 : decode cX0_keep 7 = .ok (.aload_n 0, 1) := by decide +kernel
theorem dX0_keep_8 : decode cX0_keep 8 = .ok (.aload_n 0, 1) := by decide +kernel
theorem dX0_keep_9 : decode cX0_keep 9 = .ok (.getfield 24, 3) := by decide +kernel
theorem dX0_keep_12 : decode cX0_keep 12 = .ok (.iload_n 1, 1) := by decide +kernel
theorem dX0_keep_13 : decode cX0_keep 13 = .ok (.iconst 5, 1) := by decide +kernel
theorem dX0_keep_14 : decode cX0_keep 14 = .ok (.iadd, 1) := by decide +kernel
theorem dX0_keep_15 : decode cX0_keep 15 = .ok (.invokestatic 98, 3) := by decide +kernel
theorem dX0_keep_18 : decode cX0_keep 18 = .ok (.putfield 24, 3) := by decide +kernel
theorem dX0_keep_21 : decode cX0_keep 21 = .ok (.aload_n 0, 1) := by decide +kernel
theorem dX0_keep_22 : decode cX0_keep 22 = .ok (.getfield 15, 3) := by decide +kernel
theorem dX0_keep_25 : decode cX0_keep 25 = .ok (.iconst 0, 1) := by decide +kernel
theorem dX0_keep_26 : decode cX0_keep 26 = .ok (.aload_n 0, 1) := by decide +kernel
theorem dX0_keep_27 : decode cX0_keep 27 = .ok (.getfield 24, 3) := by decide +kernel
theorem dX0_keep_30 : decode cX0_keep 30 = .ok (.iload_n 1, 1) := by decide +kernel
theorem dX0_keep_31 : decode cX0_keep 31 = .ok (.iconst 5, 1) := by decide +kernel
theorem dX0_keep_32 : decode cX0_keep 32 = .ok (.invokestatic 67, 3) := by decide +kernel
theorem dX0_keep_35 : decode cX0_keep 35 = .ok (.aload_n 0, 1) := by decide +kernel
theorem dX0_keep_36 : decode cX0_keep 36 = .ok (.aload_n 0, 1) := by decide +kernel
theorem dX0_keep_37 : decode cX0_keep 37 = .ok (.getfield 45, 3) := by decide +kernel
theorem dX0_keep_40 : decode cX0_keep 40 = .ok (.aload_n 0, 1) := by decide +kernel
theorem dX0_keep_41 : decode cX0_keep 41 = .ok (.getfield 33, 3) := by decide +kernel
theorem dX0_keep_44 : decode cX0_keep 44 = .ok (.aload_n 0, 1) := by decide +kernel
theorem dX0_keep_45 : decode cX0_keep 45 = .ok (.getfield 15, 3) := by decide +kernel
theorem dX0_keep_48 : decode cX0_keep 48 = .ok (.iconst 1, 1) := by decide +kernel
theorem dX0_keep_49 : decode cX0_keep 49 = .ok (.aload_n 0, 1) := by decide +kernel
theorem dX0_keep_50 : decode cX0_keep 50 = .ok (.getfield 33, 3) := by decide +kernel
theorem dX0_keep_53 : decode cX0_keep 53 = .ok (.getfield 48, 3) := by decide +kernel
theorem dX0_keep_56 : decode cX0_keep 56 = .ok (.ishl, 1) := by decide +kernel
theorem dX0_keep_57 : decode cX0_keep 57 = .ok (.iconst 1, 1) := by decide +kernel
theorem dX0_keep_58 : decode cX0_keep 58 = .ok (.isub, 1) := by decide +kernel
theorem dX0_keep_59 : decode cX0_keep 59 = .ok (.invokevirtual 79, 3) := by decide +kernel
theorem dX0_keep_62 : decode cX0_keep 62 = .ok (.invokestatic 95, 3) := by decide +kernel
theorem dX0_keep_65 : decode cX0_keep 65 = .ok (.putfield 45, 3) := by decide +kernel
theorem dX0_keep_68 : decode cX0_keep 68 = .ok (.return_, 1) := by decide +kernel
theorem dX0_mark_0 : decode cX0_mark 0 = .ok (.iconst 0, 1) := by decide +kernel
theorem dX0_mark_1 : decode cX0_mark 1 = .ok (.istore_n 1, 1) := by decide +kernel
theorem dX0_mark_2 : decode cX0_mark 2 = .ok (.iload_n 1, 1) := by decide +kernel
theorem dX0_mark_3 : decode cX0_mark 3 = .ok (.aload_n 0, 1) := by decide +kernel
theorem dX0_mark_4 : decode cX0_mark 4 = .ok (.getfield 33, 3) := by decide +kernel
theorem dX0_mark_7 : decode cX0_mark 7 = .ok (.getfield 48, 3) := by decide +kernel
theorem dX0_mark_10 : decode cX0_mark 10 = .ok (.if_icmp .ge 51, 3) := by decide +kernel
theorem dX0_mark_13 : decode cX0_mark 13 = .ok (.aload_n 0, 1) := by decide +kernel
theorem dX0_mark_14 : decode cX0_mark 14 = .ok (.getfield 18, 3) := by decide +kernel
theorem dX0_mark_17 : decode cX0_mark 17 = .ok (.iload_n 1, 1) := by decide +kernel
theorem dX0_mark_18 : decode cX0_mark 18 = .ok (.aload_n 0, 1) := by decide +kernel
theorem dX0_mark_19 : decode cX0_mark 19 = .ok (.getfield 18, 3) := by decide +kernel
theorem dX0_mark_22 : decode cX0_mark 22 = .ok (.iload_n 1, 1) := by decide +kernel
theorem dX0_mark_23 : decode cX0_mark 23 = .ok (.iaload, 1) := by decide +kernel
theorem dX0_mark_24 : decode cX0_mark 24 = .ok (.aload_n 0, 1) := by decide +kernel
theorem dX0_mark_25 : decode cX0_mark 25 = .ok (.getfield 9, 3) := by decide +kernel
theorem dX0_mark_28 : decode cX0_mark 28 = .ok (.iload_n 1, 1) := by decide +kernel
theorem dX0_mark_29 : decode cX0_mark 29 = .ok (.iaload, 1) := by decide +kernel
theorem dX0_mark_30 : decode cX0_mark 30 = .ok (.invokestatic 89, 3) := by decide +kernel
theorem dX0_mark_33 : decode cX0_mark 33 = .ok (.iastore, 1) := by decide +kernel
theorem dX0_mark_34 : decode cX0_mark 34 = .ok (.aload_n 0, 1) := by decide +kernel
theorem dX0_mark_35 : decode cX0_mark 35 = .ok (.getfield 21, 3) := by decide +kernel
theorem dX0_mark_38 : decode cX0_mark 38 = .ok (.iload_n 1, 1) := by decide +kernel
theorem dX0_mark_39 : decode cX0_mark 39 = .ok (.aload_n 0, 1) := by decide +kernel
theorem dX0_mark_40 : decode cX0_mark 40 = .ok (.getfield 21, 3) := by decide +kernel
theorem dX0_mark_43 : decode cX0_mark 43 = .ok (.iload_n 1, 1) := by decide +kernel
theorem dX0_mark_44 : decode cX0_mark 44 = .ok (.iaload, 1) := by decide +kernel
theorem dX0_mark_45 : decode cX0_mark 45 = .ok (.aload_n 0, 1) := by decide +kernel
theorem dX0_mark_46 : decode cX0_mark 46 = .ok (.getfield 9, 3) := by decide +kernel
theorem dX0_mark_49 : decode cX0_mark 49 = .ok (.iload_n 1, 1) := by decide +kernel
theorem dX0_mark_50 : decode cX0_mark 50 = .ok (.iaload, 1) := by decide +kernel
theorem dX0_mark_51 : decode cX0_mark 51 = .ok (.invokestatic 95, 3) := by decide +kernel
theorem dX0_mark_54 : decode cX0_mark 54 = .ok (.iastore, 1) := by decide +kernel
theorem dX0_mark_55 : decode cX0_mark 55 = .ok (.iinc 1 1, 3) := by decide +kernel
theorem dX0_mark_58 : decode cX0_mark 58 = .ok (.goto (-56), 3) := by decide +kernel
theorem dX0_mark_61 : decode cX0_mark 61 = .ok (.return_, 1) := by decide +kernel
theorem dX0_mostWithOneSum_0 : decode cX0_mostWithOneSum 0 = .ok (.iconst 0, 1) := by decide +kernel
theorem dX0_mostWithOneSum_1 : decode cX0_mostWithOneSum 1 = .ok (.istore_n 2, 1) := by decide +kernel
theorem dX0_mostWithOneSum_2 : decode cX0_mostWithOneSum 2 = .ok (.iconst 0, 1) := by decide +kernel
theorem dX0_mostWithOneSum_3 : decode cX0_mostWithOneSum 3 = .ok (.istore_n 3, 1) := by decide +kernel
theorem dX0_mostWithOneSum_4 : decode cX0_mostWithOneSum 4 = .ok (.iload_n 3, 1) := by decide +kernel
theorem dX0_mostWithOneSum_5 : decode cX0_mostWithOneSum 5 = .ok (.aload_n 0, 1) := by decide +kernel
theorem dX0_mostWithOneSum_6 : decode cX0_mostWithOneSum 6 = .ok (.getfield 41, 3) := by decide +kernel
theorem dX0_mostWithOneSum_9 : decode cX0_mostWithOneSum 9 = .ok (.if_icmp .ge 59, 3) := by decide +kernel
theorem dX0_mostWithOneSum_12 : decode cX0_mostWithOneSum 12 = .ok (.aload_n 0, 1) := by decide +kernel
theorem dX0_mostWithOneSum_13 : decode cX0_mostWithOneSum 13 = .ok (.iload_n 3, 1) := by decide +kernel
theorem dX0_mostWithOneSum_14 : decode cX0_mostWithOneSum 14 = .ok (.iload_n 1, 1) := by decide +kernel
theorem dX0_mostWithOneSum_15 : decode cX0_mostWithOneSum 15 = .ok (.invokevirtual 112, 3) := by decide +kernel
theorem dX0_mostWithOneSum_18 : decode cX0_mostWithOneSum 18 = .ok (.istore 4, 2) := by decide +kernel
theorem dX0_mostWithOneSum_20 : decode cX0_mostWithOneSum 20 = .ok (.aload_n 0, 1) := by decide +kernel
theorem dX0_mostWithOneSum_21 : decode cX0_mostWithOneSum 21 = .ok (.getfield 30, 3) := by decide +kernel
theorem dX0_mostWithOneSum_24 : decode cX0_mostWithOneSum 24 = .ok (.iload_n 3, 1) := by decide +kernel
theorem dX0_mostWithOneSum_25 : decode cX0_mostWithOneSum 25 = .ok (.iload 4, 2) := by decide +kernel
theorem dX0_mostWithOneSum_27 : decode cX0_mostWithOneSum 27 = .ok (.iastore, 1) := by decide +kernel
theorem dX0_mostWithOneSum_28 : decode cX0_mostWithOneSum 28 = .ok (.aload_n 0, 1) := by decide +kernel
theorem dX0_mostWithOneSum_29 : decode cX0_mostWithOneSum 29 = .ok (.getfield 27, 3) := by decide +kernel
theorem dX0_mostWithOneSum_32 : decode cX0_mostWithOneSum 32 = .ok (.iload 4, 2) := by decide +kernel
theorem dX0_mostWithOneSum_34 : decode cX0_mostWithOneSum 34 = .ok (.dup2, 1) := by decide +kernel
theorem dX0_mostWithOneSum_35 : decode cX0_mostWithOneSum 35 = .ok (.iaload, 1) := by decide +kernel
theorem dX0_mostWithOneSum_36 : decode cX0_mostWithOneSum 36 = .ok (.iconst 1, 1) := by decide +kernel
theorem dX0_mostWithOneSum_37 : decode cX0_mostWithOneSum 37 = .ok (.iadd, 1) := by decide +kernel
theorem dX0_mostWithOneSum_38 : decode cX0_mostWithOneSum 38 = .ok (.iastore, 1) := by decide +kernel
theorem dX0_mostWithOneSum_39 : decode cX0_mostWithOneSum 39 = .ok (.aload_n 0, 1) := by decide +kernel
theorem dX0_mostWithOneSum_40 : decode cX0_mostWithOneSum 40 = .ok (.getfield 27, 3) := by decide +kernel
theorem dX0_mostWithOneSum_43 : decode cX0_mostWithOneSum 43 = .ok (.iload 4, 2) := by decide +kernel
theorem dX0_mostWithOneSum_45 : decode cX0_mostWithOneSum 45 = .ok (.iaload, 1) := by decide +kernel
theorem dX0_mostWithOneSum_46 : decode cX0_mostWithOneSum 46 = .ok (.iload_n 2, 1) := by decide +kernel
theorem dX0_mostWithOneSum_47 : decode cX0_mostWithOneSum 47 = .ok (.if_icmp .le 13, 3) := by decide +kernel
theorem dX0_mostWithOneSum_50 : decode cX0_mostWithOneSum 50 = .ok (.aload_n 0, 1) := by decide +kernel
theorem dX0_mostWithOneSum_51 : decode cX0_mostWithOneSum 51 = .ok (.getfield 27, 3) := by decide +kernel
theorem dX0_mostWithOneSum_54 : decode cX0_mostWithOneSum 54 = .ok (.iload 4, 2) := by decide +kernel
theorem dX0_mostWithOneSum_56 : decode cX0_mostWithOneSum 56 = .ok (.iaload, 1) := by decide +kernel
theorem dX0_mostWithOneSum_57 : decode cX0_mostWithOneSum 57 = .ok (.goto 4, 3) := by decide +kernel
theorem dX0_mostWithOneSum_60 : decode cX0_mostWithOneSum 60 = .ok (.iload_n 2, 1) := by decide +kernel
theorem dX0_mostWithOneSum_61 : decode cX0_mostWithOneSum 61 = .ok (.istore_n 2, 1) := by decide +kernel
theorem dX0_mostWithOneSum_62 : decode cX0_mostWithOneSum 62 = .ok (.iinc 3 1, 3) := by decide +kernel
theorem dX0_mostWithOneSum_65 : decode cX0_mostWithOneSum 65 = .ok (.goto (-61), 3) := by decide +kernel
theorem dX0_mostWithOneSum_68 : decode cX0_mostWithOneSum 68 = .ok (.iconst 0, 1) := by decide +kernel
theorem dX0_mostWithOneSum_69 : decode cX0_mostWithOneSum 69 = .ok (.istore_n 3, 1) := by decide +kernel
theorem dX0_mostWithOneSum_70 : decode cX0_mostWithOneSum 70 = .ok (.iload_n 3, 1) := by decide +kernel
theorem dX0_mostWithOneSum_71 : decode cX0_mostWithOneSum 71 = .ok (.aload_n 0, 1) := by decide +kernel
theorem dX0_mostWithOneSum_72 : decode cX0_mostWithOneSum 72 = .ok (.getfield 41, 3) := by decide +kernel
theorem dX0_mostWithOneSum_75 : decode cX0_mostWithOneSum 75 = .ok (.if_icmp .ge 21, 3) := by decide +kernel
theorem dX0_mostWithOneSum_78 : decode cX0_mostWithOneSum 78 = .ok (.aload_n 0, 1) := by decide +kernel
theorem dX0_mostWithOneSum_79 : decode cX0_mostWithOneSum 79 = .ok (.getfield 27, 3) := by decide +kernel
theorem dX0_mostWithOneSum_82 : decode cX0_mostWithOneSum 82 = .ok (.aload_n 0, 1) := by decide +kernel
theorem dX0_mostWithOneSum_83 : decode cX0_mostWithOneSum 83 = .ok (.getfield 30, 3) := by decide +kernel
theorem dX0_mostWithOneSum_86 : decode cX0_mostWithOneSum 86 = .ok (.iload_n 3, 1) := by decide +kernel
theorem dX0_mostWithOneSum_87 : decode cX0_mostWithOneSum 87 = .ok (.iaload, 1) := by decide +kernel
theorem dX0_mostWithOneSum_88 : decode cX0_mostWithOneSum 88 = .ok (.iconst 0, 1) := by decide +kernel
theorem dX0_mostWithOneSum_89 : decode cX0_mostWithOneSum 89 = .ok (.iastore, 1) := by decide +kernel
theorem dX0_mostWithOneSum_90 : decode cX0_mostWithOneSum 90 = .ok (.iinc 3 1, 3) := by decide +kernel
theorem dX0_mostWithOneSum_93 : decode cX0_mostWithOneSum 93 = .ok (.goto (-23), 3) := by decide +kernel
theorem dX0_mostWithOneSum_96 : decode cX0_mostWithOneSum 96 = .ok (.iload_n 2, 1) := by decide +kernel
theorem dX0_mostWithOneSum_97 : decode cX0_mostWithOneSum 97 = .ok (.ireturn, 1) := by decide +kernel
theorem dX0_roomFor_0 : decode cX0_roomFor 0 = .ok (.aload_n 0, 1) := by decide +kernel
theorem dX0_roomFor_1 : decode cX0_roomFor 1 = .ok (.arraylength, 1) := by decide +kernel
theorem dX0_roomFor_2 : decode cX0_roomFor 2 = .ok (.istore_n 2, 1) := by decide +kernel
theorem dX0_roomFor_3 : decode cX0_roomFor 3 = .ok (.iconst 0, 1) := by decide +kernel
theorem dX0_roomFor_4 : decode cX0_roomFor 4 = .ok (.istore_n 3, 1) := by decide +kernel
theorem dX0_roomFor_5 : decode cX0_roomFor 5 = .ok (.iload_n 3, 1) := by decide +kernel
theorem dX0_roomFor_6 : decode cX0_roomFor 6 = .ok (.bipush 30, 2) := by decide +kernel
theorem dX0_roomFor_8 : decode cX0_roomFor 8 = .ok (.if_icmp .ge 18, 3) := by decide +kernel
theorem dX0_roomFor_11 : decode cX0_roomFor 11 = .ok (.iload_n 2, 1) := by decide +kernel
theorem dX0_roomFor_12 : decode cX0_roomFor 12 = .ok (.iload_n 1, 1) := by decide +kernel
theorem dX0_roomFor_13 : decode cX0_roomFor 13 = .ok (.if_icmp .ge 13, 3) := by decide +kernel
theorem dX0_roomFor_16 : decode cX0_roomFor 16 = .ok (.iload_n 2, 1) := by decide +kernel
theorem dX0_roomFor_17 : decode cX0_roomFor 17 = .ok (.iconst 2, 1) := by decide +kernel
theorem dX0_roomFor_18 : decode cX0_roomFor 18 = .ok (.imul, 1) := by decide +kernel
theorem dX0_roomFor_19 : decode cX0_roomFor 19 = .ok (.istore_n 2, 1) := by decide +kernel
theorem dX0_roomFor_20 : decode cX0_roomFor 20 = .ok (.iinc 3 1, 3) := by decide +kernel
theorem dX0_roomFor_23 : decode cX0_roomFor 23 = .ok (.goto (-18), 3) := by decide +kernel
theorem dX0_roomFor_26 : decode cX0_roomFor 26 = .ok (.iload_n 2, 1) := by decide +kernel
theorem dX0_roomFor_27 : decode cX0_roomFor 27 = .ok (.aload_n 0, 1) := by decide +kernel
theorem dX0_roomFor_28 : decode cX0_roomFor 28 = .ok (.arraylength, 1) := by decide +kernel
theorem dX0_roomFor_29 : decode cX0_roomFor 29 = .ok (.if_icmp .ne 5, 3) := by decide +kernel
theorem dX0_roomFor_32 : decode cX0_roomFor 32 = .ok (.aload_n 0, 1) := by decide +kernel
theorem dX0_roomFor_33 : decode cX0_roomFor 33 = .ok (.areturn, 1) := by decide +kernel
theorem dX0_roomFor_34 : decode cX0_roomFor 34 = .ok (.iload_n 2, 1) := by decide +kernel
theorem dX0_roomFor_35 : decode cX0_roomFor 35 = .ok (.newarray .int, 2) := by decide +kernel
theorem dX0_roomFor_37 : decode cX0_roomFor 37 = .ok (.astore_n 3, 1) := by decide +kernel
theorem dX0_roomFor_38 : decode cX0_roomFor 38 = .ok (.aload_n 0, 1) := by decide +kernel
theorem dX0_roomFor_39 : decode cX0_roomFor 39 = .ok (.iconst 0, 1) := by decide +kernel
theorem dX0_roomFor_40 : decode cX0_roomFor 40 = .ok (.aload_n 3, 1) := by decide +kernel
theorem dX0_roomFor_41 : decode cX0_roomFor 41 = .ok (.iconst 0, 1) := by decide +kernel
theorem dX0_roomFor_42 : decode cX0_roomFor 42 = .ok (.aload_n 0, 1) := by decide +kernel
theorem dX0_roomFor_43 : decode cX0_roomFor 43 = .ok (.arraylength, 1) := by decide +kernel
theorem dX0_roomFor_44 : decode cX0_roomFor 44 = .ok (.invokestatic 67, 3) := by decide +kernel
theorem dX0_roomFor_47 : decode cX0_roomFor 47 = .ok (.aload_n 3, 1) := by decide +kernel
theorem dX0_roomFor_48 : decode cX0_roomFor 48 = .ok (.areturn, 1) := by decide +kernel
theorem dX0_search_0 : decode cX0_search 0 = .ok (.aload_n 0, 1) := by decide +kernel
theorem dX0_search_1 : decode cX0_search 1 = .ok (.iconst 0, 1) := by decide +kernel
theorem dX0_search_2 : decode cX0_search 2 = .ok (.putfield 41, 3) := by decide +kernel
theorem dX0_search_5 : decode cX0_search 5 = .ok (.aload_n 0, 1) := by decide +kernel
theorem dX0_search_6 : decode cX0_search 6 = .ok (.iconst 0, 1) := by decide +kernel
theorem dX0_search_7 : decode cX0_search 7 = .ok (.putfield 45, 3) := by decide +kernel
theorem dX0_search_10 : decode cX0_search 10 = .ok (.iconst 0, 1) := by decide +kernel
theorem dX0_search_11 : decode cX0_search 11 = .ok (.istore_n 3, 1) := by decide +kernel
theorem dX0_search_12 : decode cX0_search 12 = .ok (.iload_n 3, 1) := by decide +kernel
theorem dX0_search_13 : decode cX0_search 13 = .ok (.bipush 10, 2) := by decide +kernel
theorem dX0_search_15 : decode cX0_search 15 = .ok (.if_icmp .ge 30, 3) := by decide +kernel
theorem dX0_search_18 : decode cX0_search 18 = .ok (.aload_n 0, 1) := by decide +kernel
theorem dX0_search_19 : decode cX0_search 19 = .ok (.getfield 9, 3) := by decide +kernel
theorem dX0_search_22 : decode cX0_search 22 = .ok (.iload_n 3, 1) := by decide +kernel
theorem dX0_search_23 : decode cX0_search 23 = .ok (.iconst 1, 1) := by decide +kernel
theorem dX0_search_24 : decode cX0_search 24 = .ok (.iastore, 1) := by decide +kernel
theorem dX0_search_25 : decode cX0_search 25 = .ok (.aload_n 0, 1) := by decide +kernel
theorem dX0_search_26 : decode cX0_search 26 = .ok (.getfield 18, 3) := by decide +kernel
theorem dX0_search_29 : decode cX0_search 29 = .ok (.iload_n 3, 1) := by decide +kernel
theorem dX0_search_30 : decode cX0_search 30 = .ok (.iload_n 1, 1) := by decide +kernel
theorem dX0_search_31 : decode cX0_search 31 = .ok (.iastore, 1) := by decide +kernel
theorem dX0_search_32 : decode cX0_search 32 = .ok (.aload_n 0, 1) := by decide +kernel
theorem dX0_search_33 : decode cX0_search 33 = .ok (.getfield 21, 3) := by decide +kernel
theorem dX0_search_36 : decode cX0_search 36 = .ok (.iload_n 3, 1) := by decide +kernel
theorem dX0_search_37 : decode cX0_search 37 = .ok (.iconst 1, 1) := by decide +kernel
theorem dX0_search_38 : decode cX0_search 38 = .ok (.iastore, 1) := by decide +kernel
theorem dX0_search_39 : decode cX0_search 39 = .ok (.iinc 3 1, 3) := by decide +kernel
theorem dX0_search_42 : decode cX0_search 42 = .ok (.goto (-30), 3) := by decide +kernel
theorem dX0_search_45 : decode cX0_search 45 = .ok (.iconst 1, 1) := by decide +kernel
theorem dX0_search_46 : decode cX0_search 46 = .ok (.istore_n 3, 1) := by decide +kernel
theorem dX0_search_47 : decode cX0_search 47 = .ok (.iconst 0, 1) := by decide +kernel
theorem dX0_search_48 : decode cX0_search 48 = .ok (.istore 4, 2) := by decide +kernel
theorem dX0_search_50 : decode cX0_search 50 = .ok (.iload 4, 2) := by decide +kernel
theorem dX0_search_52 : decode cX0_search 52 = .ok (.aload_n 0, 1) := by decide +kernel
theorem dX0_search_53 : decode cX0_search 53 = .ok (.getfield 33, 3) := by decide +kernel
theorem dX0_search_56 : decode cX0_search 56 = .ok (.getfield 48, 3) := by decide +kernel
theorem dX0_search_59 : decode cX0_search 59 = .ok (.if_icmp .ge 19, 3) := by decide +kernel
theorem dX0_search_62 : decode cX0_search 62 = .ok (.iload 4, 2) := by decide +kernel
theorem dX0_search_64 : decode cX0_search 64 = .ok (.iconst 5, 1) := by decide +kernel
theorem dX0_search_65 : decode cX0_search 65 = .ok (.if_icmp .ge 13, 3) := by decide +kernel
theorem dX0_search_68 : decode cX0_search 68 = .ok (.iload_n 3, 1) := by decide +kernel
theorem dX0_search_69 : decode cX0_search 69 = .ok (.iload_n 1, 1) := by decide +kernel
theorem dX0_search_70 : decode cX0_search 70 = .ok (.imul, 1) := by decide +kernel
theorem dX0_search_71 : decode cX0_search 71 = .ok (.istore_n 3, 1) := by decide +kernel
theorem dX0_search_72 : decode cX0_search 72 = .ok (.iinc 4 1, 3) := by decide +kernel
theorem dX0_search_75 : decode cX0_search 75 = .ok (.goto (-25), 3) := by decide +kernel
theorem dX0_search_78 : decode cX0_search 78 = .ok (.iconst 0, 1) := by decide +kernel
theorem dX0_search_79 : decode cX0_search 79 = .ok (.istore 4, 2) := by decide +kernel
theorem dX0_search_81 : decode cX0_search 81 = .ok (.iload 4, 2) := by decide +kernel
theorem dX0_search_83 : decode cX0_search 83 = .ok (.iload_n 3, 1) := by decide +kernel
theorem dX0_search_84 : decode cX0_search 84 = .ok (.if_icmp .ge 43, 3) := by decide +kernel
theorem dX0_search_87 : decode cX0_search 87 = .ok (.aload_n 0, 1) := by decide +kernel
theorem dX0_search_88 : decode cX0_search 88 = .ok (.invokevirtual 53, 3) := by decide +kernel
theorem dX0_search_91 : decode cX0_search 91 = .ok (.ifCond .eq 25, 3) := by decide +kernel
theorem dX0_search_94 : decode cX0_search 94 = .ok (.aload_n 0, 1) := by decide +kernel
theorem dX0_search_95 : decode cX0_search 95 = .ok (.invokevirtual 57, 3) := by decide +kernel
theorem dX0_search_98 : decode cX0_search 98 = .ok (.iload_n 2, 1) := by decide +kernel
theorem dX0_search_99 : decode cX0_search 99 = .ok (.ifCond .eq 7, 3) := by decide +kernel
theorem dX0_search_102 : decode cX0_search 102 = .ok (.aload_n 0, 1) := by decide +kernel
theorem dX0_search_103 : decode cX0_search 103 = .ok (.invokevirtual 60, 3) := by decide +kernel
theorem dX0_search_106 : decode cX0_search 106 = .ok (.aload_n 0, 1) := by decide +kernel
theorem dX0_search_107 : decode cX0_search 107 = .ok (.dup, 1) := by decide +kernel
theorem dX0_search_108 : decode cX0_search 108 = .ok (.getfield 41, 3) := by decide +kernel
theorem dX0_search_111 : decode cX0_search 111 = .ok (.iconst 1, 1) := by decide +kernel
theorem dX0_search_112 : decode cX0_search 112 = .ok (.iadd, 1) := by decide +kernel
theorem dX0_search_113 : decode cX0_search 113 = .ok (.putfield 41, 3) := by decide +kernel
theorem dX0_search_116 : decode cX0_search 116 = .ok (.aload_n 0, 1) := by decide +kernel
theorem dX0_search_117 : decode cX0_search 117 = .ok (.iload_n 1, 1) := by decide +kernel
theorem dX0_search_118 : decode cX0_search 118 = .ok (.invokevirtual 63, 3) := by decide +kernel
theorem dX0_search_121 : decode cX0_search 121 = .ok (.iinc 4 1, 3) := by decide +kernel
theorem dX0_search_124 : decode cX0_search 124 = .ok (.goto (-43), 3) := by decide +kernel
theorem dX0_search_127 : decode cX0_search 127 = .ok (.return_, 1) := by decide +kernel
theorem dX0_seekTelling_0 : decode cX0_seekTelling 0 = .ok (.aload_n 0, 1) := by decide +kernel
theorem dX0_seekTelling_1 : decode cX0_seekTelling 1 = .ok (.iconst 1, 1) := by decide +kernel
theorem dX0_seekTelling_2 : decode cX0_seekTelling 2 = .ok (.putfield 102, 3) := by decide +kernel
theorem dX0_seekTelling_5 : decode cX0_seekTelling 5 = .ok (.aload_n 0, 1) := by decide +kernel
theorem dX0_seekTelling_6 : decode cX0_seekTelling 6 = .ok (.aload_n 0, 1) := by decide +kernel
theorem dX0_seekTelling_7 : decode cX0_seekTelling 7 = .ok (.getfield 41, 3) := by decide +kernel
theorem dX0_seekTelling_10 : decode cX0_seekTelling 10 = .ok (.putfield 105, 3) := by decide +kernel
theorem dX0_seekTelling_13 : decode cX0_seekTelling 13 = .ok (.aload_n 0, 1) := by decide +kernel
theorem dX0_seekTelling_14 : decode cX0_seekTelling 14 = .ok (.aload_n 0, 1) := by decide +kernel
theorem dX0_seekTelling_15 : decode cX0_seekTelling 15 = .ok (.getfield 30, 3) := by decide +kernel
theorem dX0_seekTelling_18 : decode cX0_seekTelling 18 = .ok (.aload_n 0, 1) := by decide +kernel
theorem dX0_seekTelling_19 : decode cX0_seekTelling 19 = .ok (.getfield 41, 3) := by decide +kernel
theorem dX0_seekTelling_22 : decode cX0_seekTelling 22 = .ok (.invokestatic 98, 3) := by decide +kernel
theorem dX0_seekTelling_25 : decode cX0_seekTelling 25 = .ok (.putfield 30, 3) := by decide +kernel
theorem dX0_seekTelling_28 : decode cX0_seekTelling 28 = .ok (.aload_n 0, 1) := by decide +kernel
theorem dX0_seekTelling_29 : decode cX0_seekTelling 29 = .ok (.aload_n 0, 1) := by decide +kernel
theorem dX0_seekTelling_30 : decode cX0_seekTelling 30 = .ok (.getfield 27, 3) := by decide +kernel
theorem dX0_seekTelling_33 : decode cX0_seekTelling 33 = .ok (.aload_n 0, 1) := by decide +kernel
theorem dX0_seekTelling_34 : decode cX0_seekTelling 34 = .ok (.getfield 45, 3) := by decide +kernel
theorem dX0_seekTelling_37 : decode cX0_seekTelling 37 = .ok (.iconst 1, 1) := by decide +kernel
theorem dX0_seekTelling_38 : decode cX0_seekTelling 38 = .ok (.iadd, 1) := by decide +kernel
theorem dX0_seekTelling_39 : decode cX0_seekTelling 39 = .ok (.invokestatic 98, 3) := by decide +kernel
theorem dX0_seekTelling_42 : decode cX0_seekTelling 42 = .ok (.putfield 27, 3) := by decide +kernel
theorem dX0_seekTelling_45 : decode cX0_seekTelling 45 = .ok (.iconst 1, 1) := by decide +kernel
theorem dX0_seekTelling_46 : decode cX0_seekTelling 46 = .ok (.istore_n 1, 1) := by decide +kernel
theorem dX0_seekTelling_47 : decode cX0_seekTelling 47 = .ok (.iload_n 1, 1) := by decide +kernel
theorem dX0_seekTelling_48 : decode cX0_seekTelling 48 = .ok (.iconst 1, 1) := by decide +kernel
theorem dX0_seekTelling_49 : decode cX0_seekTelling 49 = .ok (.aload_n 0, 1) := by decide +kernel
theorem dX0_seekTelling_50 : decode cX0_seekTelling 50 = .ok (.getfield 33, 3) := by decide +kernel
theorem dX0_seekTelling_53 : decode cX0_seekTelling 53 = .ok (.getfield 48, 3) := by decide +kernel
theorem dX0_seekTelling_56 : decode cX0_seekTelling 56 = .ok (.ishl, 1) := by decide +kernel
theorem dX0_seekTelling_57 : decode cX0_seekTelling 57 = .ok (.if_icmp .ge 38, 3) := by decide +kernel
theorem dX0_seekTelling_60 : decode cX0_seekTelling 60 = .ok (.aload_n 0, 1) := by decide +kernel
theorem dX0_seekTelling_61 : decode cX0_seekTelling 61 = .ok (.iload_n 1, 1) := by decide +kernel
theorem dX0_seekTelling_62 : decode cX0_seekTelling 62 = .ok (.invokevirtual 108, 3) := by decide +kernel
theorem dX0_seekTelling_65 : decode cX0_seekTelling 65 = .ok (.istore_n 2, 1) := by decide +kernel
theorem dX0_seekTelling_66 : decode cX0_seekTelling 66 = .ok (.iload_n 1, 1) := by decide +kernel
theorem dX0_seekTelling_67 : decode cX0_seekTelling 67 = .ok (.iconst 1, 1) := by decide +kernel
theorem dX0_seekTelling_68 : decode cX0_seekTelling 68 = .ok (.if_icmp .eq 11, 3) := by decide +kernel
theorem dX0_seekTelling_71 : decode cX0_seekTelling 71 = .ok (.iload_n 2, 1) := by decide +kernel
theorem dX0_seekTelling_72 : decode cX0_seekTelling 72 = .ok (.aload_n 0, 1) := by decide +kernel
theorem dX0_seekTelling_73 : decode cX0_seekTelling 73 = .ok (.getfield 105, 3) := by decide +kernel
theorem dX0_seekTelling_76 : decode cX0_seekTelling 76 = .ok (.if_icmp .ge 13, 3) := by decide +kernel
theorem dX0_seekTelling_79 : decode cX0_seekTelling 79 = .ok (.aload_n 0, 1) := by decide +kernel
theorem dX0_seekTelling_80 : decode cX0_seekTelling 80 = .ok (.iload_n 1, 1) := by decide +kernel
theorem dX0_seekTelling_81 : decode cX0_seekTelling 81 = .ok (.putfield 102, 3) := by decide +kernel
theorem dX0_seekTelling_84 : decode cX0_seekTelling 84 = .ok (.aload_n 0, 1) := by decide +kernel
theorem dX0_seekTelling_85 : decode cX0_seekTelling 85 = .ok (.iload_n 2, 1) := by decide +kernel
theorem dX0_seekTelling_86 : decode cX0_seekTelling 86 = .ok (.putfield 105, 3) := by decide +kernel
theorem dX0_seekTelling_89 : decode cX0_seekTelling 89 = .ok (.iinc 1 1, 3) := by decide +kernel
theorem dX0_seekTelling_92 : decode cX0_seekTelling 92 = .ok (.goto (-45), 3) := by decide +kernel
theorem dX0_seekTelling_95 : decode cX0_seekTelling 95 = .ok (.return_, 1) := by decide +kernel
theorem dX0_stepOn_0 : decode cX0_stepOn 0 = .ok (.iconst 0, 1) := by decide +kernel
theorem dX0_stepOn_1 : decode cX0_stepOn 1 = .ok (.istore_n 2, 1) := by decide +kernel
theorem dX0_stepOn_2 : decode cX0_stepOn 2 = .ok (.iload_n 2, 1) := by decide +kernel
theorem dX0_stepOn_3 : decode cX0_stepOn 3 = .ok (.iconst 5, 1) := by decide +kernel
theorem dX0_stepOn_4 : decode cX0_stepOn 4 = .ok (.if_icmp .ge 26, 3) := by decide +kernel
theorem dX0_stepOn_7 : decode cX0_stepOn 7 = .ok (.aload_n 0, 1) := by decide +kernel
theorem dX0_stepOn_8 : decode cX0_stepOn 8 = .ok (.getfield 9, 3) := by decide +kernel
theorem dX0_stepOn_11 : decode cX0_stepOn 11 = .ok (.iload_n 2, 1) := by decide +kernel
theorem dX0_stepOn_12 : decode cX0_stepOn 12 = .ok (.iaload, 1) := by decide +kernel
theorem dX0_stepOn_13 : decode cX0_stepOn 13 = .ok (.iload_n 1, 1) := by decide +kernel
theorem dX0_stepOn_14 : decode cX0_stepOn 14 = .ok (.if_icmp .lt 16, 3) := by decide +kernel
theorem dX0_stepOn_17 : decode cX0_stepOn 17 = .ok (.aload_n 0, 1) := by decide +kernel
theorem dX0_stepOn_18 : decode cX0_stepOn 18 = .ok (.getfield 9, 3) := by decide +kernel
theorem dX0_stepOn_21 : decode cX0_stepOn 21 = .ok (.iload_n 2, 1) := by decide +kernel
theorem dX0_stepOn_22 : decode cX0_stepOn 22 = .ok (.iconst 1, 1) := by decide +kernel
theorem dX0_stepOn_23 : decode cX0_stepOn 23 = .ok (.iastore, 1) := by decide +kernel
theorem dX0_stepOn_24 : decode cX0_stepOn 24 = .ok (.iinc 2 1, 3) := by decide +kernel
theorem dX0_stepOn_27 : decode cX0_stepOn 27 = .ok (.goto (-25), 3) := by decide +kernel
theorem dX0_stepOn_30 : decode cX0_stepOn 30 = .ok (.aload_n 0, 1) := by decide +kernel
theorem dX0_stepOn_31 : decode cX0_stepOn 31 = .ok (.getfield 9, 3) := by decide +kernel
theorem dX0_stepOn_34 : decode cX0_stepOn 34 = .ok (.iload_n 2, 1) := by decide +kernel
theorem dX0_stepOn_35 : decode cX0_stepOn 35 = .ok (.dup2, 1) := by decide +kernel
theorem dX0_stepOn_36 : decode cX0_stepOn 36 = .ok (.iaload, 1) := by decide +kernel
theorem dX0_stepOn_37 : decode cX0_stepOn 37 = .ok (.iconst 1, 1) := by decide +kernel
theorem dX0_stepOn_38 : decode cX0_stepOn 38 = .ok (.iadd, 1) := by decide +kernel
theorem dX0_stepOn_39 : decode cX0_stepOn 39 = .ok (.iastore, 1) := by decide +kernel
theorem dX0_stepOn_40 : decode cX0_stepOn 40 = .ok (.return_, 1) := by decide +kernel
theorem dX0_sumOfEnds_0 : decode cX0_sumOfEnds 0 = .ok (.iconst 0, 1) := by decide +kernel
theorem dX0_sumOfEnds_1 : decode cX0_sumOfEnds 1 = .ok (.istore_n 3, 1) := by decide +kernel
theorem dX0_sumOfEnds_2 : decode cX0_sumOfEnds 2 = .ok (.iload_n 1, 1) := by decide +kernel
theorem dX0_sumOfEnds_3 : decode cX0_sumOfEnds 3 = .ok (.iconst 5, 1) := by decide +kernel
theorem dX0_sumOfEnds_4 : decode cX0_sumOfEnds 4 = .ok (.imul, 1) := by decide +kernel
theorem dX0_sumOfEnds_5 : decode cX0_sumOfEnds 5 = .ok (.istore 4, 2) := by decide +kernel
theorem dX0_sumOfEnds_7 : decode cX0_sumOfEnds 7 = .ok (.iconst 0, 1) := by decide +kernel
theorem dX0_sumOfEnds_8 : decode cX0_sumOfEnds 8 = .ok (.istore 5, 2) := by decide +kernel
theorem dX0_sumOfEnds_10 : decode cX0_sumOfEnds 10 = .ok (.iload 5, 2) := by decide +kernel
theorem dX0_sumOfEnds_12 : decode cX0_sumOfEnds 12 = .ok (.iconst 5, 1) := by decide +kernel
theorem dX0_sumOfEnds_13 : decode cX0_sumOfEnds 13 = .ok (.if_icmp .ge 32, 3) := by decide +kernel
theorem dX0_sumOfEnds_16 : decode cX0_sumOfEnds 16 = .ok (.iload_n 2, 1) := by decide +kernel
theorem dX0_sumOfEnds_17 : decode cX0_sumOfEnds 17 = .ok (.iload 5, 2) := by decide +kernel
theorem dX0_sumOfEnds_19 : decode cX0_sumOfEnds 19 = .ok (.ishr, 1) := by decide +kernel
theorem dX0_sumOfEnds_20 : decode cX0_sumOfEnds 20 = .ok (.iconst 1, 1) := by decide +kernel
theorem dX0_sumOfEnds_21 : decode cX0_sumOfEnds 21 = .ok (.iand, 1) := by decide +kernel
theorem dX0_sumOfEnds_22 : decode cX0_sumOfEnds 22 = .ok (.iconst 1, 1) := by decide +kernel
theorem dX0_sumOfEnds_23 : decode cX0_sumOfEnds 23 = .ok (.if_icmp .ne 16, 3) := by decide +kernel
theorem dX0_sumOfEnds_26 : decode cX0_sumOfEnds 26 = .ok (.iload_n 3, 1) := by decide +kernel
theorem dX0_sumOfEnds_27 : decode cX0_sumOfEnds 27 = .ok (.aload_n 0, 1) := by decide +kernel
theorem dX0_sumOfEnds_28 : decode cX0_sumOfEnds 28 = .ok (.getfield 24, 3) := by decide +kernel
theorem dX0_sumOfEnds_31 : decode cX0_sumOfEnds 31 = .ok (.iload 4, 2) := by decide +kernel
theorem dX0_sumOfEnds_33 : decode cX0_sumOfEnds 33 = .ok (.iload 5, 2) := by decide +kernel
theorem dX0_sumOfEnds_35 : decode cX0_sumOfEnds 35 = .ok (.iadd, 1) := by decide +kernel
theorem dX0_sumOfEnds_36 : decode cX0_sumOfEnds 36 = .ok (.iaload, 1) := by decide +kernel
theorem dX0_sumOfEnds_37 : decode cX0_sumOfEnds 37 = .ok (.iadd, 1) := by decide +kernel
theorem dX0_sumOfEnds_38 : decode cX0_sumOfEnds 38 = .ok (.istore_n 3, 1) := by decide +kernel
theorem dX0_sumOfEnds_39 : decode cX0_sumOfEnds 39 = .ok (.iinc 5 1, 3) := by decide +kernel
theorem dX0_sumOfEnds_42 : decode cX0_sumOfEnds 42 = .ok (.goto (-32), 3) := by decide +kernel
theorem dX0_sumOfEnds_45 : decode cX0_sumOfEnds 45 = .ok (.iload_n 3, 1) := by decide +kernel
theorem dX0_sumOfEnds_46 : decode cX0_sumOfEnds 46 = .ok (.ireturn, 1) := by decide +kernel
theorem dX10_begin_0 : decode cX10_begin 0 = .ok (.aload_n 0, 1) := by decide +kernel
theorem dX10_begin_1 : decode cX10_begin 1 = .ok (.aload_n 1, 1) := by decide +kernel
theorem dX10_begin_2 : decode cX10_begin 2 = .ok (.putfield 9, 3) := by decide +kernel
theorem dX10_begin_5 : decode cX10_begin 5 = .ok (.aload_n 0, 1) := by decide +kernel
theorem dX10_begin_6 : decode cX10_begin 6 = .ok (.aload_n 1, 1) := by decide +kernel
theorem dX10_begin_7 : decode cX10_begin 7 = .ok (.ifnonnull 7, 3) := by decide +kernel
theorem dX10_begin_10 : decode cX10_begin 10 = .ok (.iconst 0, 1) := by decide +kernel
theorem dX10_begin_11 : decode cX10_begin 11 = .ok (.goto 9, 3) := by decide +kernel
theorem dX10_begin_14 : decode cX10_begin 14 = .ok (.iload_n 2, 1) := by decide +kernel
theorem dX10_begin_15 : decode cX10_begin 15 = .ok (.aload_n 1, 1) := by decide +kernel
theorem dX10_begin_16 : decode cX10_begin 16 = .ok (.arraylength, 1) := by decide +kernel
theorem dX10_begin_17 : decode cX10_begin 17 = .ok (.invokestatic 15, 3) := by decide +kernel
theorem dX10_begin_20 : decode cX10_begin 20 = .ok (.putfield 21, 3) := by decide +kernel
theorem dX10_begin_23 : decode cX10_begin 23 = .ok (.aload_n 0, 1) := by decide +kernel
theorem dX10_begin_24 : decode cX10_begin 24 = .ok (.iconst 0, 1) := by decide +kernel
theorem dX10_begin_25 : decode cX10_begin 25 = .ok (.putfield 25, 3) := by decide +kernel
theorem dX10_begin_28 : decode cX10_begin 28 = .ok (.aload_n 0, 1) := by decide +kernel
theorem dX10_begin_29 : decode cX10_begin 29 = .ok (.iconst 0, 1) := by decide +kernel
theorem dX10_begin_30 : decode cX10_begin 30 = .ok (.putfield 28, 3) := by decide +kernel
theorem dX10_begin_33 : decode cX10_begin 33 = .ok (.return_, 1) := by decide +kernel
theorem dX10_fail_0 : decode cX10_fail 0 = .ok (.aload_n 0, 1) := by decide +kernel
theorem dX10_fail_1 : decode cX10_fail 1 = .ok (.getfield 28, 3) := by decide +kernel
theorem dX10_fail_4 : decode cX10_fail 4 = .ok (.ifCond .ne 15, 3) := by decide +kernel
theorem dX10_fail_7 : decode cX10_fail 7 = .ok (.aload_n 0, 1) := by decide +kernel
theorem dX10_fail_8 : decode cX10_fail 8 = .ok (.iconst 1, 1) := by decide +kernel
theorem dX10_fail_9 : decode cX10_fail 9 = .ok (.bipush 8, 2) := by decide +kernel
theorem dX10_fail_11 : decode cX10_fail 11 = .ok (.iload_n 1, 1) := by decide +kernel
theorem dX10_fail_12 : decode cX10_fail 12 = .ok (.imul, 1) := by decide +kernel
theorem dX10_fail_13 : decode cX10_fail 13 = .ok (.iadd, 1) := by decide +kernel
theorem dX10_fail_14 : decode cX10_fail 14 = .ok (.iload_n 2, 1) := by decide +kernel
theorem dX10_fail_15 : decode cX10_fail 15 = .ok (.iadd, 1) := by decide +kernel
theorem dX10_fail_16 : decode cX10_fail 16 = .ok (.putfield 28, 3) := by decide +kernel
theorem dX10_fail_19 : decode cX10_fail 19 = .ok (.return_, 1) := by decide +kernel
theorem dX10_goesOn_0 : decode cX10_goesOn 0 = .ok (.aload_n 0, 1) := by decide +kernel
theorem dX10_goesOn_1 : decode cX10_goesOn 1 = .ok (.invokevirtual 54, 3) := by decide +kernel
theorem dX10_goesOn_4 : decode cX10_goesOn 4 = .ok (.istore_n 1, 1) := by decide +kernel
theorem dX10_goesOn_5 : decode cX10_goesOn 5 = .ok (.aload_n 0, 1) := by decide +kernel
theorem dX10_goesOn_6 : decode cX10_goesOn 6 = .ok (.getfield 28, 3) := by decide +kernel
theorem dX10_goesOn_9 : decode cX10_goesOn 9 = .ok (.ifCond .ne 14, 3) := by decide +kernel
theorem dX10_goesOn_12 : decode cX10_goesOn 12 = .ok (.aload_n 0, 1) := by decide +kernel
theorem dX10_goesOn_13 : decode cX10_goesOn 13 = .ok (.getfield 25, 3) := by decide +kernel
theorem dX10_goesOn_16 : decode cX10_goesOn 16 = .ok (.aload_n 0, 1) := by decide +kernel
theorem dX10_goesOn_17 : decode cX10_goesOn 17 = .ok (.getfield 21, 3) := by decide +kernel
theorem dX10_goesOn_20 : decode cX10_goesOn 20 = .ok (.if_icmp .lt 5, 3) := by decide +kernel
theorem dX10_goesOn_23 : decode cX10_goesOn 23 = .ok (.iconst 0, 1) := by decide +kernel
theorem dX10_goesOn_24 : decode cX10_goesOn 24 = .ok (.ireturn, 1) := by decide +kernel
theorem dX10_goesOn_25 : decode cX10_goesOn 25 = .ok (.iload_n 1, 1) := by decide +kernel
theorem dX10_goesOn_26 : decode cX10_goesOn 26 = .ok (.bipush 59, 2) := by decide +kernel
theorem dX10_goesOn_28 : decode cX10_goesOn 28 = .ok (.if_icmp .eq 14, 3) := by decide +kernel
theorem dX10_goesOn_31 : decode cX10_goesOn 31 = .ok (.aload_n 0, 1) := by decide +kernel
theorem dX10_goesOn_32 : decode cX10_goesOn 32 = .ok (.aload_n 0, 1) := by decide +kernel
theorem dX10_goesOn_33 : decode cX10_goesOn 33 = .ok (.getfield 25, 3) := by decide +kernel
theorem dX10_goesOn_36 : decode cX10_goesOn 36 = .ok (.iconst 0, 1) := by decide +kernel
theorem dX10_goesOn_37 : decode cX10_goesOn 37 = .ok (.invokevirtual 50, 3) := by decide +kernel
theorem dX10_goesOn_40 : decode cX10_goesOn 40 = .ok (.iconst 0, 1) := by decide +kernel
theorem dX10_goesOn_41 : decode cX10_goesOn 41 = .ok (.ireturn, 1) := by decide +kernel
theorem dX10_goesOn_42 : decode cX10_goesOn 42 = .ok (.aload_n 0, 1) := by decide +kernel
theorem dX10_goesOn_43 : decode cX10_goesOn 43 = .ok (.dup, 1) := by decide +kernel
theorem dX10_goesOn_44 : decode cX10_goesOn 44 = .ok (.getfield 25, 3) := by decide +kernel
theorem dX10_goesOn_47 : decode cX10_goesOn 47 = .ok (.iconst 1, 1) := by decide +kernel
theorem dX10_goesOn_48 : decode cX10_goesOn 48 = .ok (.iadd, 1) := by decide +kernel
theorem dX10_goesOn_49 : decode cX10_goesOn 49 = .ok (.putfield 25, 3) := by decide +kernel
theorem dX10_goesOn_52 : decode cX10_goesOn 52 = .ok (.iconst 1, 1) := by decide +kernel
theorem dX10_goesOn_53 : decode cX10_goesOn 53 = .ok (.ireturn, 1) := by decide +kernel
theorem dX10_here_0 : decode cX10_here 0 = .ok (.aload_n 0, 1) := by decide +kernel
theorem dX10_here_1 : decode cX10_here 1 = .ok (.getfield 25, 3) := by decide +kernel
theorem dX10_here_4 : decode cX10_here 4 = .ok (.ifCond .lt 26, 3) := by decide +kernel
theorem dX10_here_7 : decode cX10_here 7 = .ok (.aload_n 0, 1) := by decide +kernel
theorem dX10_here_8 : decode cX10_here 8 = .ok (.getfield 25, 3) := by decide +kernel
theorem dX10_here_11 : decode cX10_here 11 = .ok (.aload_n 0, 1) := by decide +kernel
theorem dX10_here_12 : decode cX10_here 12 = .ok (.getfield 21, 3) := by decide +kernel
theorem dX10_here_15 : decode cX10_here 15 = .ok (.if_icmp .ge 15, 3) := by decide +kernel
theorem dX10_here_18 : decode cX10_here 18 = .ok (.aload_n 0, 1) := by decide +kernel
theorem dX10_here_19 : decode cX10_here 19 = .ok (.getfield 9, 3) := by decide +kernel
theorem dX10_here_22 : decode cX10_here 22 = .ok (.aload_n 0, 1) := by decide +kernel
theorem dX10_here_23 : decode cX10_here 23 = .ok (.getfield 25, 3) := by decide +kernel
theorem dX10_here_26 : decode cX10_here 26 = .ok (.baload, 1) := by decide +kernel
theorem dX10_here_27 : decode cX10_here 27 = .ok (.goto 4, 3) := by decide +kernel
theorem dX10_here_30 : decode cX10_here 30 = .ok (.iconst (-1), 1) := by decide +kernel
theorem dX10_here_31 : decode cX10_here 31 = .ok (.ireturn, 1) := by decide +kernel
theorem dX10_hereBehindBlanks_0 : decode cX10_hereBehindBlanks 0 = .ok (.aload_n 0, 1) := by decide +kernel
theorem dX10_hereBehindBlanks_1 : decode cX10_hereBehindBlanks 1 = .ok (.getfield 25, 3) := by decide +kernel
theorem dX10_hereBehindBlanks_4 : decode cX10_hereBehindBlanks 4 = .ok (.aload_n 0, 1) := by decide +kernel
theorem dX10_hereBehindBlanks_5 : decode cX10_hereBehindBlanks 5 = .ok (.getfield 21, 3) := by decide +kernel
theorem dX10_hereBehindBlanks_8 : decode cX10_hereBehindBlanks 8 = .ok (.if_icmp .ge 30, 3) := by decide +kernel
theorem dX10_hereBehindBlanks_11 : decode cX10_hereBehindBlanks 11 = .ok (.aload_n 0, 1) := by decide +kernel
theorem dX10_hereBehindBlanks_12 : decode cX10_hereBehindBlanks 12 = .ok (.getfield 9, 3) := by decide +kernel
theorem dX10_hereBehindBlanks_15 : decode cX10_hereBehindBlanks 15 = .ok (.aload_n 0, 1) := by decide +kernel
theorem dX10_hereBehindBlanks_16 : decode cX10_hereBehindBlanks 16 = .ok (.getfield 25, 3) := by decide +kernel
theorem dX10_hereBehindBlanks_19 : decode cX10_hereBehindBlanks 19 = .ok (.baload, 1) := by decide +kernel
theorem dX10_hereBehindBlanks_20 : decode cX10_hereBehindBlanks 20 = .ok (.bipush 32, 2) := by decide +kernel
theorem dX10_hereBehindBlanks_22 : decode cX10_hereBehindBlanks 22 = .ok (.if_icmp .ne 16, 3) := by decide +kernel
theorem dX10_hereBehindBlanks_25 : decode cX10_hereBehindBlanks 25 = .ok (.aload_n 0, 1) := by decide +kernel
theorem dX10_hereBehindBlanks_26 : decode cX10_hereBehindBlanks 26 = .ok (.dup, 1) := by decide +kernel
theorem dX10_hereBehindBlanks_27 : decode cX10_hereBehindBlanks 27 = .ok (.getfield 25, 3) := by decide +kernel
theorem dX10_hereBehindBlanks_30 : decode cX10_hereBehindBlanks 30 = .ok (.iconst 1, 1) := by decide +kernel
theorem dX10_hereBehindBlanks_31 : decode cX10_hereBehindBlanks 31 = .ok (.iadd, 1) := by decide +kernel
theorem dX10_hereBehindBlanks_32 : decode cX10_hereBehindBlanks 32 = .ok (.putfield 25, 3) := by decide +kernel
theorem dX10_hereBehindBlanks_35 : decode cX10_hereBehindBlanks 35 = .ok (.goto (-35), 3) := by decide +kernel
theorem dX10_hereBehindBlanks_38 : decode cX10_hereBehindBlanks 38 = .ok (.aload_n 0, 1) := by decide +kernel
theorem dX10_hereBehindBlanks_39 : decode cX10_hereBehindBlanks 39 = .ok (.invokevirtual 31, 3) := by decide +kernel
theorem dX10_hereBehindBlanks_42 : decode cX10_hereBehindBlanks 42 = .ok (.ireturn, 1) := by decide +kernel
theorem dX10_init_0 : decode cX10_init 0 = .ok (.aload_n 0, 1) := by decide +kernel
theorem dX10_init_1 : decode cX10_init 1 = .ok (.invokespecial 3, 3) := by decide +kernel
theorem dX10_init_4 : decode cX10_init 4 = .ok (.return_, 1) := by decide +kernel
theorem dX10_isDigitHere_0 : decode cX10_isDigitHere 0 = .ok (.aload_n 0, 1) := by decide +kernel
theorem dX10_isDigitHere_1 : decode cX10_isDigitHere 1 = .ok (.getfield 25, 3) := by decide +kernel
theorem dX10_isDigitHere_4 : decode cX10_isDigitHere 4 = .ok (.aload_n 0, 1) := by decide +kernel
theorem dX10_isDigitHere_5 : decode cX10_isDigitHere 5 = .ok (.getfield 21, 3) := by decide +kernel
theorem dX10_isDigitHere_8 : decode cX10_isDigitHere 8 = .ok (.if_icmp .ge 35, 3) := by decide +kernel
theorem dX10_isDigitHere_11 : decode cX10_isDigitHere 11 = .ok (.aload_n 0, 1) := by decide +kernel
theorem dX10_isDigitHere_12 : decode cX10_isDigitHere 12 = .ok (.getfield 9, 3) := by decide +kernel
theorem dX10_isDigitHere_15 : decode cX10_isDigitHere 15 = .ok (.aload_n 0, 1) := by decide +kernel
theorem dX10_isDigitHere_16 : decode cX10_isDigitHere 16 = .ok (.getfield 25, 3) := by decide +kernel
theorem dX10_isDigitHere_19 : decode cX10_isDigitHere 19 = .ok (.baload, 1) := by decide +kernel
theorem dX10_isDigitHere_20 : decode cX10_isDigitHere 20 = .ok (.bipush 48, 2) := by decide +kernel
theorem dX10_isDigitHere_22 : decode cX10_isDigitHere 22 = .ok (.if_icmp .lt 21, 3) := by decide +kernel
theorem dX10_isDigitHere_25 : decode cX10_isDigitHere 25 = .ok (.aload_n 0, 1) := by decide +kernel
theorem dX10_isDigitHere_26 : decode cX10_isDigitHere 26 = .ok (.getfield 9, 3) := by decide +kernel
theorem dX10_isDigitHere_29 : decode cX10_isDigitHere 29 = .ok (.aload_n 0, 1) := by decide +kernel
theorem dX10_isDigitHere_30 : decode cX10_isDigitHere 30 = .ok (.getfield 25, 3) := by decide +kernel
theorem dX10_isDigitHere_33 : decode cX10_isDigitHere 33 = .ok (.baload, 1) := by decide +kernel
theorem dX10_isDigitHere_34 : decode cX10_isDigitHere 34 = .ok (.bipush 57, 2) := by decide +kernel
theorem dX10_isDigitHere_36 : decode cX10_isDigitHere 36 = .ok (.if_icmp .gt 7, 3) := by decide +kernel
theorem dX10_isDigitHere_39 : decode cX10_isDigitHere 39 = .ok (.iconst 1, 1) := by decide +kernel
theorem dX10_isDigitHere_40 : decode cX10_isDigitHere 40 = .ok (.goto 4, 3) := by decide +kernel
theorem dX10_isDigitHere_43 : decode cX10_isDigitHere 43 = .ok (.iconst 0, 1) := by decide +kernel
theorem dX10_isDigitHere_44 : decode cX10_isDigitHere 44 = .ok (.ireturn, 1) := by decide +kernel
theorem dX10_number_0 : decode cX10_number 0 = .ok (.aload_n 0, 1) := by decide +kernel
theorem dX10_number_1 : decode cX10_number 1 = .ok (.getfield 25, 3) := by decide +kernel
theorem dX10_number_4 : decode cX10_number 4 = .ok (.istore_n 3, 1) := by decide +kernel
theorem dX10_number_5 : decode cX10_number 5 = .ok (.iconst 0, 1) := by decide +kernel
theorem dX10_number_6 : decode cX10_number 6 = .ok (.istore 4, 2) := by decide +kernel
theorem dX10_number_8 : decode cX10_number 8 = .ok (.aload_n 0, 1) := by decide +kernel
theorem dX10_number_9 : decode cX10_number 9 = .ok (.getfield 25, 3) := by decide +kernel
theorem dX10_number_12 : decode cX10_number 12 = .ok (.aload_n 0, 1) := by decide +kernel
theorem dX10_number_13 : decode cX10_number 13 = .ok (.getfield 21, 3) := by decide +kernel
theorem dX10_number_16 : decode cX10_number 16 = .ok (.if_icmp .ge 53, 3) := by decide +kernel
theorem dX10_number_19 : decode cX10_number 19 = .ok (.aload_n 0, 1) := by decide +kernel
theorem dX10_number_20 : decode cX10_number 20 = .ok (.invokevirtual 46, 3) := by decide +kernel
theorem dX10_number_23 : decode cX10_number 23 = .ok (.ifCond .eq 46, 3) := by decide +kernel
theorem dX10_number_26 : decode cX10_number 26 = .ok (.aload_n 0, 1) := by decide +kernel
theorem dX10_number_27 : decode cX10_number 27 = .ok (.getfield 25, 3) := by decide +kernel
theorem dX10_number_30 : decode cX10_number 30 = .ok (.iload_n 3, 1) := by decide +kernel
theorem dX10_number_31 : decode cX10_number 31 = .ok (.isub, 1) := by decide +kernel
theorem dX10_number_32 : decode cX10_number 32 = .ok (.iconst 5, 1) := by decide +kernel
theorem dX10_number_33 : decode cX10_number 33 = .ok (.if_icmp .ge 23, 3) := by decide +kernel
theorem dX10_number_36 : decode cX10_number 36 = .ok (.iload 4, 2) := by decide +kernel
theorem dX10_number_38 : decode cX10_number 38 = .ok (.bipush 10, 2) := by decide +kernel
theorem dX10_number_40 : decode cX10_number 40 = .ok (.imul, 1) := by decide +kernel
theorem dX10_number_41 : decode cX10_number 41 = .ok (.aload_n 0, 1) := by decide +kernel
theorem dX10_number_42 : decode cX10_number 42 = .ok (.getfield 9, 3) := by decide +kernel
theorem dX10_number_45 : decode cX10_number 45 = .ok (.aload_n 0, 1) := by decide +kernel
theorem dX10_number_46 : decode cX10_number 46 = .ok (.getfield 25, 3) := by decide +kernel
theorem dX10_number_49 : decode cX10_number 49 = .ok (.baload, 1) := by decide +kernel
theorem dX10_number_50 : decode cX10_number 50 = .ok (.iadd, 1) := by decide +kernel
theorem dX10_number_51 : decode cX10_number 51 = .ok (.bipush 48, 2) := by decide +kernel
theorem dX10_number_53 : decode cX10_number 53 = .ok (.isub, 1) := by decide +kernel
theorem dX10_number_54 : decode cX10_number 54 = .ok (.istore 4, 2) := by decide +kernel
theorem dX10_number_56 : decode cX10_number 56 = .ok (.aload_n 0, 1) := by decide +kernel
theorem dX10_number_57 : decode cX10_number 57 = .ok (.dup, 1) := by decide +kernel
theorem dX10_number_58 : decode cX10_number 58 = .ok (.getfield 25, 3) := by decide +kernel
theorem dX10_number_61 : decode cX10_number 61 = .ok (.iconst 1, 1) := by decide +kernel
theorem dX10_number_62 : decode cX10_number 62 = .ok (.iadd, 1) := by decide +kernel
theorem dX10_number_63 : decode cX10_number 63 = .ok (.putfield 25, 3) := by decide +kernel
theorem dX10_number_66 : decode cX10_number 66 = .ok (.goto (-58), 3) := by decide +kernel
theorem dX10_number_69 : decode cX10_number 69 = .ok (.aload_n 0, 1) := by decide +kernel
theorem dX10_number_70 : decode cX10_number 70 = .ok (.getfield 25, 3) := by decide +kernel
theorem dX10_number_73 : decode cX10_number 73 = .ok (.iload_n 3, 1) := by decide +kernel
theorem dX10_number_74 : decode cX10_number 74 = .ok (.if_icmp .ne 12, 3) := by decide +kernel
theorem dX10_number_77 : decode cX10_number 77 = .ok (.aload_n 0, 1) := by decide +kernel
theorem dX10_number_78 : decode cX10_number 78 = .ok (.iload_n 3, 1) := by decide +kernel
theorem dX10_number_79 : decode cX10_number 79 = .ok (.iconst 0, 1) := by decide +kernel
theorem dX10_number_80 : decode cX10_number 80 = .ok (.invokevirtual 50, 3) := by decide +kernel
theorem dX10_number_83 : decode cX10_number 83 = .ok (.goto 31, 3) := by decide +kernel
theorem dX10_number_86 : decode cX10_number 86 = .ok (.aload_n 0, 1) := by decide +kernel
theorem dX10_number_87 : decode cX10_number 87 = .ok (.getfield 25, 3) := by decide +kernel
theorem dX10_number_90 : decode cX10_number 90 = .ok (.iload_n 3, 1) := by decide +kernel
theorem dX10_number_91 : decode cX10_number 91 = .ok (.isub, 1) := by decide +kernel
theorem dX10_number_92 : decode cX10_number 92 = .ok (.iconst 5, 1) := by decide +kernel
theorem dX10_number_93 : decode cX10_number 93 = .ok (.if_icmp .gt 15, 3) := by decide +kernel
theorem dX10_number_96 : decode cX10_number 96 = .ok (.iload 4, 2) := by decide +kernel
theorem dX10_number_98 : decode cX10_number 98 = .ok (.iload_n 1, 1) := by decide +kernel
theorem dX10_number_99 : decode cX10_number 99 = .ok (.if_icmp .lt 9, 3) := by decide +kernel
theorem dX10_number_102 : decode cX10_number 102 = .ok (.iload 4, 2) := by decide +kernel
theorem dX10_number_104 : decode cX10_number 104 = .ok (.iload_n 2, 1) := by decide +kernel
theorem dX10_number_105 : decode cX10_number 105 = .ok (.if_icmp .le 9, 3) := by decide +kernel
theorem dX10_number_108 : decode cX10_number 108 = .ok (.aload_n 0, 1) := by decide +kernel
theorem dX10_number_109 : decode cX10_number 109 = .ok (.iload_n 3, 1) := by decide +kernel
theorem dX10_number_110 : decode cX10_number 110 = .ok (.iconst 1, 1) := by decide +kernel
theorem dX10_number_111 : decode cX10_number 111 = .ok (.invokevirtual 50, 3) := by decide +kernel
theorem dX10_number_114 : decode cX10_number 114 = .ok (.iload 4, 2) := by decide +kernel
theorem dX10_number_116 : decode cX10_number 116 = .ok (.ireturn, 1) := by decide +kernel
theorem dX10_passWord_0 : decode cX10_passWord 0 = .ok (.aload_n 0, 1) := by decide +kernel
theorem dX10_passWord_1 : decode cX10_passWord 1 = .ok (.aload_n 0, 1) := by decide +kernel
theorem dX10_passWord_2 : decode cX10_passWord 2 = .ok (.getfield 35, 3) := by decide +kernel
theorem dX10_passWord_5 : decode cX10_passWord 5 = .ok (.putfield 25, 3) := by decide +kernel
theorem dX10_passWord_8 : decode cX10_passWord 8 = .ok (.return_, 1) := by decide +kernel
theorem dX10_whichWord_0 : decode cX10_whichWord 0 = .ok (.aload_n 0, 1) := by decide +kernel
theorem dX10_whichWord_1 : decode cX10_whichWord 1 = .ok (.getfield 25, 3) := by decide +kernel
theorem dX10_whichWord_4 : decode cX10_whichWord 4 = .ok (.istore_n 2, 1) := by decide +kernel
theorem dX10_whichWord_5 : decode cX10_whichWord 5 = .ok (.iload_n 2, 1) := by decide +kernel
theorem dX10_whichWord_6 : decode cX10_whichWord 6 = .ok (.aload_n 0, 1) := by decide +kernel
theorem dX10_whichWord_7 : decode cX10_whichWord 7 = .ok (.getfield 21, 3) := by decide +kernel
theorem dX10_whichWord_10 : decode cX10_whichWord 10 = .ok (.if_icmp .ge 31, 3) := by decide +kernel
theorem dX10_whichWord_13 : decode cX10_whichWord 13 = .ok (.aload_n 0, 1) := by decide +kernel
theorem dX10_whichWord_14 : decode cX10_whichWord 14 = .ok (.getfield 9, 3) := by decide +kernel
theorem dX10_whichWord_17 : decode cX10_whichWord 17 = .ok (.iload_n 2, 1) := by decide +kernel
theorem dX10_whichWord_18 : decode cX10_whichWord 18 = .ok (.baload, 1) := by decide +kernel
theorem dX10_whichWord_19 : decode cX10_whichWord 19 = .ok (.bipush 97, 2) := by decide +kernel
theorem dX10_whichWord_21 : decode cX10_whichWord 21 = .ok (.if_icmp .lt 20, 3) := by decide +kernel
theorem dX10_whichWord_24 : decode cX10_whichWord 24 = .ok (.aload_n 0, 1) := by decide +kernel
theorem dX10_whichWord_25 : decode cX10_whichWord 25 = .ok (.getfield 9, 3) := by decide +kernel
theorem dX10_whichWord_28 : decode cX10_whichWord 28 = .ok (.iload_n 2, 1) := by decide +kernel
theorem dX10_whichWord_29 : decode cX10_whichWord 29 = .ok (.baload, 1) := by decide +kernel
theorem dX10_whichWord_30 : decode cX10_whichWord 30 = .ok (.bipush 122, 2) := by decide +kernel
theorem dX10_whichWord_32 : decode cX10_whichWord 32 = .ok (.if_icmp .gt 9, 3) := by decide +kernel
theorem dX10_whichWord_35 : decode cX10_whichWord 35 = .ok (.iinc 2 1, 3) := by decide +kernel
theorem dX10_whichWord_38 : decode cX10_whichWord 38 = .ok (.goto (-33), 3) := by decide +kernel
theorem dX10_whichWord_41 : decode cX10_whichWord 41 = .ok (.aload_n 0, 1) := by decide +kernel
theorem dX10_whichWord_42 : decode cX10_whichWord 42 = .ok (.iload_n 2, 1) := by decide +kernel
theorem dX10_whichWord_43 : decode cX10_whichWord 43 = .ok (.putfield 35, 3) := by decide +kernel
theorem dX10_whichWord_46 : decode cX10_whichWord 46 = .ok (.iconst 0, 1) := by decide +kernel
theorem dX10_whichWord_47 : decode cX10_whichWord 47 = .ok (.istore_n 3, 1) := by decide +kernel
theorem dX10_whichWord_48 : decode cX10_whichWord 48 = .ok (.aload_n 0, 1) := by decide +kernel
theorem dX10_whichWord_49 : decode cX10_whichWord 49 = .ok (.getfield 25, 3) := by decide +kernel
theorem dX10_whichWord_52 : decode cX10_whichWord 52 = .ok (.istore 4, 2) := by decide +kernel
theorem dX10_whichWord_54 : decode cX10_whichWord 54 = .ok (.iconst 0, 1) := by decide +kernel
theorem dX10_whichWord_55 : decode cX10_whichWord 55 = .ok (.istore 5, 2) := by decide +kernel
theorem dX10_whichWord_57 : decode cX10_whichWord 57 = .ok (.iload 5, 2) := by decide +kernel
theorem dX10_whichWord_59 : decode cX10_whichWord 59 = .ok (.aload_n 1, 1) := by decide +kernel
theorem dX10_whichWord_60 : decode cX10_whichWord 60 = .ok (.invokevirtual 38, 3) := by decide +kernel
theorem dX10_whichWord_63 : decode cX10_whichWord 63 = .ok (.if_icmp .ge 81, 3) := by decide +kernel
theorem dX10_whichWord_66 : decode cX10_whichWord 66 = .ok (.aload_n 1, 1) := by decide +kernel
theorem dX10_whichWord_67 : decode cX10_whichWord 67 = .ok (.iload 5, 2) := by decide +kernel
theorem dX10_whichWord_69 : decode cX10_whichWord 69 = .ok (.invokevirtual 42, 3) := by decide +kernel
theorem dX10_whichWord_72 : decode cX10_whichWord 72 = .ok (.istore 6, 2) := by decide +kernel
theorem dX10_whichWord_74 : decode cX10_whichWord 74 = .ok (.iload 6, 2) := by decide +kernel
theorem dX10_whichWord_76 : decode cX10_whichWord 76 = .ok (.bipush 32, 2) := by decide +kernel
theorem dX10_whichWord_78 : decode cX10_whichWord 78 = .ok (.if_icmp .ne 23, 3) := by decide +kernel
theorem dX10_whichWord_81 : decode cX10_whichWord 81 = .ok (.iload 4, 2) := by decide +kernel
theorem dX10_whichWord_83 : decode cX10_whichWord 83 = .ok (.iload_n 2, 1) := by decide +kernel
theorem dX10_whichWord_84 : decode cX10_whichWord 84 = .ok (.if_icmp .ne 5, 3) := by decide +kernel
theorem dX10_whichWord_87 : decode cX10_whichWord 87 = .ok (.iload_n 3, 1) := by decide +kernel
theorem dX10_whichWord_88 : decode cX10_whichWord 88 = .ok (.ireturn, 1) := by decide +kernel
theorem dX10_whichWord_89 : decode cX10_whichWord 89 = .ok (.iinc 3 1, 3) := by decide +kernel
theorem dX10_whichWord_92 : decode cX10_whichWord 92 = .ok (.aload_n 0, 1) := by decide +kernel
theorem dX10_whichWord_93 : decode cX10_whichWord 93 = .ok (.getfield 25, 3) := by decide +kernel
theorem dX10_whichWord_96 : decode cX10_whichWord 96 = .ok (.istore 4, 2) := by decide +kernel
theorem dX10_whichWord_98 : decode cX10_whichWord 98 = .ok (.goto 40, 3) := by decide +kernel
theorem dX10_whichWord_101 : decode cX10_whichWord 101 = .ok (.iload 4, 2) := by decide +kernel
theorem dX10_whichWord_103 : decode cX10_whichWord 103 = .ok (.aload_n 0, 1) := by decide +kernel
theorem dX10_whichWord_104 : decode cX10_whichWord 104 = .ok (.getfield 25, 3) := by decide +kernel
theorem dX10_whichWord_107 : decode cX10_whichWord 107 = .ok (.if_icmp .lt 31, 3) := by decide +kernel
theorem dX10_whichWord_110 : decode cX10_whichWord 110 = .ok (.iload 4, 2) := by decide +kernel
theorem dX10_whichWord_112 : decode cX10_whichWord 112 = .ok (.iload_n 2, 1) := by decide +kernel
theorem dX10_whichWord_113 : decode cX10_whichWord 113 = .ok (.if_icmp .ge 22, 3) := by decide +kernel
theorem dX10_whichWord_116 : decode cX10_whichWord 116 = .ok (.aload_n 0, 1) := by decide +kernel
theorem dX10_whichWord_117 : decode cX10_whichWord 117 = .ok (.getfield 9, 3) := by decide +kernel
theorem dX10_whichWord_120 : decode cX10_whichWord 120 = .ok (.iload 4, 2) := by decide +kernel
theorem dX10_whichWord_122 : decode cX10_whichWord 122 = .ok (.baload, 1) := by decide +kernel
theorem dX10_whichWord_123 : decode cX10_whichWord 123 = .ok (.iload 6, 2) := by decide +kernel
theorem dX10_whichWord_125 : decode cX10_whichWord 125 = .ok (.if_icmp .ne 10, 3) := by decide +kernel
theorem dX10_whichWord_128 : decode cX10_whichWord 128 = .ok (.iload 4, 2) := by decide +kernel
theorem dX10_whichWord_130 : decode cX10_whichWord 130 = .ok (.iconst 1, 1) := by decide +kernel
theorem dX10_whichWord_131 : decode cX10_whichWord 131 = .ok (.iadd, 1) := by decide +kernel
theorem dX10_whichWord_132 : decode cX10_whichWord 132 = .ok (.goto 4, 3) := by decide +kernel
theorem dX10_whichWord_135 : decode cX10_whichWord 135 = .ok (.iconst (-1), 1) := by decide +kernel
theorem dX10_whichWord_136 : decode cX10_whichWord 136 = .ok (.istore 4, 2) := by decide +kernel
theorem dX10_whichWord_138 : decode cX10_whichWord 138 = .ok (.iinc 5 1, 3) := by decide +kernel
theorem dX10_whichWord_141 : decode cX10_whichWord 141 = .ok (.goto (-84), 3) := by decide +kernel
theorem dX10_whichWord_144 : decode cX10_whichWord 144 = .ok (.iconst (-1), 1) := by decide +kernel
theorem dX10_whichWord_145 : decode cX10_whichWord 145 = .ok (.ireturn, 1) := by decide +kernel
theorem dX11_attends_0 : decode cX11_attends 0 = .ok (.aload_n 0, 1) := by decide +kernel
theorem dX11_attends_1 : decode cX11_attends 1 = .ok (.getfield 31, 3) := by decide +kernel
theorem dX11_attends_4 : decode cX11_attends 4 = .ok (.iload_n 1, 1) := by decide +kernel
theorem dX11_attends_5 : decode cX11_attends 5 = .ok (.invokevirtual 132, 3) := by decide +kernel
theorem dX11_attends_8 : decode cX11_attends 8 = .ok (.ifCond .eq 15, 3) := by decide +kernel
theorem dX11_attends_11 : decode cX11_attends 11 = .ok (.aload_n 0, 1) := by decide +kernel
theorem dX11_attends_12 : decode cX11_attends 12 = .ok (.getfield 31, 3) := by decide +kernel
theorem dX11_attends_15 : decode cX11_attends 15 = .ok (.iload_n 1, 1) := by decide +kernel
theorem dX11_attends_16 : decode cX11_attends 16 = .ok (.invokevirtual 162, 3) := by decide +kernel
theorem dX11_attends_19 : decode cX11_attends 19 = .ok (.iload_n 2, 1) := by decide +kernel
theorem dX11_attends_20 : decode cX11_attends 20 = .ok (.if_icmp .ne 9, 3) := by decide +kernel
theorem dX11_attends_23 : decode cX11_attends 23 = .ok (.aload_n 0, 1) := by decide +kernel
theorem dX11_attends_24 : decode cX11_attends 24 = .ok (.iconst 0, 1) := by decide +kernel
theorem dX11_attends_25 : decode cX11_attends 25 = .ok (.invokevirtual 158, 3) := by decide +kernel
theorem dX11_attends_28 : decode cX11_attends 28 = .ok (.ireturn, 1) := by decide +kernel
theorem dX11_attends_29 : decode cX11_attends 29 = .ok (.aload_n 0, 1) := by decide +kernel
theorem dX11_attends_30 : decode cX11_attends 30 = .ok (.getfield 31, 3) := by decide +kernel
theorem dX11_attends_33 : decode cX11_attends 33 = .ok (.dup, 1) := by decide +kernel
theorem dX11_attends_34 : decode cX11_attends 34 = .ok (.getfield 142, 3) := by decide +kernel
theorem dX11_attends_37 : decode cX11_attends 37 = .ok (.iconst 1, 1) := by decide +kernel
theorem dX11_attends_38 : decode cX11_attends 38 = .ok (.iload_n 1, 1) := by decide +kernel
theorem dX11_attends_39 : decode cX11_attends 39 = .ok (.ishl, 1) := by decide +kernel
theorem dX11_attends_40 : decode cX11_attends 40 = .ok (.ixor, 1) := by decide +kernel
theorem dX11_attends_41 : decode cX11_attends 41 = .ok (.putfield 142, 3) := by decide +kernel
theorem dX11_attends_44 : decode cX11_attends 44 = .ok (.aload_n 0, 1) := by decide +kernel
theorem dX11_attends_45 : decode cX11_attends 45 = .ok (.getfield 31, 3) := by decide +kernel
theorem dX11_attends_48 : decode cX11_attends 48 = .ok (.getfield 136, 3) := by decide +kernel
theorem dX11_attends_51 : decode cX11_attends 51 = .ok (.iload_n 1, 1) := by decide +kernel
theorem dX11_attends_52 : decode cX11_attends 52 = .ok (.iconst 1, 1) := by decide +kernel
theorem dX11_attends_53 : decode cX11_attends 53 = .ok (.iastore, 1) := by decide +kernel
theorem dX11_attends_54 : decode cX11_attends 54 = .ok (.aload_n 0, 1) := by decide +kernel
theorem dX11_attends_55 : decode cX11_attends 55 = .ok (.getfield 31, 3) := by decide +kernel
theorem dX11_attends_58 : decode cX11_attends 58 = .ok (.getfield 142, 3) := by decide +kernel
theorem dX11_attends_61 : decode cX11_attends 61 = .ok (.invokestatic 165, 3) := by decide +kernel
theorem dX11_attends_64 : decode cX11_attends 64 = .ok (.ireturn, 1) := by decide +kernel
theorem dX11_back_0 : decode cX11_back 0 = .ok (.iload_n 1, 1) := by decide +kernel
theorem dX11_back_1 : decode cX11_back 1 = .ok (.ifCond .lt 17, 3) := by decide +kernel
theorem dX11_back_4 : decode cX11_back 4 = .ok (.iload_n 1, 1) := by decide +kernel
theorem dX11_back_5 : decode cX11_back 5 = .ok (.iconst 4, 1) := by decide +kernel
theorem dX11_back_6 : decode cX11_back 6 = .ok (.if_icmp .ge 12, 3) := by decide +kernel
theorem dX11_back_9 : decode cX11_back 9 = .ok (.aload_n 0, 1) := by decide +kernel
theorem dX11_back_10 : decode cX11_back 10 = .ok (.getfield 19, 3) := by decide +kernel
theorem dX11_back_13 : decode cX11_back 13 = .ok (.iload_n 1, 1) := by decide +kernel
theorem dX11_back_14 : decode cX11_back 14 = .ok (.aaload, 1) := by decide +kernel
theorem dX11_back_15 : decode cX11_back 15 = .ok (.ifnonnull 9, 3) := by decide +kernel
theorem dX11_back_18 : decode cX11_back 18 = .ok (.aload_n 0, 1) := by decide +kernel
theorem dX11_back_19 : decode cX11_back 19 = .ok (.iconst 0, 1) := by decide +kernel
theorem dX11_back_20 : decode cX11_back 20 = .ok (.invokevirtual 158, 3) := by decide +kernel
theorem dX11_back_23 : decode cX11_back 23 = .ok (.ireturn, 1) := by decide +kernel
theorem dX11_back_24 : decode cX11_back 24 = .ok (.aload_n 0, 1) := by decide +kernel
theorem dX11_back_25 : decode cX11_back 25 = .ok (.getfield 31, 3) := by decide +kernel
theorem dX11_back_28 : decode cX11_back 28 = .ok (.aload_n 0, 1) := by decide +kernel
theorem dX11_back_29 : decode cX11_back 29 = .ok (.getfield 19, 3) := by decide +kernel
theorem dX11_back_32 : decode cX11_back 32 = .ok (.iload_n 1, 1) := by decide +kernel
theorem dX11_back_33 : decode cX11_back 33 = .ok (.aaload, 1) := by decide +kernel
theorem dX11_back_34 : decode cX11_back 34 = .ok (.invokevirtual 112, 3) := by decide +kernel
theorem dX11_back_37 : decode cX11_back 37 = .ok (.aload_n 0, 1) := by decide +kernel
theorem dX11_back_38 : decode cX11_back 38 = .ok (.getfield 31, 3) := by decide +kernel
theorem dX11_back_41 : decode cX11_back 41 = .ok (.getfield 180, 3) := by decide +kernel
theorem dX11_back_44 : decode cX11_back 44 = .ok (.ireturn, 1) := by decide +kernel
theorem dX11_bench_0 : decode cX11_bench 0 = .ok (.aload_n 0, 1) := by decide +kernel
theorem dX11_bench_1 : decode cX11_bench 1 = .ok (.getfield 31, 3) := by decide +kernel
theorem dX11_bench_4 : decode cX11_bench 4 = .ok (.iload_n 1, 1) := by decide +kernel
theorem dX11_bench_5 : decode cX11_bench 5 = .ok (.invokevirtual 199, 3) := by decide +kernel
theorem dX11_bench_8 : decode cX11_bench 8 = .ok (.ifCond .eq 20, 3) := by decide +kernel
theorem dX11_bench_11 : decode cX11_bench 11 = .ok (.aload_n 0, 1) := by decide +kernel
theorem dX11_bench_12 : decode cX11_bench 12 = .ok (.getfield 31, 3) := by decide +kernel
theorem dX11_bench_15 : decode cX11_bench 15 = .ok (.iload_n 2, 1) := by decide +kernel
theorem dX11_bench_16 : decode cX11_bench 16 = .ok (.invokevirtual 199, 3) := by decide +kernel
theorem dX11_bench_19 : decode cX11_bench 19 = .ok (.ifCond .eq 9, 3) := by decide +kernel
theorem dX11_bench_22 : decode cX11_bench 22 = .ok (.iload_n 1, 1) := by decide +kernel
theorem dX11_bench_23 : decode cX11_bench 23 = .ok (.iload_n 2, 1) := by decide +kernel
theorem dX11_bench_24 : decode cX11_bench 24 = .ok (.iand, 1) := by decide +kernel
theorem dX11_bench_25 : decode cX11_bench 25 = .ok (.ifCond .eq 9, 3) := by decide +kernel
theorem dX11_bench_28 : decode cX11_bench 28 = .ok (.aload_n 0, 1) := by decide +kernel
theorem dX11_bench_29 : decode cX11_bench 29 = .ok (.iconst 0, 1) := by decide +kernel
theorem dX11_bench_30 : decode cX11_bench 30 = .ok (.invokevirtual 158, 3) := by decide +kernel
theorem dX11_bench_33 : decode cX11_bench 33 = .ok (.ireturn, 1) := by decide +kernel
theorem dX11_bench_34 : decode cX11_bench 34 = .ok (.aload_n 0, 1) := by decide +kernel
theorem dX11_bench_35 : decode cX11_bench 35 = .ok (.getfield 39, 3) := by decide +kernel
theorem dX11_bench_38 : decode cX11_bench 38 = .ok (.iload_n 1, 1) := by decide +kernel
theorem dX11_bench_39 : decode cX11_bench 39 = .ok (.aload_n 0, 1) := by decide +kernel
theorem dX11_bench_40 : decode cX11_bench 40 = .ok (.getfield 31, 3) := by decide +kernel
theorem dX11_bench_43 : decode cX11_bench 43 = .ok (.getfield 142, 3) := by decide +kernel
theorem dX11_bench_46 : decode cX11_bench 46 = .ok (.iand, 1) := by decide +kernel
theorem dX11_bench_47 : decode cX11_bench 47 = .ok (.iload_n 2, 1) := by decide +kernel
theorem dX11_bench_48 : decode cX11_bench 48 = .ok (.aload_n 0, 1) := by decide +kernel
theorem dX11_bench_49 : decode cX11_bench 49 = .ok (.getfield 31, 3) := by decide +kernel
theorem dX11_bench_52 : decode cX11_bench 52 = .ok (.getfield 142, 3) := by decide +kernel
theorem dX11_bench_55 : decode cX11_bench 55 = .ok (.iand, 1) := by decide +kernel
theorem dX11_bench_56 : decode cX11_bench 56 = .ok (.invokevirtual 196, 3) := by decide +kernel
theorem dX11_bench_59 : decode cX11_bench 59 = .ok (.ireturn, 1) := by decide +kernel
theorem dX11_bend_0 : decode cX11_bend 0 = .ok (.aload_n 0, 1) := by decide +kernel
theorem dX11_bend_1 : decode cX11_bend 1 = .ok (.getfield 31, 3) := by decide +kernel
theorem dX11_bend_4 : decode cX11_bend 4 = .ok (.iload_n 1, 1) := by decide +kernel
theorem dX11_bend_5 : decode cX11_bend 5 = .ok (.invokevirtual 132, 3) := by decide +kernel
theorem dX11_bend_8 : decode cX11_bend 8 = .ok (.ifCond .eq 14, 3) := by decide +kernel
theorem dX11_bend_11 : decode cX11_bend 11 = .ok (.iload_n 2, 1) := by decide +kernel
theorem dX11_bend_12 : decode cX11_bend 12 = .ok (.iconst (-1), 1) := by decide +kernel
theorem dX11_bend_13 : decode cX11_bend 13 = .ok (.if_icmp .lt 9, 3) := by decide +kernel
theorem dX11_bend_16 : decode cX11_bend 16 = .ok (.iload_n 2, 1) := by decide +kernel
theorem dX11_bend_17 : decode cX11_bend 17 = .ok (.bipush 6, 2) := by decide +kernel
theorem dX11_bend_19 : decode cX11_bend 19 = .ok (.if_icmp .lt 9, 3) := by decide +kernel
theorem dX11_bend_22 : decode cX11_bend 22 = .ok (.aload_n 0, 1) := by decide +kernel
theorem dX11_bend_23 : decode cX11_bend 23 = .ok (.iconst 0, 1) := by decide +kernel
theorem dX11_bend_24 : decode cX11_bend 24 = .ok (.invokevirtual 158, 3) := by decide +kernel
theorem dX11_bend_27 : decode cX11_bend 27 = .ok (.ireturn, 1) := by decide +kernel
theorem dX11_bend_28 : decode cX11_bend 28 = .ok (.aload_n 0, 1) := by decide +kernel
theorem dX11_bend_29 : decode cX11_bend 29 = .ok (.getfield 31, 3) := by decide +kernel
theorem dX11_bend_32 : decode cX11_bend 32 = .ok (.getfield 139, 3) := by decide +kernel
theorem dX11_bend_35 : decode cX11_bend 35 = .ok (.iload_n 1, 1) := by decide +kernel
theorem dX11_bend_36 : decode cX11_bend 36 = .ok (.iaload, 1) := by decide +kernel
theorem dX11_bend_37 : decode cX11_bend 37 = .ok (.istore_n 3, 1) := by decide +kernel
theorem dX11_bend_38 : decode cX11_bend 38 = .ok (.aload_n 0, 1) := by decide +kernel
theorem dX11_bend_39 : decode cX11_bend 39 = .ok (.getfield 31, 3) := by decide +kernel
theorem dX11_bend_42 : decode cX11_bend 42 = .ok (.getfield 139, 3) := by decide +kernel
theorem dX11_bend_45 : decode cX11_bend 45 = .ok (.iload_n 1, 1) := by decide +kernel
theorem dX11_bend_46 : decode cX11_bend 46 = .ok (.iload_n 2, 1) := by decide +kernel
theorem dX11_bend_47 : decode cX11_bend 47 = .ok (.iastore, 1) := by decide +kernel
theorem dX11_bend_48 : decode cX11_bend 48 = .ok (.iload_n 3, 1) := by decide +kernel
theorem dX11_bend_49 : decode cX11_bend 49 = .ok (.ireturn, 1) := by decide +kernel
theorem dX11_beside_0 : decode cX11_beside 0 = .ok (.iload_n 1, 1) := by decide +kernel
theorem dX11_beside_1 : decode cX11_beside 1 = .ok (.ifCond .lt 24, 3) := by decide +kernel
theorem dX11_beside_4 : decode cX11_beside 4 = .ok (.iload_n 1, 1) := by decide +kernel
theorem dX11_beside_5 : decode cX11_beside 5 = .ok (.iconst 2, 1) := by decide +kernel
theorem dX11_beside_6 : decode cX11_beside 6 = .ok (.if_icmp .gt 19, 3) := by decide +kernel
theorem dX11_beside_9 : decode cX11_beside 9 = .ok (.iload_n 2, 1) := by decide +kernel
theorem dX11_beside_10 : decode cX11_beside 10 = .ok (.iconst 1, 1) := by decide +kernel
theorem dX11_beside_11 : decode cX11_beside 11 = .ok (.if_icmp .lt 14, 3) := by decide +kernel
theorem dX11_beside_14 : decode cX11_beside 14 = .ok (.iload_n 2, 1) := by decide +kernel
theorem dX11_beside_15 : decode cX11_beside 15 = .ok (.sipush 9999, 3) := by decide +kernel
theorem dX11_beside_18 : decode cX11_beside 18 = .ok (.if_icmp .gt 7, 3) := by decide +kernel
theorem dX11_beside_21 : decode cX11_beside 21 = .ok (.iconst 1, 1) := by decide +kernel
theorem dX11_beside_22 : decode cX11_beside 22 = .ok (.goto 4, 3) := by decide +kernel
theorem dX11_beside_25 : decode cX11_beside 25 = .ok (.iconst 0, 1) := by decide +kernel
theorem dX11_beside_26 : decode cX11_beside 26 = .ok (.istore_n 3, 1) := by decide +kernel
theorem dX11_beside_27 : decode cX11_beside 27 = .ok (.aload_n 0, 1) := by decide +kernel
theorem dX11_beside_28 : decode cX11_beside 28 = .ok (.getfield 31, 3) := by decide +kernel
theorem dX11_beside_31 : decode cX11_beside 31 = .ok (.invokevirtual 170, 3) := by decide +kernel
theorem dX11_beside_34 : decode cX11_beside 34 = .ok (.ifCond .eq 7, 3) := by decide +kernel
theorem dX11_beside_37 : decode cX11_beside 37 = .ok (.iload_n 3, 1) := by decide +kernel
theorem dX11_beside_38 : decode cX11_beside 38 = .ok (.ifCond .ne 9, 3) := by decide +kernel
theorem dX11_beside_41 : decode cX11_beside 41 = .ok (.aload_n 0, 1) := by decide +kernel
theorem dX11_beside_42 : decode cX11_beside 42 = .ok (.iconst 0, 1) := by decide +kernel
theorem dX11_beside_43 : decode cX11_beside 43 = .ok (.invokevirtual 158, 3) := by decide +kernel
theorem dX11_beside_46 : decode cX11_beside 46 = .ok (.ireturn, 1) := by decide +kernel
theorem dX11_beside_47 : decode cX11_beside 47 = .ok (.aload_n 0, 1) := by decide +kernel
theorem dX11_beside_48 : decode cX11_beside 48 = .ok (.getfield 31, 3) := by decide +kernel
theorem dX11_beside_51 : decode cX11_beside 51 = .ok (.getfield 174, 3) := by decide +kernel
theorem dX11_beside_54 : decode cX11_beside 54 = .ok (.istore 4, 2) := by decide +kernel
theorem dX11_beside_56 : decode cX11_beside 56 = .ok (.aload_n 0, 1) := by decide +kernel
theorem dX11_beside_57 : decode cX11_beside 57 = .ok (.getfield 31, 3) := by decide +kernel
theorem dX11_beside_60 : decode cX11_beside 60 = .ok (.iload_n 1, 1) := by decide +kernel
theorem dX11_beside_61 : decode cX11_beside 61 = .ok (.putfield 174, 3) := by decide +kernel
theorem dX11_beside_64 : decode cX11_beside 64 = .ok (.aload_n 0, 1) := by decide +kernel
theorem dX11_beside_65 : decode cX11_beside 65 = .ok (.getfield 31, 3) := by decide +kernel
theorem dX11_beside_68 : decode cX11_beside 68 = .ok (.iload_n 2, 1) := by decide +kernel
theorem dX11_beside_69 : decode cX11_beside 69 = .ok (.putfield 177, 3) := by decide +kernel
theorem dX11_beside_72 : decode cX11_beside 72 = .ok (.iload 4, 2) := by decide +kernel
theorem dX11_beside_74 : decode cX11_beside 74 = .ok (.ireturn, 1) := by decide +kernel
theorem dX11_chair_0 : decode cX11_chair 0 = .ok (.aload_n 0, 1) := by decide +kernel
theorem dX11_chair_1 : decode cX11_chair 1 = .ok (.getfield 31, 3) := by decide +kernel
theorem dX11_chair_4 : decode cX11_chair 4 = .ok (.getfield 202, 3) := by decide +kernel
theorem dX11_chair_7 : decode cX11_chair 7 = .ok (.iconst 1, 1) := by decide +kernel
theorem dX11_chair_8 : decode cX11_chair 8 = .ok (.if_icmp .lt 19, 3) := by decide +kernel
theorem dX11_chair_11 : decode cX11_chair 11 = .ok (.aload_n 0, 1) := by decide +kernel
theorem dX11_chair_12 : decode cX11_chair 12 = .ok (.getfield 31, 3) := by decide +kernel
theorem dX11_chair_15 : decode cX11_chair 15 = .ok (.getfield 202, 3) := by decide +kernel
theorem dX11_chair_18 : decode cX11_chair 18 = .ok (.bipush 6, 2) := by decide +kernel
theorem dX11_chair_20 : decode cX11_chair 20 = .ok (.if_icmp .gt 7, 3) := by decide +kernel
theorem dX11_chair_23 : decode cX11_chair 23 = .ok (.iconst 1, 1) := by decide +kernel
theorem dX11_chair_24 : decode cX11_chair 24 = .ok (.goto 4, 3) := by decide +kernel
theorem dX11_chair_27 : decode cX11_chair 27 = .ok (.iconst 0, 1) := by decide +kernel
theorem dX11_chair_28 : decode cX11_chair 28 = .ok (.istore 4, 2) := by decide +kernel
theorem dX11_chair_30 : decode cX11_chair 30 = .ok (.aload_n 0, 1) := by decide +kernel
theorem dX11_chair_31 : decode cX11_chair 31 = .ok (.getfield 31, 3) := by decide +kernel
theorem dX11_chair_34 : decode cX11_chair 34 = .ok (.iload_n 1, 1) := by decide +kernel
theorem dX11_chair_35 : decode cX11_chair 35 = .ok (.invokevirtual 132, 3) := by decide +kernel
theorem dX11_chair_38 : decode cX11_chair 38 = .ok (.ifCond .eq 23, 3) := by decide +kernel
theorem dX11_chair_41 : decode cX11_chair 41 = .ok (.iload 4, 2) := by decide +kernel
theorem dX11_chair_43 : decode cX11_chair 43 = .ok (.ifCond .eq 18, 3) := by decide +kernel
theorem dX11_chair_46 : decode cX11_chair 46 = .ok (.iload_n 3, 1) := by decide +kernel
theorem dX11_chair_47 : decode cX11_chair 47 = .ok (.ifCond .lt 14, 3) := by decide +kernel
theorem dX11_chair_50 : decode cX11_chair 50 = .ok (.iload_n 3, 1) := by decide +kernel
theorem dX11_chair_51 : decode cX11_chair 51 = .ok (.aload_n 0, 1) := by decide +kernel
theorem dX11_chair_52 : decode cX11_chair 52 = .ok (.getfield 31, 3) := by decide +kernel
theorem dX11_chair_55 : decode cX11_chair 55 = .ok (.getfield 202, 3) := by decide +kernel
theorem dX11_chair_58 : decode cX11_chair 58 = .ok (.if_icmp .le 6, 3) := by decide +kernel
theorem dX11_chair_61 : decode cX11_chair 61 = .ok (.ldc 215, 2) := by decide +kernel
theorem dX11_chair_63 : decode cX11_chair 63 = .ok (.ireturn, 1) := by decide +kernel
theorem dX11_chair_64 : decode cX11_chair 64 = .ok (.aload_n 0, 1) := by decide +kernel
theorem dX11_chair_65 : decode cX11_chair 65 = .ok (.getfield 83, 3) := by decide +kernel
theorem dX11_chair_68 : decode cX11_chair 68 = .ok (.iload_n 1, 1) := by decide +kernel
theorem dX11_chair_69 : decode cX11_chair 69 = .ok (.iload_n 2, 1) := by decide +kernel
theorem dX11_chair_70 : decode cX11_chair 70 = .ok (.invokevirtual 254, 3) := by decide +kernel
theorem dX11_chair_73 : decode cX11_chair 73 = .ok (.iload_n 3, 1) := by decide +kernel
theorem dX11_chair_74 : decode cX11_chair 74 = .ok (.ifCond .ne 13, 3) := by decide +kernel
theorem dX11_chair_77 : decode cX11_chair 77 = .ok (.aload_n 0, 1) := by decide +kernel
theorem dX11_chair_78 : decode cX11_chair 78 = .ok (.getfield 83, 3) := by decide +kernel
theorem dX11_chair_81 : decode cX11_chair 81 = .ok (.invokevirtual 258, 3) := by decide +kernel
theorem dX11_chair_84 : decode cX11_chair 84 = .ok (.goto 13, 3) := by decide +kernel
theorem dX11_chair_87 : decode cX11_chair 87 = .ok (.aload_n 0, 1) := by decide +kernel
theorem dX11_chair_88 : decode cX11_chair 88 = .ok (.getfield 83, 3) := by decide +kernel
theorem dX11_chair_91 : decode cX11_chair 91 = .ok (.iload_n 3, 1) := by decide +kernel
theorem dX11_chair_92 : decode cX11_chair 92 = .ok (.iconst 1, 1) := by decide +kernel
theorem dX11_chair_93 : decode cX11_chair 93 = .ok (.isub, 1) := by decide +kernel
theorem dX11_chair_94 : decode cX11_chair 94 = .ok (.invokevirtual 261, 3) := by decide +kernel
theorem dX11_chair_97 : decode cX11_chair 97 = .ok (.ireturn, 1) := by decide +kernel
theorem dX11_council_0 : decode cX11_council 0 = .ok (.aload_n 0, 1) := by decide +kernel
theorem dX11_council_1 : decode cX11_council 1 = .ok (.getfield 46, 3) := by decide +kernel
theorem dX11_council_4 : decode cX11_council 4 = .ok (.aload_n 0, 1) := by decide +kernel
theorem dX11_council_5 : decode cX11_council 5 = .ok (.getfield 9, 3) := by decide +kernel
theorem dX11_council_8 : decode cX11_council 8 = .ok (.aload_n 0, 1) := by decide +kernel
theorem dX11_council_9 : decode cX11_council 9 = .ok (.getfield 94, 3) := by decide +kernel
theorem dX11_council_12 : decode cX11_council 12 = .ok (.invokevirtual 102, 3) := by decide +kernel
theorem dX11_council_15 : decode cX11_council 15 = .ok (.istore_n 1, 1) := by decide +kernel
theorem dX11_council_16 : decode cX11_council 16 = .ok (.iload_n 1, 1) := by decide +kernel
theorem dX11_council_17 : decode cX11_council 17 = .ok (.ifCond .eq 8, 3) := by decide +kernel
theorem dX11_council_20 : decode cX11_council 20 = .ok (.bipush (-2), 2) := by decide +kernel
theorem dX11_council_22 : decode cX11_council 22 = .ok (.iload_n 1, 1) := by decide +kernel
theorem dX11_council_23 : decode cX11_council 23 = .ok (.isub, 1) := by decide +kernel
theorem dX11_council_24 : decode cX11_council 24 = .ok (.ireturn, 1) := by decide +kernel
theorem dX11_council_25 : decode cX11_council 25 = .ok (.aload_n 0, 1) := by decide +kernel
theorem dX11_council_26 : decode cX11_council 26 = .ok (.getfield 31, 3) := by decide +kernel
theorem dX11_council_29 : decode cX11_council 29 = .ok (.getfield 106, 3) := by decide +kernel
theorem dX11_council_32 : decode cX11_council 32 = .ok (.istore_n 2, 1) := by decide +kernel
theorem dX11_council_33 : decode cX11_council 33 = .ok (.aload_n 0, 1) := by decide +kernel
theorem dX11_council_34 : decode cX11_council 34 = .ok (.getfield 31, 3) := by decide +kernel
theorem dX11_council_37 : decode cX11_council 37 = .ok (.aload_n 0, 1) := by decide +kernel
theorem dX11_council_38 : decode cX11_council 38 = .ok (.getfield 46, 3) := by decide +kernel
theorem dX11_council_41 : decode cX11_council 41 = .ok (.getfield 109, 3) := by decide +kernel
theorem dX11_council_44 : decode cX11_council 44 = .ok (.invokevirtual 112, 3) := by decide +kernel
theorem dX11_council_47 : decode cX11_council 47 = .ok (.aload_n 0, 1) := by decide +kernel
theorem dX11_council_48 : decode cX11_council 48 = .ok (.getfield 31, 3) := by decide +kernel
theorem dX11_council_51 : decode cX11_council 51 = .ok (.iload_n 2, 1) := by decide +kernel
theorem dX11_council_52 : decode cX11_council 52 = .ok (.putfield 106, 3) := by decide +kernel
theorem dX11_council_55 : decode cX11_council 55 = .ok (.aload_n 0, 1) := by decide +kernel
theorem dX11_council_56 : decode cX11_council 56 = .ok (.iconst 0, 1) := by decide +kernel
theorem dX11_council_57 : decode cX11_council 57 = .ok (.putfield 94, 3) := by decide +kernel
theorem dX11_council_60 : decode cX11_council 60 = .ok (.aload_n 0, 1) := by decide +kernel
theorem dX11_council_61 : decode cX11_council 61 = .ok (.getfield 31, 3) := by decide +kernel
theorem dX11_council_64 : decode cX11_council 64 = .ok (.getfield 116, 3) := by decide +kernel
theorem dX11_council_67 : decode cX11_council 67 = .ok (.ireturn, 1) := by decide +kernel
theorem dX11_count_0 : decode cX11_count 0 = .ok (.iload_n 1, 1) := by decide +kernel
theorem dX11_count_1 : decode cX11_count 1 = .ok (.tableswitch 170 0 11 #[63, 71, 79, 84, 95, 117, 125, 133, 141, 149, 154, 162], 63) := by decide +kernel
theorem dX11_count_64 : decode cX11_count 64 = .ok (.aload_n 0, 1) := by decide +kernel
theorem dX11_count_65 : decode cX11_count 65 = .ok (.getfield 31, 3) := by decide +kernel
theorem dX11_count_68 : decode cX11_count 68 = .ok (.getfield 116, 3) := by decide +kernel
theorem dX11_count_71 : decode cX11_count 71 = .ok (.ireturn, 1) := by decide +kernel
theorem dX11_count_72 : decode cX11_count 72 = .ok (.aload_n 0, 1) := by decide +kernel
theorem dX11_count_73 : decode cX11_count 73 = .ok (.getfield 31, 3) := by decide +kernel
theorem dX11_count_76 : decode cX11_count 76 = .ok (.getfield 310, 3) := by decide +kernel
theorem dX11_count_79 : decode cX11_count 79 = .ok (.ireturn, 1) := by decide +kernel
theorem dX11_count_80 : decode cX11_count 80 = .ok (.aload_n 0, 1) := by decide +kernel
theorem dX11_count_81 : decode cX11_count 81 = .ok (.getfield 119, 3) := by decide +kernel
theorem dX11_count_84 : decode cX11_count 84 = .ok (.ireturn, 1) := by decide +kernel
theorem dX11_count_85 : decode cX11_count 85 = .ok (.aload_n 0, 1) := by decide +kernel
theorem dX11_count_86 : decode cX11_count 86 = .ok (.getfield 31, 3) := by decide +kernel
theorem dX11_count_89 : decode cX11_count 89 = .ok (.getfield 142, 3) := by decide +kernel
theorem dX11_count_92 : decode cX11_count 92 = .ok (.invokestatic 165, 3) := by decide +kernel
theorem dX11_count_95 : decode cX11_count 95 = .ok (.ireturn, 1) := by decide +kernel
theorem dX11_count_96 : decode cX11_count 96 = .ok (.aload_n 0, 1) := by decide +kernel
theorem dX11_count_97 : decode cX11_count 97 = .ok (.getfield 31, 3) := by decide +kernel
theorem dX11_count_100 : decode cX11_count 100 = .ok (.aload_n 0, 1) := by decide +kernel
theorem dX11_count_101 : decode cX11_count 101 = .ok (.getfield 31, 3) := by decide +kernel
theorem dX11_count_104 : decode cX11_count 104 = .ok (.getfield 136, 3) := by decide +kernel
theorem dX11_count_107 : decode cX11_count 107 = .ok (.aload_n 0, 1) := by decide +kernel
theorem dX11_count_108 : decode cX11_count 108 = .ok (.getfield 31, 3) := by decide +kernel
theorem dX11_count_111 : decode cX11_count 111 = .ok (.getfield 142, 3) := by decide +kernel
theorem dX11_count_114 : decode cX11_count 114 = .ok (.invokevirtual 320, 3) := by decide +kernel
theorem dX11_count_117 : decode cX11_count 117 = .ok (.ireturn, 1) := by decide +kernel
theorem dX11_count_118 : decode cX11_count 118 = .ok (.aload_n 0, 1) := by decide +kernel
theorem dX11_count_119 : decode cX11_count 119 = .ok (.getfield 31, 3) := by decide +kernel
theorem dX11_count_122 : decode cX11_count 122 = .ok (.getfield 180, 3) := by decide +kernel
theorem dX11_count_125 : decode cX11_count 125 = .ok (.ireturn, 1) := by decide +kernel
theorem dX11_count_126 : decode cX11_count 126 = .ok (.aload_n 0, 1) := by decide +kernel
theorem dX11_count_127 : decode cX11_count 127 = .ok (.getfield 31, 3) := by decide +kernel
theorem dX11_count_130 : decode cX11_count 130 = .ok (.getfield 202, 3) := by decide +kernel
theorem dX11_count_133 : decode cX11_count 133 = .ok (.ireturn, 1) := by decide +kernel
theorem dX11_count_134 : decode cX11_count 134 = .ok (.aload_n 0, 1) := by decide +kernel
theorem dX11_count_135 : decode cX11_count 135 = .ok (.getfield 31, 3) := by decide +kernel
theorem dX11_count_138 : decode cX11_count 138 = .ok (.getfield 276, 3) := by decide +kernel
theorem dX11_count_141 : decode cX11_count 141 = .ok (.ireturn, 1) := by decide +kernel
theorem dX11_count_142 : decode cX11_count 142 = .ok (.aload_n 0, 1) := by decide +kernel
theorem dX11_count_143 : decode cX11_count 143 = .ok (.getfield 31, 3) := by decide +kernel
theorem dX11_count_146 : decode cX11_count 146 = .ok (.getfield 106, 3) := by decide +kernel
theorem dX11_count_149 : decode cX11_count 149 = .ok (.ireturn, 1) := by decide +kernel
theorem dX11_count_150 : decode cX11_count 150 = .ok (.aload_n 0, 1) := by decide +kernel
theorem dX11_count_151 : decode cX11_count 151 = .ok (.getfield 94, 3) := by decide +kernel
theorem dX11_count_154 : decode cX11_count 154 = .ok (.ireturn, 1) := by decide +kernel
theorem dX11_count_155 : decode cX11_count 155 = .ok (.aload_n 0, 1) := by decide +kernel
theorem dX11_count_156 : decode cX11_count 156 = .ok (.getfield 31, 3) := by decide +kernel
theorem dX11_count_159 : decode cX11_count 159 = .ok (.getfield 174, 3) := by decide +kernel
theorem dX11_count_162 : decode cX11_count 162 = .ok (.ireturn, 1) := by decide +kernel
theorem dX11_count_163 : decode cX11_count 163 = .ok (.aload_n 0, 1) := by decide +kernel
theorem dX11_count_164 : decode cX11_count 164 = .ok (.getfield 31, 3) := by decide +kernel
theorem dX11_count_167 : decode cX11_count 167 = .ok (.getfield 177, 3) := by decide +kernel
theorem dX11_count_170 : decode cX11_count 170 = .ok (.ireturn, 1) := by decide +kernel
theorem dX11_count_171 : decode cX11_count 171 = .ok (.iconst (-1), 1) := by decide +kernel
theorem dX11_count_172 : decode cX11_count 172 = .ok (.ireturn, 1) := by decide +kernel
theorem dX11_day_0 : decode cX11_day 0 = .ok (.aload_n 0, 1) := by decide +kernel
theorem dX11_day_1 : decode cX11_day 1 = .ok (.getfield 31, 3) := by decide +kernel
theorem dX11_day_4 : decode cX11_day 4 = .ok (.invokevirtual 170, 3) := by decide +kernel
theorem dX11_day_7 : decode cX11_day 7 = .ok (.ifCond .ne 9, 3) := by decide +kernel
theorem dX11_day_10 : decode cX11_day 10 = .ok (.aload_n 0, 1) := by decide +kernel
theorem dX11_day_11 : decode cX11_day 11 = .ok (.iconst 0, 1) := by decide +kernel
theorem dX11_day_12 : decode cX11_day 12 = .ok (.invokevirtual 158, 3) := by decide +kernel
theorem dX11_day_15 : decode cX11_day 15 = .ok (.ireturn, 1) := by decide +kernel
theorem dX11_day_16 : decode cX11_day 16 = .ok (.iconst 0, 1) := by decide +kernel
theorem dX11_day_17 : decode cX11_day 17 = .ok (.istore_n 1, 1) := by decide +kernel
theorem dX11_day_18 : decode cX11_day 18 = .ok (.iconst 0, 1) := by decide +kernel
theorem dX11_day_19 : decode cX11_day 19 = .ok (.istore_n 2, 1) := by decide +kernel
theorem dX11_day_20 : decode cX11_day 20 = .ok (.iload_n 2, 1) := by decide +kernel
theorem dX11_day_21 : decode cX11_day 21 = .ok (.aload_n 0, 1) := by decide +kernel
theorem dX11_day_22 : decode cX11_day 22 = .ok (.getfield 31, 3) := by decide +kernel
theorem dX11_day_25 : decode cX11_day 25 = .ok (.getfield 202, 3) := by decide +kernel
theorem dX11_day_28 : decode cX11_day 28 = .ok (.if_icmp .ge 87, 3) := by decide +kernel
theorem dX11_day_31 : decode cX11_day 31 = .ok (.aload_n 0, 1) := by decide +kernel
theorem dX11_day_32 : decode cX11_day 32 = .ok (.getfield 39, 3) := by decide +kernel
theorem dX11_day_35 : decode cX11_day 35 = .ok (.aload_n 0, 1) := by decide +kernel
theorem dX11_day_36 : decode cX11_day 36 = .ok (.getfield 31, 3) := by decide +kernel
theorem dX11_day_39 : decode cX11_day 39 = .ok (.getfield 205, 3) := by decide +kernel
theorem dX11_day_42 : decode cX11_day 42 = .ok (.iload_n 2, 1) := by decide +kernel
theorem dX11_day_43 : decode cX11_day 43 = .ok (.aload_n 0, 1) := by decide +kernel
theorem dX11_day_44 : decode cX11_day 44 = .ok (.getfield 31, 3) := by decide +kernel
theorem dX11_day_47 : decode cX11_day 47 = .ok (.getfield 202, 3) := by decide +kernel
theorem dX11_day_50 : decode cX11_day 50 = .ok (.aload_n 0, 1) := by decide +kernel
theorem dX11_day_51 : decode cX11_day 51 = .ok (.getfield 31, 3) := by decide +kernel
theorem dX11_day_54 : decode cX11_day 54 = .ok (.getfield 136, 3) := by decide +kernel
theorem dX11_day_57 : decode cX11_day 57 = .ok (.aload_n 0, 1) := by decide +kernel
theorem dX11_day_58 : decode cX11_day 58 = .ok (.getfield 31, 3) := by decide +kernel
theorem dX11_day_61 : decode cX11_day 61 = .ok (.getfield 180, 3) := by decide +kernel
theorem dX11_day_64 : decode cX11_day 64 = .ok (.invokevirtual 211, 3) := by decide +kernel
theorem dX11_day_67 : decode cX11_day 67 = .ok (.aload_n 0, 1) := by decide +kernel
theorem dX11_day_68 : decode cX11_day 68 = .ok (.getfield 39, 3) := by decide +kernel
theorem dX11_day_71 : decode cX11_day 71 = .ok (.aload_n 0, 1) := by decide +kernel
theorem dX11_day_72 : decode cX11_day 72 = .ok (.getfield 31, 3) := by decide +kernel
theorem dX11_day_75 : decode cX11_day 75 = .ok (.getfield 142, 3) := by decide +kernel
theorem dX11_day_78 : decode cX11_day 78 = .ok (.invokevirtual 187, 3) := by decide +kernel
theorem dX11_day_81 : decode cX11_day 81 = .ok (.aload_n 0, 1) := by decide +kernel
theorem dX11_day_82 : decode cX11_day 82 = .ok (.getfield 39, 3) := by decide +kernel
theorem dX11_day_85 : decode cX11_day 85 = .ok (.aload_n 0, 1) := by decide +kernel
theorem dX11_day_86 : decode cX11_day 86 = .ok (.getfield 39, 3) := by decide +kernel
theorem dX11_day_89 : decode cX11_day 89 = .ok (.getfield 190, 3) := by decide +kernel
theorem dX11_day_92 : decode cX11_day 92 = .ok (.aload_n 0, 1) := by decide +kernel
theorem dX11_day_93 : decode cX11_day 93 = .ok (.getfield 39, 3) := by decide +kernel
theorem dX11_day_96 : decode cX11_day 96 = .ok (.getfield 193, 3) := by decide +kernel
theorem dX11_day_99 : decode cX11_day 99 = .ok (.invokevirtual 196, 3) := by decide +kernel
theorem dX11_day_102 : decode cX11_day 102 = .ok (.iconst 1, 1) := by decide +kernel
theorem dX11_day_103 : decode cX11_day 103 = .ok (.if_icmp .ne 6, 3) := by decide +kernel
theorem dX11_day_106 : decode cX11_day 106 = .ok (.iinc 1 1, 3) := by decide +kernel
theorem dX11_day_109 : decode cX11_day 109 = .ok (.iinc 2 1, 3) := by decide +kernel
theorem dX11_day_112 : decode cX11_day 112 = .ok (.goto (-92), 3) := by decide +kernel
theorem dX11_day_115 : decode cX11_day 115 = .ok (.iload_n 1, 1) := by decide +kernel
theorem dX11_day_116 : decode cX11_day 116 = .ok (.ireturn, 1) := by decide +kernel
theorem dX11_end_0 : decode cX11_end 0 = .ok (.iload_n 1, 1) := by decide +kernel
theorem dX11_end_1 : decode cX11_end 1 = .ok (.ifCond .lt 11, 3) := by decide +kernel
theorem dX11_end_4 : decode cX11_end 4 = .ok (.iload_n 1, 1) := by decide +kernel
theorem dX11_end_5 : decode cX11_end 5 = .ok (.aload_n 0, 1) := by decide +kernel
theorem dX11_end_6 : decode cX11_end 6 = .ok (.getfield 94, 3) := by decide +kernel
theorem dX11_end_9 : decode cX11_end 9 = .ok (.if_icmp .le 5, 3) := by decide +kernel
theorem dX11_end_12 : decode cX11_end 12 = .ok (.iconst (-1), 1) := by decide +kernel
theorem dX11_end_13 : decode cX11_end 13 = .ok (.ireturn, 1) := by decide +kernel
theorem dX11_end_14 : decode cX11_end 14 = .ok (.aload_n 0, 1) := by decide +kernel
theorem dX11_end_15 : decode cX11_end 15 = .ok (.iload_n 1, 1) := by decide +kernel
theorem dX11_end_16 : decode cX11_end 16 = .ok (.putfield 94, 3) := by decide +kernel
theorem dX11_end_19 : decode cX11_end 19 = .ok (.iload_n 1, 1) := by decide +kernel
theorem dX11_end_20 : decode cX11_end 20 = .ok (.ireturn, 1) := by decide +kernel
theorem dX11_entry_0 : decode cX11_entry 0 = .ok (.iload_n 1, 1) := by decide +kernel
theorem dX11_entry_1 : decode cX11_entry 1 = .ok (.iconst (-1), 1) := by decide +kernel
theorem dX11_entry_2 : decode cX11_entry 2 = .ok (.if_icmp .ne 13, 3) := by decide +kernel
theorem dX11_entry_5 : decode cX11_entry 5 = .ok (.aload_n 0, 1) := by decide +kernel
theorem dX11_entry_6 : decode cX11_entry 6 = .ok (.getfield 31, 3) := by decide +kernel
theorem dX11_entry_9 : decode cX11_entry 9 = .ok (.iconst 0, 1) := by decide +kernel
theorem dX11_entry_10 : decode cX11_entry 10 = .ok (.putfield 276, 3) := by decide +kernel
theorem dX11_entry_13 : decode cX11_entry 13 = .ok (.iconst 0, 1) := by decide +kernel
theorem dX11_entry_14 : decode cX11_entry 14 = .ok (.ireturn, 1) := by decide +kernel
theorem dX11_entry_15 : decode cX11_entry 15 = .ok (.aload_n 0, 1) := by decide +kernel
theorem dX11_entry_16 : decode cX11_entry 16 = .ok (.getfield 31, 3) := by decide +kernel
theorem dX11_entry_19 : decode cX11_entry 19 = .ok (.iload_n 1, 1) := by decide +kernel
theorem dX11_entry_20 : decode cX11_entry 20 = .ok (.invokevirtual 199, 3) := by decide +kernel
theorem dX11_entry_23 : decode cX11_entry 23 = .ok (.ifCond .eq 24, 3) := by decide +kernel
theorem dX11_entry_26 : decode cX11_entry 26 = .ok (.aload_n 0, 1) := by decide +kernel
theorem dX11_entry_27 : decode cX11_entry 27 = .ok (.getfield 31, 3) := by decide +kernel
theorem dX11_entry_30 : decode cX11_entry 30 = .ok (.iload_n 2, 1) := by decide +kernel
theorem dX11_entry_31 : decode cX11_entry 31 = .ok (.invokevirtual 199, 3) := by decide +kernel
theorem dX11_entry_34 : decode cX11_entry 34 = .ok (.ifCond .eq 13, 3) := by decide +kernel
theorem dX11_entry_37 : decode cX11_entry 37 = .ok (.iload_n 1, 1) := by decide +kernel
theorem dX11_entry_38 : decode cX11_entry 38 = .ok (.iload_n 2, 1) := by decide +kernel
theorem dX11_entry_39 : decode cX11_entry 39 = .ok (.iand, 1) := by decide +kernel
theorem dX11_entry_40 : decode cX11_entry 40 = .ok (.ifCond .ne 7, 3) := by decide +kernel
theorem dX11_entry_43 : decode cX11_entry 43 = .ok (.iconst 1, 1) := by decide +kernel
theorem dX11_entry_44 : decode cX11_entry 44 = .ok (.goto 4, 3) := by decide +kernel
theorem dX11_entry_47 : decode cX11_entry 47 = .ok (.iconst 0, 1) := by decide +kernel
theorem dX11_entry_48 : decode cX11_entry 48 = .ok (.istore 5, 2) := by decide +kernel
theorem dX11_entry_50 : decode cX11_entry 50 = .ok (.iload 5, 2) := by decide +kernel
theorem dX11_entry_52 : decode cX11_entry 52 = .ok (.ifCond .eq 18, 3) := by decide +kernel
theorem dX11_entry_55 : decode cX11_entry 55 = .ok (.iload_n 3, 1) := by decide +kernel
theorem dX11_entry_56 : decode cX11_entry 56 = .ok (.invokestatic 279, 3) := by decide +kernel
theorem dX11_entry_59 : decode cX11_entry 59 = .ok (.ifCond .eq 11, 3) := by decide +kernel
theorem dX11_entry_62 : decode cX11_entry 62 = .ok (.iload 4, 2) := by decide +kernel
theorem dX11_entry_64 : decode cX11_entry 64 = .ok (.invokestatic 279, 3) := by decide +kernel
theorem dX11_entry_67 : decode cX11_entry 67 = .ok (.ifCond .ne 9, 3) := by decide +kernel
theorem dX11_entry_70 : decode cX11_entry 70 = .ok (.aload_n 0, 1) := by decide +kernel
theorem dX11_entry_71 : decode cX11_entry 71 = .ok (.iconst 0, 1) := by decide +kernel
theorem dX11_entry_72 : decode cX11_entry 72 = .ok (.invokevirtual 158, 3) := by decide +kernel
theorem dX11_entry_75 : decode cX11_entry 75 = .ok (.ireturn, 1) := by decide +kernel
theorem dX11_entry_76 : decode cX11_entry 76 = .ok (.aload_n 0, 1) := by decide +kernel
theorem dX11_entry_77 : decode cX11_entry 77 = .ok (.getfield 31, 3) := by decide +kernel
theorem dX11_entry_80 : decode cX11_entry 80 = .ok (.getfield 276, 3) := by decide +kernel
theorem dX11_entry_83 : decode cX11_entry 83 = .ok (.bipush 12, 2) := by decide +kernel
theorem dX11_entry_85 : decode cX11_entry 85 = .ok (.if_icmp .lt 9, 3) := by decide +kernel
theorem dX11_entry_88 : decode cX11_entry 88 = .ok (.aload_n 0, 1) := by decide +kernel
theorem dX11_entry_89 : decode cX11_entry 89 = .ok (.iconst 1, 1) := by decide +kernel
theorem dX11_entry_90 : decode cX11_entry 90 = .ok (.invokevirtual 158, 3) := by decide +kernel
theorem dX11_entry_93 : decode cX11_entry 93 = .ok (.ireturn, 1) := by decide +kernel
theorem dX11_entry_94 : decode cX11_entry 94 = .ok (.aload_n 0, 1) := by decide +kernel
theorem dX11_entry_95 : decode cX11_entry 95 = .ok (.getfield 31, 3) := by decide +kernel
theorem dX11_entry_98 : decode cX11_entry 98 = .ok (.iload_n 1, 1) := by decide +kernel
theorem dX11_entry_99 : decode cX11_entry 99 = .ok (.iload_n 2, 1) := by decide +kernel
theorem dX11_entry_100 : decode cX11_entry 100 = .ok (.iload_n 3, 1) := by decide +kernel
theorem dX11_entry_101 : decode cX11_entry 101 = .ok (.iload 4, 2) := by decide +kernel
theorem dX11_entry_103 : decode cX11_entry 103 = .ok (.invokevirtual 282, 3) := by decide +kernel
theorem dX11_entry_106 : decode cX11_entry 106 = .ok (.aload_n 0, 1) := by decide +kernel
theorem dX11_entry_107 : decode cX11_entry 107 = .ok (.getfield 31, 3) := by decide +kernel
theorem dX11_entry_110 : decode cX11_entry 110 = .ok (.getfield 276, 3) := by decide +kernel
theorem dX11_entry_113 : decode cX11_entry 113 = .ok (.ireturn, 1) := by decide +kernel
theorem dX11_feed_0 : decode cX11_feed 0 = .ok (.aload_n 0, 1) := by decide +kernel
theorem dX11_feed_1 : decode cX11_feed 1 = .ok (.getfield 94, 3) := by decide +kernel
theorem dX11_feed_4 : decode cX11_feed 4 = .ok (.bipush 20, 2) := by decide +kernel
theorem dX11_feed_6 : decode cX11_feed 6 = .ok (.iadd, 1) := by decide +kernel
theorem dX11_feed_7 : decode cX11_feed 7 = .ok (.sipush 400, 3) := by decide +kernel
theorem dX11_feed_10 : decode cX11_feed 10 = .ok (.if_icmp .le 5, 3) := by decide +kernel
theorem dX11_feed_13 : decode cX11_feed 13 = .ok (.iconst (-1), 1) := by decide +kernel
theorem dX11_feed_14 : decode cX11_feed 14 = .ok (.ireturn, 1) := by decide +kernel
theorem dX11_feed_15 : decode cX11_feed 15 = .ok (.aload_n 0, 1) := by decide +kernel
theorem dX11_feed_16 : decode cX11_feed 16 = .ok (.iload_n 1, 1) := by decide +kernel
theorem dX11_feed_17 : decode cX11_feed 17 = .ok (.invokevirtual 98, 3) := by decide +kernel
theorem dX11_feed_20 : decode cX11_feed 20 = .ok (.aload_n 0, 1) := by decide +kernel
theorem dX11_feed_21 : decode cX11_feed 21 = .ok (.iload_n 2, 1) := by decide +kernel
theorem dX11_feed_22 : decode cX11_feed 22 = .ok (.invokevirtual 98, 3) := by decide +kernel
theorem dX11_feed_25 : decode cX11_feed 25 = .ok (.aload_n 0, 1) := by decide +kernel
theorem dX11_feed_26 : decode cX11_feed 26 = .ok (.iload_n 3, 1) := by decide +kernel
theorem dX11_feed_27 : decode cX11_feed 27 = .ok (.invokevirtual 98, 3) := by decide +kernel
theorem dX11_feed_30 : decode cX11_feed 30 = .ok (.aload_n 0, 1) := by decide +kernel
theorem dX11_feed_31 : decode cX11_feed 31 = .ok (.iload 4, 2) := by decide +kernel
theorem dX11_feed_33 : decode cX11_feed 33 = .ok (.invokevirtual 98, 3) := by decide +kernel
theorem dX11_feed_36 : decode cX11_feed 36 = .ok (.aload_n 0, 1) := by decide +kernel
theorem dX11_feed_37 : decode cX11_feed 37 = .ok (.iload 5, 2) := by decide +kernel
theorem dX11_feed_39 : decode cX11_feed 39 = .ok (.invokevirtual 98, 3) := by decide +kernel
theorem dX11_feed_42 : decode cX11_feed 42 = .ok (.aload_n 0, 1) := by decide +kernel
theorem dX11_feed_43 : decode cX11_feed 43 = .ok (.getfield 94, 3) := by decide +kernel
theorem dX11_feed_46 : decode cX11_feed 46 = .ok (.ireturn, 1) := by decide +kernel
theorem dX11_fits_0 : decode cX11_fits 0 = .ok (.aload_n 0, 1) := by decide +kernel
theorem dX11_fits_1 : decode cX11_fits 1 = .ok (.iload_n 1, 1) := by decide +kernel
theorem dX11_fits_2 : decode cX11_fits 2 = .ok (.invokevirtual 287, 3) := by decide +kernel
theorem dX11_fits_5 : decode cX11_fits 5 = .ok (.ifCond .eq 23, 3) := by decide +kernel
theorem dX11_fits_8 : decode cX11_fits 8 = .ok (.aload_n 0, 1) := by decide +kernel
theorem dX11_fits_9 : decode cX11_fits 9 = .ok (.getfield 31, 3) := by decide +kernel
theorem dX11_fits_12 : decode cX11_fits 12 = .ok (.iload_n 2, 1) := by decide +kernel
theorem dX11_fits_13 : decode cX11_fits 13 = .ok (.invokevirtual 132, 3) := by decide +kernel
theorem dX11_fits_16 : decode cX11_fits 16 = .ok (.ifCond .eq 12, 3) := by decide +kernel
theorem dX11_fits_19 : decode cX11_fits 19 = .ok (.iload_n 3, 1) := by decide +kernel
theorem dX11_fits_20 : decode cX11_fits 20 = .ok (.ifCond .lt 8, 3) := by decide +kernel
theorem dX11_fits_23 : decode cX11_fits 23 = .ok (.iload_n 3, 1) := by decide +kernel
theorem dX11_fits_24 : decode cX11_fits 24 = .ok (.iconst 2, 1) := by decide +kernel
theorem dX11_fits_25 : decode cX11_fits 25 = .ok (.if_icmp .le 5, 3) := by decide +kernel
theorem dX11_fits_28 : decode cX11_fits 28 = .ok (.iconst (-1), 1) := by decide +kernel
theorem dX11_fits_29 : decode cX11_fits 29 = .ok (.ireturn, 1) := by decide +kernel
theorem dX11_fits_30 : decode cX11_fits 30 = .ok (.aload_n 0, 1) := by decide +kernel
theorem dX11_fits_31 : decode cX11_fits 31 = .ok (.getfield 90, 3) := by decide +kernel
theorem dX11_fits_34 : decode cX11_fits 34 = .ok (.iload_n 1, 1) := by decide +kernel
theorem dX11_fits_35 : decode cX11_fits 35 = .ok (.iconst 0, 1) := by decide +kernel
theorem dX11_fits_36 : decode cX11_fits 36 = .ok (.invokevirtual 290, 3) := by decide +kernel
theorem dX11_fits_39 : decode cX11_fits 39 = .ok (.iload_n 3, 1) := by decide +kernel
theorem dX11_fits_40 : decode cX11_fits 40 = .ok (.ifCond .ne 11, 3) := by decide +kernel
theorem dX11_fits_43 : decode cX11_fits 43 = .ok (.aload_n 0, 1) := by decide +kernel
theorem dX11_fits_44 : decode cX11_fits 44 = .ok (.getfield 90, 3) := by decide +kernel
theorem dX11_fits_47 : decode cX11_fits 47 = .ok (.getfield 292, 3) := by decide +kernel
theorem dX11_fits_50 : decode cX11_fits 50 = .ok (.ireturn, 1) := by decide +kernel
theorem dX11_fits_51 : decode cX11_fits 51 = .ok (.aload_n 0, 1) := by decide +kernel
theorem dX11_fits_52 : decode cX11_fits 52 = .ok (.getfield 90, 3) := by decide +kernel
theorem dX11_fits_55 : decode cX11_fits 55 = .ok (.getfield 292, 3) := by decide +kernel
theorem dX11_fits_58 : decode cX11_fits 58 = .ok (.ifCond .ne 6, 3) := by decide +kernel
theorem dX11_fits_61 : decode cX11_fits 61 = .ok (.bipush (-2), 2) := by decide +kernel
theorem dX11_fits_63 : decode cX11_fits 63 = .ok (.ireturn, 1) := by decide +kernel
theorem dX11_fits_64 : decode cX11_fits 64 = .ok (.iload_n 3, 1) := by decide +kernel
theorem dX11_fits_65 : decode cX11_fits 65 = .ok (.iconst 1, 1) := by decide +kernel
theorem dX11_fits_66 : decode cX11_fits 66 = .ok (.if_icmp .ne 15, 3) := by decide +kernel
theorem dX11_fits_69 : decode cX11_fits 69 = .ok (.aload_n 0, 1) := by decide +kernel
theorem dX11_fits_70 : decode cX11_fits 70 = .ok (.getfield 90, 3) := by decide +kernel
theorem dX11_fits_73 : decode cX11_fits 73 = .ok (.getfield 295, 3) := by decide +kernel
theorem dX11_fits_76 : decode cX11_fits 76 = .ok (.iload_n 2, 1) := by decide +kernel
theorem dX11_fits_77 : decode cX11_fits 77 = .ok (.iaload, 1) := by decide +kernel
theorem dX11_fits_78 : decode cX11_fits 78 = .ok (.goto 12, 3) := by decide +kernel
theorem dX11_fits_81 : decode cX11_fits 81 = .ok (.aload_n 0, 1) := by decide +kernel
theorem dX11_fits_82 : decode cX11_fits 82 = .ok (.getfield 90, 3) := by decide +kernel
theorem dX11_fits_85 : decode cX11_fits 85 = .ok (.getfield 298, 3) := by decide +kernel
theorem dX11_fits_88 : decode cX11_fits 88 = .ok (.iload_n 2, 1) := by decide +kernel
theorem dX11_fits_89 : decode cX11_fits 89 = .ok (.iaload, 1) := by decide +kernel
theorem dX11_fits_90 : decode cX11_fits 90 = .ok (.ireturn, 1) := by decide +kernel
theorem dX11_image_0 : decode cX11_image 0 = .ok (.iload_n 1, 1) := by decide +kernel
theorem dX11_image_1 : decode cX11_image 1 = .ok (.ifCond .lt 8, 3) := by decide +kernel
theorem dX11_image_4 : decode cX11_image 4 = .ok (.iload_n 1, 1) := by decide +kernel
theorem dX11_image_5 : decode cX11_image 5 = .ok (.iconst 4, 1) := by decide +kernel
theorem dX11_image_6 : decode cX11_image 6 = .ok (.if_icmp .lt 9, 3) := by decide +kernel
theorem dX11_image_9 : decode cX11_image 9 = .ok (.aload_n 0, 1) := by decide +kernel
theorem dX11_image_10 : decode cX11_image 10 = .ok (.iconst 0, 1) := by decide +kernel
theorem dX11_image_11 : decode cX11_image 11 = .ok (.invokevirtual 158, 3) := by decide +kernel
theorem dX11_image_14 : decode cX11_image 14 = .ok (.ireturn, 1) := by decide +kernel
theorem dX11_image_15 : decode cX11_image 15 = .ok (.aload_n 0, 1) := by decide +kernel
theorem dX11_image_16 : decode cX11_image 16 = .ok (.getfield 19, 3) := by decide +kernel
theorem dX11_image_19 : decode cX11_image 19 = .ok (.iload_n 1, 1) := by decide +kernel
theorem dX11_image_20 : decode cX11_image 20 = .ok (.aaload, 1) := by decide +kernel
theorem dX11_image_21 : decode cX11_image 21 = .ok (.ifnonnull 16, 3) := by decide +kernel
theorem dX11_image_24 : decode cX11_image 24 = .ok (.aload_n 0, 1) := by decide +kernel
theorem dX11_image_25 : decode cX11_image 25 = .ok (.getfield 19, 3) := by decide +kernel
theorem dX11_image_28 : decode cX11_image 28 = .ok (.iload_n 1, 1) := by decide +kernel
theorem dX11_image_29 : decode cX11_image 29 = .ok (.new 17, 3) := by decide +kernel
theorem dX11_image_32 : decode cX11_image 32 = .ok (.dup, 1) := by decide +kernel
theorem dX11_image_33 : decode cX11_image 33 = .ok (.invokespecial 23, 3) := by decide +kernel
theorem dX11_image_36 : decode cX11_image 36 = .ok (.aastore, 1) := by decide +kernel
theorem dX11_image_37 : decode cX11_image 37 = .ok (.aload_n 0, 1) := by decide +kernel
theorem dX11_image_38 : decode cX11_image 38 = .ok (.getfield 19, 3) := by decide +kernel
theorem dX11_image_41 : decode cX11_image 41 = .ok (.iload_n 1, 1) := by decide +kernel
theorem dX11_image_42 : decode cX11_image 42 = .ok (.aaload, 1) := by decide +kernel
theorem dX11_image_43 : decode cX11_image 43 = .ok (.aload_n 0, 1) := by decide +kernel
theorem dX11_image_44 : decode cX11_image 44 = .ok (.getfield 31, 3) := by decide +kernel
theorem dX11_image_47 : decode cX11_image 47 = .ok (.invokevirtual 112, 3) := by decide +kernel
theorem dX11_image_50 : decode cX11_image 50 = .ok (.aload_n 0, 1) := by decide +kernel
theorem dX11_image_51 : decode cX11_image 51 = .ok (.getfield 31, 3) := by decide +kernel
theorem dX11_image_54 : decode cX11_image 54 = .ok (.getfield 180, 3) := by decide +kernel
theorem dX11_image_57 : decode cX11_image 57 = .ok (.ireturn, 1) := by decide +kernel
theorem dX11_init_0 : decode cX11_init 0 = .ok (.aload_n 0, 1) := by decide +kernel
theorem dX11_init_1 : decode cX11_init 1 = .ok (.invokespecial 1, 3) := by decide +kernel
theorem dX11_init_4 : decode cX11_init 4 = .ok (.aload_n 0, 1) := by decide +kernel
theorem dX11_init_5 : decode cX11_init 5 = .ok (.sipush 400, 3) := by decide +kernel
theorem dX11_init_8 : decode cX11_init 8 = .ok (.newarray .byte, 2) := by decide +kernel
theorem dX11_init_10 : decode cX11_init 10 = .ok (.putfield 9, 3) := by decide +kernel
theorem dX11_init_13 : decode cX11_init 13 = .ok (.aload_n 0, 1) := by decide +kernel
theorem dX11_init_14 : decode cX11_init 14 = .ok (.iconst 2, 1) := by decide +kernel
theorem dX11_init_15 : decode cX11_init 15 = .ok (.newarray .int, 2) := by decide +kernel
theorem dX11_init_17 : decode cX11_init 17 = .ok (.putfield 13, 3) := by decide +kernel
theorem dX11_init_20 : decode cX11_init 20 = .ok (.aload_n 0, 1) := by decide +kernel
theorem dX11_init_21 : decode cX11_init 21 = .ok (.iconst 4, 1) := by decide +kernel
theorem dX11_init_22 : decode cX11_init 22 = .ok (.anewarray 17, 3) := by decide +kernel
theorem dX11_init_25 : decode cX11_init 25 = .ok (.putfield 19, 3) := by decide +kernel
theorem dX11_init_28 : decode cX11_init 28 = .ok (.new 17, 3) := by decide +kernel
theorem dX11_init_31 : decode cX11_init 31 = .ok (.dup, 1) := by decide +kernel
theorem dX11_init_32 : decode cX11_init 32 = .ok (.invokespecial 23, 3) := by decide +kernel
theorem dX11_init_35 : decode cX11_init 35 = .ok (.astore_n 1, 1) := by decide +kernel
theorem dX11_init_36 : decode cX11_init 36 = .ok (.bipush 6, 2) := by decide +kernel
theorem dX11_init_38 : decode cX11_init 38 = .ok (.anewarray 24, 3) := by decide +kernel
theorem dX11_init_41 : decode cX11_init 41 = .ok (.astore_n 2, 1) := by decide +kernel
theorem dX11_init_42 : decode cX11_init 42 = .ok (.new 26, 3) := by decide +kernel
theorem dX11_init_45 : decode cX11_init 45 = .ok (.dup, 1) := by decide +kernel
theorem dX11_init_46 : decode cX11_init 46 = .ok (.aload_n 1, 1) := by decide +kernel
theorem dX11_init_47 : decode cX11_init 47 = .ok (.aload_n 2, 1) := by decide +kernel
theorem dX11_init_48 : decode cX11_init 48 = .ok (.invokespecial 28, 3) := by decide +kernel
theorem dX11_init_51 : decode cX11_init 51 = .ok (.astore_n 3, 1) := by decide +kernel
theorem dX11_init_52 : decode cX11_init 52 = .ok (.aload_n 0, 1) := by decide +kernel
theorem dX11_init_53 : decode cX11_init 53 = .ok (.aload_n 1, 1) := by decide +kernel
theorem dX11_init_54 : decode cX11_init 54 = .ok (.putfield 31, 3) := by decide +kernel
theorem dX11_init_57 : decode cX11_init 57 = .ok (.aload_n 0, 1) := by decide +kernel
theorem dX11_init_58 : decode cX11_init 58 = .ok (.aload_n 2, 1) := by decide +kernel
theorem dX11_init_59 : decode cX11_init 59 = .ok (.putfield 35, 3) := by decide +kernel
theorem dX11_init_62 : decode cX11_init 62 = .ok (.aload_n 0, 1) := by decide +kernel
theorem dX11_init_63 : decode cX11_init 63 = .ok (.aload_n 3, 1) := by decide +kernel
theorem dX11_init_64 : decode cX11_init 64 = .ok (.putfield 39, 3) := by decide +kernel
theorem dX11_init_67 : decode cX11_init 67 = .ok (.aload_n 0, 1) := by decide +kernel
theorem dX11_init_68 : decode cX11_init 68 = .ok (.new 43, 3) := by decide +kernel
theorem dX11_init_71 : decode cX11_init 71 = .ok (.dup, 1) := by decide +kernel
theorem dX11_init_72 : decode cX11_init 72 = .ok (.invokespecial 45, 3) := by decide +kernel
theorem dX11_init_75 : decode cX11_init 75 = .ok (.putfield 46, 3) := by decide +kernel
theorem dX11_init_78 : decode cX11_init 78 = .ok (.aload_n 0, 1) := by decide +kernel
theorem dX11_init_79 : decode cX11_init 79 = .ok (.new 50, 3) := by decide +kernel
theorem dX11_init_82 : decode cX11_init 82 = .ok (.dup, 1) := by decide +kernel
theorem dX11_init_83 : decode cX11_init 83 = .ok (.invokespecial 52, 3) := by decide +kernel
theorem dX11_init_86 : decode cX11_init 86 = .ok (.putfield 53, 3) := by decide +kernel
theorem dX11_init_89 : decode cX11_init 89 = .ok (.aload_n 0, 1) := by decide +kernel
theorem dX11_init_90 : decode cX11_init 90 = .ok (.new 57, 3) := by decide +kernel
theorem dX11_init_93 : decode cX11_init 93 = .ok (.dup, 1) := by decide +kernel
theorem dX11_init_94 : decode cX11_init 94 = .ok (.aload_n 1, 1) := by decide +kernel
theorem dX11_init_95 : decode cX11_init 95 = .ok (.aload_n 3, 1) := by decide +kernel
theorem dX11_init_96 : decode cX11_init 96 = .ok (.invokespecial 59, 3) := by decide +kernel
theorem dX11_init_99 : decode cX11_init 99 = .ok (.putfield 62, 3) := by decide +kernel
theorem dX11_init_102 : decode cX11_init 102 = .ok (.aload_n 0, 1) := by decide +kernel
theorem dX11_init_103 : decode cX11_init 103 = .ok (.new 66, 3) := by decide +kernel
theorem dX11_init_106 : decode cX11_init 106 = .ok (.dup, 1) := by decide +kernel
theorem dX11_init_107 : decode cX11_init 107 = .ok (.aload_n 1, 1) := by decide +kernel
theorem dX11_init_108 : decode cX11_init 108 = .ok (.aload_n 3, 1) := by decide +kernel
theorem dX11_init_109 : decode cX11_init 109 = .ok (.invokespecial 68, 3) := by decide +kernel
theorem dX11_init_112 : decode cX11_init 112 = .ok (.putfield 69, 3) := by decide +kernel
theorem dX11_init_115 : decode cX11_init 115 = .ok (.aload_n 0, 1) := by decide +kernel
theorem dX11_init_116 : decode cX11_init 116 = .ok (.new 73, 3) := by decide +kernel
theorem dX11_init_119 : decode cX11_init 119 = .ok (.dup, 1) := by decide +kernel
theorem dX11_init_120 : decode cX11_init 120 = .ok (.aload_n 1, 1) := by decide +kernel
theorem dX11_init_121 : decode cX11_init 121 = .ok (.aload_n 3, 1) := by decide +kernel
theorem dX11_init_122 : decode cX11_init 122 = .ok (.invokespecial 75, 3) := by decide +kernel
theorem dX11_init_125 : decode cX11_init 125 = .ok (.putfield 76, 3) := by decide +kernel
theorem dX11_init_128 : decode cX11_init 128 = .ok (.aload_n 0, 1) := by decide +kernel
theorem dX11_init_129 : decode cX11_init 129 = .ok (.new 80, 3) := by decide +kernel
theorem dX11_init_132 : decode cX11_init 132 = .ok (.dup, 1) := by decide +kernel
theorem dX11_init_133 : decode cX11_init 133 = .ok (.aload_n 1, 1) := by decide +kernel
theorem dX11_init_134 : decode cX11_init 134 = .ok (.aload_n 3, 1) := by decide +kernel
theorem dX11_init_135 : decode cX11_init 135 = .ok (.invokespecial 82, 3) := by decide +kernel
theorem dX11_init_138 : decode cX11_init 138 = .ok (.putfield 83, 3) := by decide +kernel
theorem dX11_init_141 : decode cX11_init 141 = .ok (.aload_n 0, 1) := by decide +kernel
theorem dX11_init_142 : decode cX11_init 142 = .ok (.new 87, 3) := by decide +kernel
theorem dX11_init_145 : decode cX11_init 145 = .ok (.dup, 1) := by decide +kernel
theorem dX11_init_146 : decode cX11_init 146 = .ok (.aload_n 1, 1) := by decide +kernel
theorem dX11_init_147 : decode cX11_init 147 = .ok (.aload_n 3, 1) := by decide +kernel
theorem dX11_init_148 : decode cX11_init 148 = .ok (.invokespecial 89, 3) := by decide +kernel
theorem dX11_init_151 : decode cX11_init 151 = .ok (.putfield 90, 3) := by decide +kernel
theorem dX11_init_154 : decode cX11_init 154 = .ok (.return_, 1) := by decide +kernel
theorem dX11_isForBooks_0 : decode cX11_isForBooks 0 = .ok (.aload_n 0, 1) := by decide +kernel
theorem dX11_isForBooks_1 : decode cX11_isForBooks 1 = .ok (.getfield 31, 3) := by decide +kernel
theorem dX11_isForBooks_4 : decode cX11_isForBooks 4 = .ok (.invokevirtual 170, 3) := by decide +kernel
theorem dX11_isForBooks_7 : decode cX11_isForBooks 7 = .ok (.ifCond .eq 29, 3) := by decide +kernel
theorem dX11_isForBooks_10 : decode cX11_isForBooks 10 = .ok (.aload_n 0, 1) := by decide +kernel
theorem dX11_isForBooks_11 : decode cX11_isForBooks 11 = .ok (.getfield 31, 3) := by decide +kernel
theorem dX11_isForBooks_14 : decode cX11_isForBooks 14 = .ok (.getfield 116, 3) := by decide +kernel
theorem dX11_isForBooks_17 : decode cX11_isForBooks 17 = .ok (.iconst 5, 1) := by decide +kernel
theorem dX11_isForBooks_18 : decode cX11_isForBooks 18 = .ok (.if_icmp .gt 18, 3) := by decide +kernel
theorem dX11_isForBooks_21 : decode cX11_isForBooks 21 = .ok (.iload_n 1, 1) := by decide +kernel
theorem dX11_isForBooks_22 : decode cX11_isForBooks 22 = .ok (.iconst 1, 1) := by decide +kernel
theorem dX11_isForBooks_23 : decode cX11_isForBooks 23 = .ok (.if_icmp .lt 13, 3) := by decide +kernel
theorem dX11_isForBooks_26 : decode cX11_isForBooks 26 = .ok (.iload_n 1, 1) := by decide +kernel
theorem dX11_isForBooks_27 : decode cX11_isForBooks 27 = .ok (.bipush 6, 2) := by decide +kernel
theorem dX11_isForBooks_29 : decode cX11_isForBooks 29 = .ok (.if_icmp .gt 7, 3) := by decide +kernel
theorem dX11_isForBooks_32 : decode cX11_isForBooks 32 = .ok (.iconst 1, 1) := by decide +kernel
theorem dX11_isForBooks_33 : decode cX11_isForBooks 33 = .ok (.goto 4, 3) := by decide +kernel
theorem dX11_isForBooks_36 : decode cX11_isForBooks 36 = .ok (.iconst 0, 1) := by decide +kernel
theorem dX11_isForBooks_37 : decode cX11_isForBooks 37 = .ok (.ireturn, 1) := by decide +kernel
theorem dX11_isSum_0 : decode cX11_isSum 0 = .ok (.iload_n 0, 1) := by decide +kernel
theorem dX11_isSum_1 : decode cX11_isSum 1 = .ok (.ifCond .lt 14, 3) := by decide +kernel
theorem dX11_isSum_4 : decode cX11_isSum 4 = .ok (.iload_n 0, 1) := by decide +kernel
theorem dX11_isSum_5 : decode cX11_isSum 5 = .ok (.ldc_w 286, 3) := by decide +kernel
theorem dX11_isSum_8 : decode cX11_isSum 8 = .ok (.if_icmp .gt 7, 3) := by decide +kernel
theorem dX11_isSum_11 : decode cX11_isSum 11 = .ok (.iconst 1, 1) := by decide +kernel
theorem dX11_isSum_12 : decode cX11_isSum 12 = .ok (.goto 4, 3) := by decide +kernel
theorem dX11_isSum_15 : decode cX11_isSum 15 = .ok (.iconst 0, 1) := by decide +kernel
theorem dX11_isSum_16 : decode cX11_isSum 16 = .ok (.ireturn, 1) := by decide +kernel
theorem dX11_lay_0 : decode cX11_lay 0 = .ok (.bipush 24, 2) := by decide +kernel
theorem dX11_lay_2 : decode cX11_lay 2 = .ok (.istore_n 2, 1) := by decide +kernel
theorem dX11_lay_3 : decode cX11_lay 3 = .ok (.iload_n 2, 1) := by decide +kernel
theorem dX11_lay_4 : decode cX11_lay 4 = .ok (.ifCond .lt 42, 3) := by decide +kernel
theorem dX11_lay_7 : decode cX11_lay 7 = .ok (.aload_n 0, 1) := by decide +kernel
theorem dX11_lay_8 : decode cX11_lay 8 = .ok (.getfield 94, 3) := by decide +kernel
theorem dX11_lay_11 : decode cX11_lay 11 = .ok (.sipush 400, 3) := by decide +kernel
theorem dX11_lay_14 : decode cX11_lay 14 = .ok (.if_icmp .ge 32, 3) := by decide +kernel
theorem dX11_lay_17 : decode cX11_lay 17 = .ok (.aload_n 0, 1) := by decide +kernel
theorem dX11_lay_18 : decode cX11_lay 18 = .ok (.getfield 9, 3) := by decide +kernel
theorem dX11_lay_21 : decode cX11_lay 21 = .ok (.aload_n 0, 1) := by decide +kernel
theorem dX11_lay_22 : decode cX11_lay 22 = .ok (.getfield 94, 3) := by decide +kernel
theorem dX11_lay_25 : decode cX11_lay 25 = .ok (.iload_n 1, 1) := by decide +kernel
theorem dX11_lay_26 : decode cX11_lay 26 = .ok (.iload_n 2, 1) := by decide +kernel
theorem dX11_lay_27 : decode cX11_lay 27 = .ok (.ishr, 1) := by decide +kernel
theorem dX11_lay_28 : decode cX11_lay 28 = .ok (.i2b, 1) := by decide +kernel
theorem dX11_lay_29 : decode cX11_lay 29 = .ok (.bastore, 1) := by decide +kernel
theorem dX11_lay_30 : decode cX11_lay 30 = .ok (.aload_n 0, 1) := by decide +kernel
theorem dX11_lay_31 : decode cX11_lay 31 = .ok (.dup, 1) := by decide +kernel
theorem dX11_lay_32 : decode cX11_lay 32 = .ok (.getfield 94, 3) := by decide +kernel
theorem dX11_lay_35 : decode cX11_lay 35 = .ok (.iconst 1, 1) := by decide +kernel
theorem dX11_lay_36 : decode cX11_lay 36 = .ok (.iadd, 1) := by decide +kernel
theorem dX11_lay_37 : decode cX11_lay 37 = .ok (.putfield 94, 3) := by decide +kernel
theorem dX11_lay_40 : decode cX11_lay 40 = .ok (.iinc 2 (-8), 3) := by decide +kernel
theorem dX11_lay_43 : decode cX11_lay 43 = .ok (.goto (-40), 3) := by decide +kernel
theorem dX11_lay_46 : decode cX11_lay 46 = .ok (.return_, 1) := by decide +kernel
theorem dX11_lose_0 : decode cX11_lose 0 = .ok (.aload_n 0, 1) := by decide +kernel
theorem dX11_lose_1 : decode cX11_lose 1 = .ok (.iload_n 1, 1) := by decide +kernel
theorem dX11_lose_2 : decode cX11_lose 2 = .ok (.invokevirtual 226, 3) := by decide +kernel
theorem dX11_lose_5 : decode cX11_lose 5 = .ok (.ifCond .ne 5, 3) := by decide +kernel
theorem dX11_lose_8 : decode cX11_lose 8 = .ok (.iconst (-1), 1) := by decide +kernel
theorem dX11_lose_9 : decode cX11_lose 9 = .ok (.ireturn, 1) := by decide +kernel
theorem dX11_lose_10 : decode cX11_lose 10 = .ok (.aload_n 0, 1) := by decide +kernel
theorem dX11_lose_11 : decode cX11_lose 11 = .ok (.getfield 69, 3) := by decide +kernel
theorem dX11_lose_14 : decode cX11_lose 14 = .ok (.iload_n 1, 1) := by decide +kernel
theorem dX11_lose_15 : decode cX11_lose 15 = .ok (.invokevirtual 229, 3) := by decide +kernel
theorem dX11_lose_18 : decode cX11_lose 18 = .ok (.ifCond .eq 13, 3) := by decide +kernel
theorem dX11_lose_21 : decode cX11_lose 21 = .ok (.aload_n 0, 1) := by decide +kernel
theorem dX11_lose_22 : decode cX11_lose 22 = .ok (.getfield 69, 3) := by decide +kernel
theorem dX11_lose_25 : decode cX11_lose 25 = .ok (.getfield 232, 3) := by decide +kernel
theorem dX11_lose_28 : decode cX11_lose 28 = .ok (.goto 5, 3) := by decide +kernel
theorem dX11_lose_31 : decode cX11_lose 31 = .ok (.bipush (-2), 2) := by decide +kernel
theorem dX11_lose_33 : decode cX11_lose 33 = .ok (.ireturn, 1) := by decide +kernel
theorem dX11_mayThrow_0 : decode cX11_mayThrow 0 = .ok (.aload_n 0, 1) := by decide +kernel
theorem dX11_mayThrow_1 : decode cX11_mayThrow 1 = .ok (.getfield 31, 3) := by decide +kernel
theorem dX11_mayThrow_4 : decode cX11_mayThrow 4 = .ok (.iload_n 1, 1) := by decide +kernel
theorem dX11_mayThrow_5 : decode cX11_mayThrow 5 = .ok (.invokevirtual 242, 3) := by decide +kernel
theorem dX11_mayThrow_8 : decode cX11_mayThrow 8 = .ok (.ifCond .eq 25, 3) := by decide +kernel
theorem dX11_mayThrow_11 : decode cX11_mayThrow 11 = .ok (.iload_n 1, 1) := by decide +kernel
theorem dX11_mayThrow_12 : decode cX11_mayThrow 12 = .ok (.invokestatic 165, 3) := by decide +kernel
theorem dX11_mayThrow_15 : decode cX11_mayThrow 15 = .ok (.iconst 3, 1) := by decide +kernel
theorem dX11_mayThrow_16 : decode cX11_mayThrow 16 = .ok (.if_icmp .gt 17, 3) := by decide +kernel
theorem dX11_mayThrow_19 : decode cX11_mayThrow 19 = .ok (.aload_n 0, 1) := by decide +kernel
theorem dX11_mayThrow_20 : decode cX11_mayThrow 20 = .ok (.getfield 31, 3) := by decide +kernel
theorem dX11_mayThrow_23 : decode cX11_mayThrow 23 = .ok (.invokevirtual 245, 3) := by decide +kernel
theorem dX11_mayThrow_26 : decode cX11_mayThrow 26 = .ok (.ifCond .eq 7, 3) := by decide +kernel
theorem dX11_mayThrow_29 : decode cX11_mayThrow 29 = .ok (.iconst 1, 1) := by decide +kernel
theorem dX11_mayThrow_30 : decode cX11_mayThrow 30 = .ok (.goto 4, 3) := by decide +kernel
theorem dX11_mayThrow_33 : decode cX11_mayThrow 33 = .ok (.iconst 0, 1) := by decide +kernel
theorem dX11_mayThrow_34 : decode cX11_mayThrow 34 = .ok (.ireturn, 1) := by decide +kernel
theorem dX11_open_0 : decode cX11_open 0 = .ok (.iload_n 1, 1) := by decide +kernel
theorem dX11_open_1 : decode cX11_open 1 = .ok (.ifCond .lt 29, 3) := by decide +kernel
theorem dX11_open_4 : decode cX11_open 4 = .ok (.iload_n 1, 1) := by decide +kernel
theorem dX11_open_5 : decode cX11_open 5 = .ok (.bipush 60, 2) := by decide +kernel
theorem dX11_open_7 : decode cX11_open 7 = .ok (.if_icmp .gt 23, 3) := by decide +kernel
theorem dX11_open_10 : decode cX11_open 10 = .ok (.aload_n 0, 1) := by decide +kernel
theorem dX11_open_11 : decode cX11_open 11 = .ok (.getfield 31, 3) := by decide +kernel
