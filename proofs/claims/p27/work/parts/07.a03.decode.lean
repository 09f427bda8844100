theorem dX12_isWord_46 : decode cX12_isWord 46 = .ok (.baload, 1) := by decide +kernel
theorem dX12_isWord_47 : decode cX12_isWord 47 = .ok (.i2l, 1) := by decide +kernel
theorem dX12_isWord_48 : decode cX12_isWord 48 = .ok (.lor, 1) := by decide +kernel
theorem dX12_isWord_49 : decode cX12_isWord 49 = .ok (.lstore_n 3, 1) := by decide +kernel
theorem dX12_isWord_50 : decode cX12_isWord 50 = .ok (.iinc 5 1, 3) := by decide +kernel
theorem dX12_isWord_53 : decode cX12_isWord 53 = .ok (.goto (-43), 3) := by decide +kernel
theorem dX12_isWord_56 : decode cX12_isWord 56 = .ok (.iload 5, 2) := by decide +kernel
theorem dX12_isWord_58 : decode cX12_isWord 58 = .ok (.ifCond .le 20, 3) := by decide +kernel
theorem dX12_isWord_61 : decode cX12_isWord 61 = .ok (.iload 5, 2) := by decide +kernel
theorem dX12_isWord_63 : decode cX12_isWord 63 = .ok (.bipush 8, 2) := by decide +kernel
theorem dX12_isWord_65 : decode cX12_isWord 65 = .ok (.if_icmp .ge 13, 3) := by decide +kernel
theorem dX12_isWord_68 : decode cX12_isWord 68 = .ok (.lload_n 3, 1) := by decide +kernel
theorem dX12_isWord_69 : decode cX12_isWord 69 = .ok (.lload_n 1, 1) := by decide +kernel
theorem dX12_isWord_70 : decode cX12_isWord 70 = .ok (.lcmp, 1) := by decide +kernel
theorem dX12_isWord_71 : decode cX12_isWord 71 = .ok (.ifCond .ne 7, 3) := by decide +kernel
theorem dX12_isWord_74 : decode cX12_isWord 74 = .ok (.iconst 1, 1) := by decide +kernel
theorem dX12_isWord_75 : decode cX12_isWord 75 = .ok (.goto 4, 3) := by decide +kernel
theorem dX12_isWord_78 : decode cX12_isWord 78 = .ok (.iconst 0, 1) := by decide +kernel
theorem dX12_isWord_79 : decode cX12_isWord 79 = .ok (.ireturn, 1) := by decide +kernel
theorem dX12_keepsDay_0 : decode cX12_keepsDay 0 = .ok (.iconst 0, 1) := by decide +kernel
theorem dX12_keepsDay_1 : decode cX12_keepsDay 1 = .ok (.istore_n 2, 1) := by decide +kernel
theorem dX12_keepsDay_2 : decode cX12_keepsDay 2 = .ok (.iload_n 2, 1) := by decide +kernel
theorem dX12_keepsDay_3 : decode cX12_keepsDay 3 = .ok (.bipush 10, 2) := by decide +kernel
theorem dX12_keepsDay_5 : decode cX12_keepsDay 5 = .ok (.if_icmp .ge 43, 3) := by decide +kernel
theorem dX12_keepsDay_8 : decode cX12_keepsDay 8 = .ok (.aload_n 0, 1) := by decide +kernel
theorem dX12_keepsDay_9 : decode cX12_keepsDay 9 = .ok (.getfield 93, 3) := by decide +kernel
theorem dX12_keepsDay_12 : decode cX12_keepsDay 12 = .ok (.bipush 10, 2) := by decide +kernel
theorem dX12_keepsDay_14 : decode cX12_keepsDay 14 = .ok (.iload_n 1, 1) := by decide +kernel
theorem dX12_keepsDay_15 : decode cX12_keepsDay 15 = .ok (.imul, 1) := by decide +kernel
theorem dX12_keepsDay_16 : decode cX12_keepsDay 16 = .ok (.iload_n 2, 1) := by decide +kernel
theorem dX12_keepsDay_17 : decode cX12_keepsDay 17 = .ok (.iadd, 1) := by decide +kernel
theorem dX12_keepsDay_18 : decode cX12_keepsDay 18 = .ok (.aload_n 0, 1) := by decide +kernel
theorem dX12_keepsDay_19 : decode cX12_keepsDay 19 = .ok (.getfield 51, 3) := by decide +kernel
theorem dX12_keepsDay_22 : decode cX12_keepsDay 22 = .ok (.iload_n 2, 1) := by decide +kernel
theorem dX12_keepsDay_23 : decode cX12_keepsDay 23 = .ok (.iaload, 1) := by decide +kernel
theorem dX12_keepsDay_24 : decode cX12_keepsDay 24 = .ok (.iastore, 1) := by decide +kernel
theorem dX12_keepsDay_25 : decode cX12_keepsDay 25 = .ok (.aload_n 0, 1) := by decide +kernel
theorem dX12_keepsDay_26 : decode cX12_keepsDay 26 = .ok (.getfield 96, 3) := by decide +kernel
theorem dX12_keepsDay_29 : decode cX12_keepsDay 29 = .ok (.bipush 10, 2) := by decide +kernel
theorem dX12_keepsDay_31 : decode cX12_keepsDay 31 = .ok (.iload_n 1, 1) := by decide +kernel
theorem dX12_keepsDay_32 : decode cX12_keepsDay 32 = .ok (.imul, 1) := by decide +kernel
theorem dX12_keepsDay_33 : decode cX12_keepsDay 33 = .ok (.iload_n 2, 1) := by decide +kernel
theorem dX12_keepsDay_34 : decode cX12_keepsDay 34 = .ok (.iadd, 1) := by decide +kernel
theorem dX12_keepsDay_35 : decode cX12_keepsDay 35 = .ok (.aload_n 0, 1) := by decide +kernel
theorem dX12_keepsDay_36 : decode cX12_keepsDay 36 = .ok (.getfield 57, 3) := by decide +kernel
theorem dX12_keepsDay_39 : decode cX12_keepsDay 39 = .ok (.iload_n 2, 1) := by decide +kernel
theorem dX12_keepsDay_40 : decode cX12_keepsDay 40 = .ok (.iaload, 1) := by decide +kernel
theorem dX12_keepsDay_41 : decode cX12_keepsDay 41 = .ok (.iastore, 1) := by decide +kernel
theorem dX12_keepsDay_42 : decode cX12_keepsDay 42 = .ok (.iinc 2 1, 3) := by decide +kernel
theorem dX12_keepsDay_45 : decode cX12_keepsDay 45 = .ok (.goto (-43), 3) := by decide +kernel
theorem dX12_keepsDay_48 : decode cX12_keepsDay 48 = .ok (.aload_n 0, 1) := by decide +kernel
theorem dX12_keepsDay_49 : decode cX12_keepsDay 49 = .ok (.getfield 99, 3) := by decide +kernel
theorem dX12_keepsDay_52 : decode cX12_keepsDay 52 = .ok (.iload_n 1, 1) := by decide +kernel
theorem dX12_keepsDay_53 : decode cX12_keepsDay 53 = .ok (.aload_n 0, 1) := by decide +kernel
theorem dX12_keepsDay_54 : decode cX12_keepsDay 54 = .ok (.getfield 407, 3) := by decide +kernel
theorem dX12_keepsDay_57 : decode cX12_keepsDay 57 = .ok (.iastore, 1) := by decide +kernel
theorem dX12_keepsDay_58 : decode cX12_keepsDay 58 = .ok (.return_, 1) := by decide +kernel
theorem dX12_lose_0 : decode cX12_lose 0 = .ok (.aload_n 0, 1) := by decide +kernel
theorem dX12_lose_1 : decode cX12_lose 1 = .ok (.iload_n 1, 1) := by decide +kernel
theorem dX12_lose_2 : decode cX12_lose 2 = .ok (.invokevirtual 446, 3) := by decide +kernel
theorem dX12_lose_5 : decode cX12_lose 5 = .ok (.ifCond .ne 5, 3) := by decide +kernel
theorem dX12_lose_8 : decode cX12_lose 8 = .ok (.iconst (-1), 1) := by decide +kernel
theorem dX12_lose_9 : decode cX12_lose 9 = .ok (.ireturn, 1) := by decide +kernel
theorem dX12_lose_10 : decode cX12_lose 10 = .ok (.aload_n 0, 1) := by decide +kernel
theorem dX12_lose_11 : decode cX12_lose 11 = .ok (.iload_n 1, 1) := by decide +kernel
theorem dX12_lose_12 : decode cX12_lose 12 = .ok (.invokevirtual 449, 3) := by decide +kernel
theorem dX12_lose_15 : decode cX12_lose 15 = .ok (.aload_n 0, 1) := by decide +kernel
theorem dX12_lose_16 : decode cX12_lose 16 = .ok (.getfield 431, 3) := by decide +kernel
theorem dX12_lose_19 : decode cX12_lose 19 = .ok (.ifCond .ge 8, 3) := by decide +kernel
theorem dX12_lose_22 : decode cX12_lose 22 = .ok (.bipush (-2), 2) := by decide +kernel
theorem dX12_lose_24 : decode cX12_lose 24 = .ok (.goto 7, 3) := by decide +kernel
theorem dX12_lose_27 : decode cX12_lose 27 = .ok (.aload_n 0, 1) := by decide +kernel
theorem dX12_lose_28 : decode cX12_lose 28 = .ok (.getfield 431, 3) := by decide +kernel
theorem dX12_lose_31 : decode cX12_lose 31 = .ok (.ireturn, 1) := by decide +kernel
theorem dX12_makes_0 : decode cX12_makes 0 = .ok (.aload_n 0, 1) := by decide +kernel
theorem dX12_makes_1 : decode cX12_makes 1 = .ok (.getfield 182, 3) := by decide +kernel
theorem dX12_makes_4 : decode cX12_makes 4 = .ok (.bipush 60, 2) := by decide +kernel
theorem dX12_makes_6 : decode cX12_makes 6 = .ok (.if_icmp .ne 10, 3) := by decide +kernel
theorem dX12_makes_9 : decode cX12_makes 9 = .ok (.aload_n 0, 1) := by decide +kernel
theorem dX12_makes_10 : decode cX12_makes 10 = .ok (.iconst 3, 1) := by decide +kernel
theorem dX12_makes_11 : decode cX12_makes 11 = .ok (.iload_n 1, 1) := by decide +kernel
theorem dX12_makes_12 : decode cX12_makes 12 = .ok (.invokevirtual 148, 3) := by decide +kernel
theorem dX12_makes_15 : decode cX12_makes 15 = .ok (.ireturn, 1) := by decide +kernel
theorem dX12_makes_16 : decode cX12_makes 16 = .ok (.aload_n 0, 1) := by decide +kernel
theorem dX12_makes_17 : decode cX12_makes 17 = .ok (.dup, 1) := by decide +kernel
theorem dX12_makes_18 : decode cX12_makes 18 = .ok (.getfield 182, 3) := by decide +kernel
theorem dX12_makes_21 : decode cX12_makes 21 = .ok (.iconst 1, 1) := by decide +kernel
theorem dX12_makes_22 : decode cX12_makes 22 = .ok (.iadd, 1) := by decide +kernel
theorem dX12_makes_23 : decode cX12_makes 23 = .ok (.putfield 182, 3) := by decide +kernel
theorem dX12_makes_26 : decode cX12_makes 26 = .ok (.iconst 1, 1) := by decide +kernel
theorem dX12_makes_27 : decode cX12_makes 27 = .ok (.ireturn, 1) := by decide +kernel
theorem dX12_mostAlike_0 : decode cX12_mostAlike 0 = .ok (.iconst 0, 1) := by decide +kernel
theorem dX12_mostAlike_1 : decode cX12_mostAlike 1 = .ok (.istore_n 3, 1) := by decide +kernel
theorem dX12_mostAlike_2 : decode cX12_mostAlike 2 = .ok (.iload_n 3, 1) := by decide +kernel
theorem dX12_mostAlike_3 : decode cX12_mostAlike 3 = .ok (.ldc 105, 2) := by decide +kernel
theorem dX12_mostAlike_5 : decode cX12_mostAlike 5 = .ok (.if_icmp .ge 16, 3) := by decide +kernel
theorem dX12_mostAlike_8 : decode cX12_mostAlike 8 = .ok (.aload_n 0, 1) := by decide +kernel
theorem dX12_mostAlike_9 : decode cX12_mostAlike 9 = .ok (.getfield 106, 3) := by decide +kernel
theorem dX12_mostAlike_12 : decode cX12_mostAlike 12 = .ok (.iload_n 3, 1) := by decide +kernel
theorem dX12_mostAlike_13 : decode cX12_mostAlike 13 = .ok (.iconst 0, 1) := by decide +kernel
theorem dX12_mostAlike_14 : decode cX12_mostAlike 14 = .ok (.iastore, 1) := by decide +kernel
theorem dX12_mostAlike_15 : decode cX12_mostAlike 15 = .ok (.iinc 3 1, 3) := by decide +kernel
theorem dX12_mostAlike_18 : decode cX12_mostAlike 18 = .ok (.goto (-16), 3) := by decide +kernel
theorem dX12_mostAlike_21 : decode cX12_mostAlike 21 = .ok (.iconst 0, 1) := by decide +kernel
theorem dX12_mostAlike_22 : decode cX12_mostAlike 22 = .ok (.istore_n 3, 1) := by decide +kernel
theorem dX12_mostAlike_23 : decode cX12_mostAlike 23 = .ok (.iconst 0, 1) := by decide +kernel
theorem dX12_mostAlike_24 : decode cX12_mostAlike 24 = .ok (.istore 4, 2) := by decide +kernel
theorem dX12_mostAlike_26 : decode cX12_mostAlike 26 = .ok (.iload 4, 2) := by decide +kernel
theorem dX12_mostAlike_28 : decode cX12_mostAlike 28 = .ok (.aload_n 0, 1) := by decide +kernel
theorem dX12_mostAlike_29 : decode cX12_mostAlike 29 = .ok (.iload_n 2, 1) := by decide +kernel
theorem dX12_mostAlike_30 : decode cX12_mostAlike 30 = .ok (.invokevirtual 489, 3) := by decide +kernel
theorem dX12_mostAlike_33 : decode cX12_mostAlike 33 = .ok (.if_icmp .ge 63, 3) := by decide +kernel
theorem dX12_mostAlike_36 : decode cX12_mostAlike 36 = .ok (.aload_n 0, 1) := by decide +kernel
theorem dX12_mostAlike_37 : decode cX12_mostAlike 37 = .ok (.iload 4, 2) := by decide +kernel
theorem dX12_mostAlike_39 : decode cX12_mostAlike 39 = .ok (.iload_n 2, 1) := by decide +kernel
theorem dX12_mostAlike_40 : decode cX12_mostAlike 40 = .ok (.invokevirtual 492, 3) := by decide +kernel
theorem dX12_mostAlike_43 : decode cX12_mostAlike 43 = .ok (.ifCond .ne 6, 3) := by decide +kernel
theorem dX12_mostAlike_46 : decode cX12_mostAlike 46 = .ok (.goto 44, 3) := by decide +kernel
theorem dX12_mostAlike_49 : decode cX12_mostAlike 49 = .ok (.aload_n 0, 1) := by decide +kernel
theorem dX12_mostAlike_50 : decode cX12_mostAlike 50 = .ok (.iload_n 1, 1) := by decide +kernel
theorem dX12_mostAlike_51 : decode cX12_mostAlike 51 = .ok (.invokevirtual 380, 3) := by decide +kernel
theorem dX12_mostAlike_54 : decode cX12_mostAlike 54 = .ok (.istore 5, 2) := by decide +kernel
theorem dX12_mostAlike_56 : decode cX12_mostAlike 56 = .ok (.aload_n 0, 1) := by decide +kernel
theorem dX12_mostAlike_57 : decode cX12_mostAlike 57 = .ok (.getfield 106, 3) := by decide +kernel
theorem dX12_mostAlike_60 : decode cX12_mostAlike 60 = .ok (.iload 5, 2) := by decide +kernel
theorem dX12_mostAlike_62 : decode cX12_mostAlike 62 = .ok (.dup2, 1) := by decide +kernel
theorem dX12_mostAlike_63 : decode cX12_mostAlike 63 = .ok (.iaload, 1) := by decide +kernel
theorem dX12_mostAlike_64 : decode cX12_mostAlike 64 = .ok (.iconst 1, 1) := by decide +kernel
theorem dX12_mostAlike_65 : decode cX12_mostAlike 65 = .ok (.iadd, 1) := by decide +kernel
theorem dX12_mostAlike_66 : decode cX12_mostAlike 66 = .ok (.iastore, 1) := by decide +kernel
theorem dX12_mostAlike_67 : decode cX12_mostAlike 67 = .ok (.aload_n 0, 1) := by decide +kernel
theorem dX12_mostAlike_68 : decode cX12_mostAlike 68 = .ok (.getfield 106, 3) := by decide +kernel
theorem dX12_mostAlike_71 : decode cX12_mostAlike 71 = .ok (.iload 5, 2) := by decide +kernel
theorem dX12_mostAlike_73 : decode cX12_mostAlike 73 = .ok (.iaload, 1) := by decide +kernel
theorem dX12_mostAlike_74 : decode cX12_mostAlike 74 = .ok (.iload_n 3, 1) := by decide +kernel
theorem dX12_mostAlike_75 : decode cX12_mostAlike 75 = .ok (.if_icmp .le 13, 3) := by decide +kernel
theorem dX12_mostAlike_78 : decode cX12_mostAlike 78 = .ok (.aload_n 0, 1) := by decide +kernel
theorem dX12_mostAlike_79 : decode cX12_mostAlike 79 = .ok (.getfield 106, 3) := by decide +kernel
theorem dX12_mostAlike_82 : decode cX12_mostAlike 82 = .ok (.iload 5, 2) := by decide +kernel
theorem dX12_mostAlike_84 : decode cX12_mostAlike 84 = .ok (.iaload, 1) := by decide +kernel
theorem dX12_mostAlike_85 : decode cX12_mostAlike 85 = .ok (.goto 4, 3) := by decide +kernel
theorem dX12_mostAlike_88 : decode cX12_mostAlike 88 = .ok (.iload_n 3, 1) := by decide +kernel
theorem dX12_mostAlike_89 : decode cX12_mostAlike 89 = .ok (.istore_n 3, 1) := by decide +kernel
theorem dX12_mostAlike_90 : decode cX12_mostAlike 90 = .ok (.iinc 4 1, 3) := by decide +kernel
theorem dX12_mostAlike_93 : decode cX12_mostAlike 93 = .ok (.goto (-67), 3) := by decide +kernel
theorem dX12_mostAlike_96 : decode cX12_mostAlike 96 = .ok (.iload_n 3, 1) := by decide +kernel
theorem dX12_mostAlike_97 : decode cX12_mostAlike 97 = .ok (.ireturn, 1) := by decide +kernel
theorem dX12_numberHere_0 : decode cX12_numberHere 0 = .ok (.aload_n 0, 1) := by decide +kernel
theorem dX12_numberHere_1 : decode cX12_numberHere 1 = .ok (.invokevirtual 130, 3) := by decide +kernel
theorem dX12_numberHere_4 : decode cX12_numberHere 4 = .ok (.pop, 1) := by decide +kernel
theorem dX12_numberHere_5 : decode cX12_numberHere 5 = .ok (.aload_n 0, 1) := by decide +kernel
theorem dX12_numberHere_6 : decode cX12_numberHere 6 = .ok (.aload_n 0, 1) := by decide +kernel
theorem dX12_numberHere_7 : decode cX12_numberHere 7 = .ok (.getfield 127, 3) := by decide +kernel
theorem dX12_numberHere_10 : decode cX12_numberHere 10 = .ok (.invokevirtual 145, 3) := by decide +kernel
theorem dX12_numberHere_13 : decode cX12_numberHere 13 = .ok (.ifCond .ne 13, 3) := by decide +kernel
theorem dX12_numberHere_16 : decode cX12_numberHere 16 = .ok (.aload_n 0, 1) := by decide +kernel
theorem dX12_numberHere_17 : decode cX12_numberHere 17 = .ok (.iconst 0, 1) := by decide +kernel
theorem dX12_numberHere_18 : decode cX12_numberHere 18 = .ok (.aload_n 0, 1) := by decide +kernel
theorem dX12_numberHere_19 : decode cX12_numberHere 19 = .ok (.getfield 127, 3) := by decide +kernel
theorem dX12_numberHere_22 : decode cX12_numberHere 22 = .ok (.invokevirtual 148, 3) := by decide +kernel
theorem dX12_numberHere_25 : decode cX12_numberHere 25 = .ok (.ireturn, 1) := by decide +kernel
theorem dX12_numberHere_26 : decode cX12_numberHere 26 = .ok (.aload_n 0, 1) := by decide +kernel
theorem dX12_numberHere_27 : decode cX12_numberHere 27 = .ok (.getfield 127, 3) := by decide +kernel
theorem dX12_numberHere_30 : decode cX12_numberHere 30 = .ok (.istore_n 3, 1) := by decide +kernel
theorem dX12_numberHere_31 : decode cX12_numberHere 31 = .ok (.iconst 0, 1) := by decide +kernel
theorem dX12_numberHere_32 : decode cX12_numberHere 32 = .ok (.istore 4, 2) := by decide +kernel
theorem dX12_numberHere_34 : decode cX12_numberHere 34 = .ok (.aload_n 0, 1) := by decide +kernel
theorem dX12_numberHere_35 : decode cX12_numberHere 35 = .ok (.aload_n 0, 1) := by decide +kernel
theorem dX12_numberHere_36 : decode cX12_numberHere 36 = .ok (.getfield 127, 3) := by decide +kernel
theorem dX12_numberHere_39 : decode cX12_numberHere 39 = .ok (.invokevirtual 145, 3) := by decide +kernel
theorem dX12_numberHere_42 : decode cX12_numberHere 42 = .ok (.ifCond .eq 46, 3) := by decide +kernel
theorem dX12_numberHere_45 : decode cX12_numberHere 45 = .ok (.aload_n 0, 1) := by decide +kernel
theorem dX12_numberHere_46 : decode cX12_numberHere 46 = .ok (.getfield 127, 3) := by decide +kernel
theorem dX12_numberHere_49 : decode cX12_numberHere 49 = .ok (.iload_n 3, 1) := by decide +kernel
theorem dX12_numberHere_50 : decode cX12_numberHere 50 = .ok (.isub, 1) := by decide +kernel
theorem dX12_numberHere_51 : decode cX12_numberHere 51 = .ok (.iconst 5, 1) := by decide +kernel
theorem dX12_numberHere_52 : decode cX12_numberHere 52 = .ok (.if_icmp .ge 23, 3) := by decide +kernel
theorem dX12_numberHere_55 : decode cX12_numberHere 55 = .ok (.bipush 10, 2) := by decide +kernel
theorem dX12_numberHere_57 : decode cX12_numberHere 57 = .ok (.iload 4, 2) := by decide +kernel
theorem dX12_numberHere_59 : decode cX12_numberHere 59 = .ok (.imul, 1) := by decide +kernel
theorem dX12_numberHere_60 : decode cX12_numberHere 60 = .ok (.aload_n 0, 1) := by decide +kernel
theorem dX12_numberHere_61 : decode cX12_numberHere 61 = .ok (.getfield 7, 3) := by decide +kernel
theorem dX12_numberHere_64 : decode cX12_numberHere 64 = .ok (.aload_n 0, 1) := by decide +kernel
theorem dX12_numberHere_65 : decode cX12_numberHere 65 = .ok (.getfield 127, 3) := by decide +kernel
theorem dX12_numberHere_68 : decode cX12_numberHere 68 = .ok (.baload, 1) := by decide +kernel
theorem dX12_numberHere_69 : decode cX12_numberHere 69 = .ok (.iadd, 1) := by decide +kernel
theorem dX12_numberHere_70 : decode cX12_numberHere 70 = .ok (.bipush 48, 2) := by decide +kernel
theorem dX12_numberHere_72 : decode cX12_numberHere 72 = .ok (.isub, 1) := by decide +kernel
theorem dX12_numberHere_73 : decode cX12_numberHere 73 = .ok (.istore 4, 2) := by decide +kernel
theorem dX12_numberHere_75 : decode cX12_numberHere 75 = .ok (.aload_n 0, 1) := by decide +kernel
theorem dX12_numberHere_76 : decode cX12_numberHere 76 = .ok (.dup, 1) := by decide +kernel
theorem dX12_numberHere_77 : decode cX12_numberHere 77 = .ok (.getfield 127, 3) := by decide +kernel
theorem dX12_numberHere_80 : decode cX12_numberHere 80 = .ok (.iconst 1, 1) := by decide +kernel
theorem dX12_numberHere_81 : decode cX12_numberHere 81 = .ok (.iadd, 1) := by decide +kernel
theorem dX12_numberHere_82 : decode cX12_numberHere 82 = .ok (.putfield 127, 3) := by decide +kernel
theorem dX12_numberHere_85 : decode cX12_numberHere 85 = .ok (.goto (-51), 3) := by decide +kernel
theorem dX12_numberHere_88 : decode cX12_numberHere 88 = .ok (.aload_n 0, 1) := by decide +kernel
theorem dX12_numberHere_89 : decode cX12_numberHere 89 = .ok (.iload 4, 2) := by decide +kernel
theorem dX12_numberHere_91 : decode cX12_numberHere 91 = .ok (.putfield 152, 3) := by decide +kernel
theorem dX12_numberHere_94 : decode cX12_numberHere 94 = .ok (.aload_n 0, 1) := by decide +kernel
theorem dX12_numberHere_95 : decode cX12_numberHere 95 = .ok (.getfield 127, 3) := by decide +kernel
theorem dX12_numberHere_98 : decode cX12_numberHere 98 = .ok (.iload_n 3, 1) := by decide +kernel
theorem dX12_numberHere_99 : decode cX12_numberHere 99 = .ok (.isub, 1) := by decide +kernel
theorem dX12_numberHere_100 : decode cX12_numberHere 100 = .ok (.iconst 5, 1) := by decide +kernel
theorem dX12_numberHere_101 : decode cX12_numberHere 101 = .ok (.if_icmp .gt 16, 3) := by decide +kernel
theorem dX12_numberHere_104 : decode cX12_numberHere 104 = .ok (.iload 4, 2) := by decide +kernel
theorem dX12_numberHere_106 : decode cX12_numberHere 106 = .ok (.i2l, 1) := by decide +kernel
theorem dX12_numberHere_107 : decode cX12_numberHere 107 = .ok (.iload_n 1, 1) := by decide +kernel
theorem dX12_numberHere_108 : decode cX12_numberHere 108 = .ok (.i2l, 1) := by decide +kernel
theorem dX12_numberHere_109 : decode cX12_numberHere 109 = .ok (.iload_n 2, 1) := by decide +kernel
theorem dX12_numberHere_110 : decode cX12_numberHere 110 = .ok (.i2l, 1) := by decide +kernel
theorem dX12_numberHere_111 : decode cX12_numberHere 111 = .ok (.invokestatic 155, 3) := by decide +kernel
theorem dX12_numberHere_114 : decode cX12_numberHere 114 = .ok (.ifCond .ne 12, 3) := by decide +kernel
theorem dX12_numberHere_117 : decode cX12_numberHere 117 = .ok (.aload_n 0, 1) := by decide +kernel
theorem dX12_numberHere_118 : decode cX12_numberHere 118 = .ok (.iconst 1, 1) := by decide +kernel
theorem dX12_numberHere_119 : decode cX12_numberHere 119 = .ok (.iload_n 3, 1) := by decide +kernel
theorem dX12_numberHere_120 : decode cX12_numberHere 120 = .ok (.invokevirtual 148, 3) := by decide +kernel
theorem dX12_numberHere_123 : decode cX12_numberHere 123 = .ok (.ifCond .eq 7, 3) := by decide +kernel
theorem dX12_numberHere_126 : decode cX12_numberHere 126 = .ok (.iconst 1, 1) := by decide +kernel
theorem dX12_numberHere_127 : decode cX12_numberHere 127 = .ok (.goto 4, 3) := by decide +kernel
theorem dX12_numberHere_130 : decode cX12_numberHere 130 = .ok (.iconst 0, 1) := by decide +kernel
theorem dX12_numberHere_131 : decode cX12_numberHere 131 = .ok (.ireturn, 1) := by decide +kernel
theorem dX12_one_0 : decode cX12_one 0 = .ok (.iload_n 0, 1) := by decide +kernel
theorem dX12_one_1 : decode cX12_one 1 = .ok (.tableswitch 149 2 12 #[59, 63, 67, 71, 85, 97, 109, 121, 133, 149, 145], 59) := by decide +kernel
theorem dX12_one_60 : decode cX12_one 60 = .ok (.lload_n 1, 1) := by decide +kernel
theorem dX12_one_61 : decode cX12_one 61 = .ok (.lload_n 3, 1) := by decide +kernel
theorem dX12_one_62 : decode cX12_one 62 = .ok (.ladd, 1) := by decide +kernel
theorem dX12_one_63 : decode cX12_one 63 = .ok (.lreturn, 1) := by decide +kernel
theorem dX12_one_64 : decode cX12_one 64 = .ok (.lload_n 1, 1) := by decide +kernel
theorem dX12_one_65 : decode cX12_one 65 = .ok (.lload_n 3, 1) := by decide +kernel
theorem dX12_one_66 : decode cX12_one 66 = .ok (.lsub, 1) := by decide +kernel
theorem dX12_one_67 : decode cX12_one 67 = .ok (.lreturn, 1) := by decide +kernel
theorem dX12_one_68 : decode cX12_one 68 = .ok (.lload_n 1, 1) := by decide +kernel
theorem dX12_one_69 : decode cX12_one 69 = .ok (.lload_n 3, 1) := by decide +kernel
theorem dX12_one_70 : decode cX12_one 70 = .ok (.lmul, 1) := by decide +kernel
theorem dX12_one_71 : decode cX12_one 71 = .ok (.lreturn, 1) := by decide +kernel
theorem dX12_one_72 : decode cX12_one 72 = .ok (.lload_n 3, 1) := by decide +kernel
theorem dX12_one_73 : decode cX12_one 73 = .ok (.lconst 0, 1) := by decide +kernel
theorem dX12_one_74 : decode cX12_one 74 = .ok (.lcmp, 1) := by decide +kernel
theorem dX12_one_75 : decode cX12_one 75 = .ok (.ifCond .ne 7, 3) := by decide +kernel
theorem dX12_one_78 : decode cX12_one 78 = .ok (.lconst 0, 1) := by decide +kernel
theorem dX12_one_79 : decode cX12_one 79 = .ok (.goto 6, 3) := by decide +kernel
theorem dX12_one_82 : decode cX12_one 82 = .ok (.lload_n 1, 1) := by decide +kernel
theorem dX12_one_83 : decode cX12_one 83 = .ok (.lload_n 3, 1) := by decide +kernel
theorem dX12_one_84 : decode cX12_one 84 = .ok (.ldiv, 1) := by decide +kernel
theorem dX12_one_85 : decode cX12_one 85 = .ok (.lreturn, 1) := by decide +kernel
theorem dX12_one_86 : decode cX12_one 86 = .ok (.lload_n 1, 1) := by decide +kernel
theorem dX12_one_87 : decode cX12_one 87 = .ok (.lload_n 3, 1) := by decide +kernel
theorem dX12_one_88 : decode cX12_one 88 = .ok (.lcmp, 1) := by decide +kernel
theorem dX12_one_89 : decode cX12_one 89 = .ok (.ifCond .ge 7, 3) := by decide +kernel
theorem dX12_one_92 : decode cX12_one 92 = .ok (.lconst 1, 1) := by decide +kernel
theorem dX12_one_93 : decode cX12_one 93 = .ok (.goto 4, 3) := by decide +kernel
theorem dX12_one_96 : decode cX12_one 96 = .ok (.lconst 0, 1) := by decide +kernel
theorem dX12_one_97 : decode cX12_one 97 = .ok (.lreturn, 1) := by decide +kernel
theorem dX12_one_98 : decode cX12_one 98 = .ok (.lload_n 1, 1) := by decide +kernel
theorem dX12_one_99 : decode cX12_one 99 = .ok (.lload_n 3, 1) := by decide +kernel
theorem dX12_one_100 : decode cX12_one 100 = .ok (.lcmp, 1) := by decide +kernel
theorem dX12_one_101 : decode cX12_one 101 = .ok (.ifCond .gt 7, 3) := by decide +kernel
theorem dX12_one_104 : decode cX12_one 104 = .ok (.lconst 1, 1) := by decide +kernel
theorem dX12_one_105 : decode cX12_one 105 = .ok (.goto 4, 3) := by decide +kernel
theorem dX12_one_108 : decode cX12_one 108 = .ok (.lconst 0, 1) := by decide +kernel
theorem dX12_one_109 : decode cX12_one 109 = .ok (.lreturn, 1) := by decide +kernel
theorem dX12_one_110 : decode cX12_one 110 = .ok (.lload_n 1, 1) := by decide +kernel
theorem dX12_one_111 : decode cX12_one 111 = .ok (.lload_n 3, 1) := by decide +kernel
theorem dX12_one_112 : decode cX12_one 112 = .ok (.lcmp, 1) := by decide +kernel
theorem dX12_one_113 : decode cX12_one 113 = .ok (.ifCond .ne 7, 3) := by decide +kernel
theorem dX12_one_116 : decode cX12_one 116 = .ok (.lconst 1, 1) := by decide +kernel
theorem dX12_one_117 : decode cX12_one 117 = .ok (.goto 4, 3) := by decide +kernel
theorem dX12_one_120 : decode cX12_one 120 = .ok (.lconst 0, 1) := by decide +kernel
theorem dX12_one_121 : decode cX12_one 121 = .ok (.lreturn, 1) := by decide +kernel
theorem dX12_one_122 : decode cX12_one 122 = .ok (.lload_n 1, 1) := by decide +kernel
theorem dX12_one_123 : decode cX12_one 123 = .ok (.lload_n 3, 1) := by decide +kernel
theorem dX12_one_124 : decode cX12_one 124 = .ok (.lcmp, 1) := by decide +kernel
theorem dX12_one_125 : decode cX12_one 125 = .ok (.ifCond .lt 7, 3) := by decide +kernel
theorem dX12_one_128 : decode cX12_one 128 = .ok (.lconst 1, 1) := by decide +kernel
theorem dX12_one_129 : decode cX12_one 129 = .ok (.goto 4, 3) := by decide +kernel
theorem dX12_one_132 : decode cX12_one 132 = .ok (.lconst 0, 1) := by decide +kernel
theorem dX12_one_133 : decode cX12_one 133 = .ok (.lreturn, 1) := by decide +kernel
theorem dX12_one_134 : decode cX12_one 134 = .ok (.lload_n 1, 1) := by decide +kernel
theorem dX12_one_135 : decode cX12_one 135 = .ok (.lload_n 3, 1) := by decide +kernel
theorem dX12_one_136 : decode cX12_one 136 = .ok (.lcmp, 1) := by decide +kernel
theorem dX12_one_137 : decode cX12_one 137 = .ok (.ifCond .le 7, 3) := by decide +kernel
theorem dX12_one_140 : decode cX12_one 140 = .ok (.lconst 1, 1) := by decide +kernel
theorem dX12_one_141 : decode cX12_one 141 = .ok (.goto 4, 3) := by decide +kernel
theorem dX12_one_144 : decode cX12_one 144 = .ok (.lconst 0, 1) := by decide +kernel
theorem dX12_one_145 : decode cX12_one 145 = .ok (.lreturn, 1) := by decide +kernel
theorem dX12_one_146 : decode cX12_one 146 = .ok (.lload_n 1, 1) := by decide +kernel
theorem dX12_one_147 : decode cX12_one 147 = .ok (.lload_n 3, 1) := by decide +kernel
theorem dX12_one_148 : decode cX12_one 148 = .ok (.land, 1) := by decide +kernel
theorem dX12_one_149 : decode cX12_one 149 = .ok (.lreturn, 1) := by decide +kernel
theorem dX12_one_150 : decode cX12_one 150 = .ok (.lload_n 1, 1) := by decide +kernel
theorem dX12_one_151 : decode cX12_one 151 = .ok (.lload_n 3, 1) := by decide +kernel
theorem dX12_one_152 : decode cX12_one 152 = .ok (.lor, 1) := by decide +kernel
theorem dX12_one_153 : decode cX12_one 153 = .ok (.lreturn, 1) := by decide +kernel
theorem dX12_open_0 : decode cX12_open 0 = .ok (.iload_n 1, 1) := by decide +kernel
theorem dX12_open_1 : decode cX12_open 1 = .ok (.i2l, 1) := by decide +kernel
theorem dX12_open_2 : decode cX12_open 2 = .ok (.lconst 0, 1) := by decide +kernel
theorem dX12_open_3 : decode cX12_open 3 = .ok (.ldc2_w 420, 3) := by decide +kernel
theorem dX12_open_6 : decode cX12_open 6 = .ok (.invokestatic 155, 3) := by decide +kernel
theorem dX12_open_9 : decode cX12_open 9 = .ok (.ifCond .eq 23, 3) := by decide +kernel
theorem dX12_open_12 : decode cX12_open 12 = .ok (.aload_n 0, 1) := by decide +kernel
theorem dX12_open_13 : decode cX12_open 13 = .ok (.iload_n 2, 1) := by decide +kernel
theorem dX12_open_14 : decode cX12_open 14 = .ok (.invokevirtual 319, 3) := by decide +kernel
theorem dX12_open_17 : decode cX12_open 17 = .ok (.ifCond .eq 15, 3) := by decide +kernel
theorem dX12_open_20 : decode cX12_open 20 = .ok (.iload_n 3, 1) := by decide +kernel
theorem dX12_open_21 : decode cX12_open 21 = .ok (.i2l, 1) := by decide +kernel
theorem dX12_open_22 : decode cX12_open 22 = .ok (.lconst 0, 1) := by decide +kernel
theorem dX12_open_23 : decode cX12_open 23 = .ok (.ldc2_w 325, 3) := by decide +kernel
theorem dX12_open_26 : decode cX12_open 26 = .ok (.invokestatic 155, 3) := by decide +kernel
theorem dX12_open_29 : decode cX12_open 29 = .ok (.ifCond .ne 7, 3) := by decide +kernel
theorem dX12_open_32 : decode cX12_open 32 = .ok (.ldc_w 422, 3) := by decide +kernel
theorem dX12_open_35 : decode cX12_open 35 = .ok (.ireturn, 1) := by decide +kernel
theorem dX12_open_36 : decode cX12_open 36 = .ok (.aload_n 0, 1) := by decide +kernel
theorem dX12_open_37 : decode cX12_open 37 = .ok (.invokevirtual 393, 3) := by decide +kernel
theorem dX12_open_40 : decode cX12_open 40 = .ok (.aload_n 0, 1) := by decide +kernel
theorem dX12_open_41 : decode cX12_open 41 = .ok (.iconst 0, 1) := by decide +kernel
theorem dX12_open_42 : decode cX12_open 42 = .ok (.putfield 410, 3) := by decide +kernel
theorem dX12_open_45 : decode cX12_open 45 = .ok (.aload_n 0, 1) := by decide +kernel
theorem dX12_open_46 : decode cX12_open 46 = .ok (.iconst 0, 1) := by decide +kernel
theorem dX12_open_47 : decode cX12_open 47 = .ok (.putfield 407, 3) := by decide +kernel
theorem dX12_open_50 : decode cX12_open 50 = .ok (.iconst 0, 1) := by decide +kernel
theorem dX12_open_51 : decode cX12_open 51 = .ok (.istore 4, 2) := by decide +kernel
theorem dX12_open_53 : decode cX12_open 53 = .ok (.iload 4, 2) := by decide +kernel
theorem dX12_open_55 : decode cX12_open 55 = .ok (.iload_n 1, 1) := by decide +kernel
theorem dX12_open_56 : decode cX12_open 56 = .ok (.if_icmp .ge 24, 3) := by decide +kernel
theorem dX12_open_59 : decode cX12_open 59 = .ok (.iload_n 3, 1) := by decide +kernel
theorem dX12_open_60 : decode cX12_open 60 = .ok (.iconst 2, 1) := by decide +kernel
theorem dX12_open_61 : decode cX12_open 61 = .ok (.if_icmp .eq 19, 3) := by decide +kernel
theorem dX12_open_64 : decode cX12_open 64 = .ok (.iload_n 3, 1) := by decide +kernel
theorem dX12_open_65 : decode cX12_open 65 = .ok (.iconst 3, 1) := by decide +kernel
theorem dX12_open_66 : decode cX12_open 66 = .ok (.if_icmp .eq 14, 3) := by decide +kernel
theorem dX12_open_69 : decode cX12_open 69 = .ok (.aload_n 0, 1) := by decide +kernel
theorem dX12_open_70 : decode cX12_open 70 = .ok (.iload_n 2, 1) := by decide +kernel
theorem dX12_open_71 : decode cX12_open 71 = .ok (.invokevirtual 417, 3) := by decide +kernel
theorem dX12_open_74 : decode cX12_open 74 = .ok (.iinc 4 1, 3) := by decide +kernel
theorem dX12_open_77 : decode cX12_open 77 = .ok (.goto (-24), 3) := by decide +kernel
theorem dX12_open_80 : decode cX12_open 80 = .ok (.iload_n 3, 1) := by decide +kernel
theorem dX12_open_81 : decode cX12_open 81 = .ok (.iconst 2, 1) := by decide +kernel
theorem dX12_open_82 : decode cX12_open 82 = .ok (.if_icmp .ge 19, 3) := by decide +kernel
theorem dX12_open_85 : decode cX12_open 85 = .ok (.iload_n 3, 1) := by decide +kernel
theorem dX12_open_86 : decode cX12_open 86 = .ok (.ifCond .ne 10, 3) := by decide +kernel
theorem dX12_open_89 : decode cX12_open 89 = .ok (.aload_n 0, 1) := by decide +kernel
theorem dX12_open_90 : decode cX12_open 90 = .ok (.getfield 410, 3) := by decide +kernel
theorem dX12_open_93 : decode cX12_open 93 = .ok (.goto 7, 3) := by decide +kernel
theorem dX12_open_96 : decode cX12_open 96 = .ok (.aload_n 0, 1) := by decide +kernel
theorem dX12_open_97 : decode cX12_open 97 = .ok (.getfield 407, 3) := by decide +kernel
theorem dX12_open_100 : decode cX12_open 100 = .ok (.ireturn, 1) := by decide +kernel
theorem dX12_open_101 : decode cX12_open 101 = .ok (.aload_n 0, 1) := by decide +kernel
theorem dX12_open_102 : decode cX12_open 102 = .ok (.getfield 410, 3) := by decide +kernel
theorem dX12_open_105 : decode cX12_open 105 = .ok (.istore 4, 2) := by decide +kernel
theorem dX12_open_107 : decode cX12_open 107 = .ok (.aload_n 0, 1) := by decide +kernel
theorem dX12_open_108 : decode cX12_open 108 = .ok (.invokevirtual 393, 3) := by decide +kernel
theorem dX12_open_111 : decode cX12_open 111 = .ok (.aload_n 0, 1) := by decide +kernel
theorem dX12_open_112 : decode cX12_open 112 = .ok (.iconst 0, 1) := by decide +kernel
theorem dX12_open_113 : decode cX12_open 113 = .ok (.putfield 410, 3) := by decide +kernel
theorem dX12_open_116 : decode cX12_open 116 = .ok (.aload_n 0, 1) := by decide +kernel
theorem dX12_open_117 : decode cX12_open 117 = .ok (.iconst 0, 1) := by decide +kernel
theorem dX12_open_118 : decode cX12_open 118 = .ok (.putfield 407, 3) := by decide +kernel
theorem dX12_open_121 : decode cX12_open 121 = .ok (.iconst 0, 1) := by decide +kernel
theorem dX12_open_122 : decode cX12_open 122 = .ok (.istore 5, 2) := by decide +kernel
theorem dX12_open_124 : decode cX12_open 124 = .ok (.iload 5, 2) := by decide +kernel
theorem dX12_open_126 : decode cX12_open 126 = .ok (.iload_n 1, 1) := by decide +kernel
theorem dX12_open_127 : decode cX12_open 127 = .ok (.if_icmp .ge 14, 3) := by decide +kernel
theorem dX12_open_130 : decode cX12_open 130 = .ok (.aload_n 0, 1) := by decide +kernel
theorem dX12_open_131 : decode cX12_open 131 = .ok (.iload_n 2, 1) := by decide +kernel
theorem dX12_open_132 : decode cX12_open 132 = .ok (.invokevirtual 423, 3) := by decide +kernel
theorem dX12_open_135 : decode cX12_open 135 = .ok (.iinc 5 1, 3) := by decide +kernel
theorem dX12_open_138 : decode cX12_open 138 = .ok (.goto (-14), 3) := by decide +kernel
theorem dX12_open_141 : decode cX12_open 141 = .ok (.iload_n 3, 1) := by decide +kernel
theorem dX12_open_142 : decode cX12_open 142 = .ok (.iconst 2, 1) := by decide +kernel
theorem dX12_open_143 : decode cX12_open 143 = .ok (.if_icmp .ne 10, 3) := by decide +kernel
theorem dX12_open_146 : decode cX12_open 146 = .ok (.aload_n 0, 1) := by decide +kernel
theorem dX12_open_147 : decode cX12_open 147 = .ok (.getfield 410, 3) := by decide +kernel
theorem dX12_open_150 : decode cX12_open 150 = .ok (.goto 22, 3) := by decide +kernel
theorem dX12_open_153 : decode cX12_open 153 = .ok (.iload_n 3, 1) := by decide +kernel
theorem dX12_open_154 : decode cX12_open 154 = .ok (.iconst 3, 1) := by decide +kernel
theorem dX12_open_155 : decode cX12_open 155 = .ok (.if_icmp .ne 10, 3) := by decide +kernel
theorem dX12_open_158 : decode cX12_open 158 = .ok (.aload_n 0, 1) := by decide +kernel
theorem dX12_open_159 : decode cX12_open 159 = .ok (.getfield 407, 3) := by decide +kernel
theorem dX12_open_162 : decode cX12_open 162 = .ok (.goto 10, 3) := by decide +kernel
theorem dX12_open_165 : decode cX12_open 165 = .ok (.iload 4, 2) := by decide +kernel
theorem dX12_open_167 : decode cX12_open 167 = .ok (.aload_n 0, 1) := by decide +kernel
theorem dX12_open_168 : decode cX12_open 168 = .ok (.getfield 410, 3) := by decide +kernel
theorem dX12_open_171 : decode cX12_open 171 = .ok (.isub, 1) := by decide +kernel
theorem dX12_open_172 : decode cX12_open 172 = .ok (.ireturn, 1) := by decide +kernel
theorem dX12_opens_0 : decode cX12_opens 0 = .ok (.aload_n 0, 1) := by decide +kernel
theorem dX12_opens_1 : decode cX12_opens 1 = .ok (.getfield 185, 3) := by decide +kernel
theorem dX12_opens_4 : decode cX12_opens 4 = .ok (.bipush 10, 2) := by decide +kernel
theorem dX12_opens_6 : decode cX12_opens 6 = .ok (.if_icmp .ne 13, 3) := by decide +kernel
theorem dX12_opens_9 : decode cX12_opens 9 = .ok (.aload_n 0, 1) := by decide +kernel
theorem dX12_opens_10 : decode cX12_opens 10 = .ok (.iconst 2, 1) := by decide +kernel
theorem dX12_opens_11 : decode cX12_opens 11 = .ok (.aload_n 0, 1) := by decide +kernel
theorem dX12_opens_12 : decode cX12_opens 12 = .ok (.getfield 127, 3) := by decide +kernel
theorem dX12_opens_15 : decode cX12_opens 15 = .ok (.invokevirtual 148, 3) := by decide +kernel
theorem dX12_opens_18 : decode cX12_opens 18 = .ok (.ireturn, 1) := by decide +kernel
theorem dX12_opens_19 : decode cX12_opens 19 = .ok (.aload_n 0, 1) := by decide +kernel
theorem dX12_opens_20 : decode cX12_opens 20 = .ok (.dup, 1) := by decide +kernel
theorem dX12_opens_21 : decode cX12_opens 21 = .ok (.getfield 185, 3) := by decide +kernel
theorem dX12_opens_24 : decode cX12_opens 24 = .ok (.iconst 1, 1) := by decide +kernel
theorem dX12_opens_25 : decode cX12_opens 25 = .ok (.iadd, 1) := by decide +kernel
theorem dX12_opens_26 : decode cX12_opens 26 = .ok (.putfield 185, 3) := by decide +kernel
theorem dX12_opens_29 : decode cX12_opens 29 = .ok (.aload_n 0, 1) := by decide +kernel
theorem dX12_opens_30 : decode cX12_opens 30 = .ok (.getfield 35, 3) := by decide +kernel
theorem dX12_opens_33 : decode cX12_opens 33 = .ok (.aload_n 0, 1) := by decide +kernel
theorem dX12_opens_34 : decode cX12_opens 34 = .ok (.getfield 188, 3) := by decide +kernel
theorem dX12_opens_37 : decode cX12_opens 37 = .ok (.iload_n 1, 1) := by decide +kernel
theorem dX12_opens_38 : decode cX12_opens 38 = .ok (.iastore, 1) := by decide +kernel
theorem dX12_opens_39 : decode cX12_opens 39 = .ok (.aload_n 0, 1) := by decide +kernel
theorem dX12_opens_40 : decode cX12_opens 40 = .ok (.dup, 1) := by decide +kernel
theorem dX12_opens_41 : decode cX12_opens 41 = .ok (.getfield 188, 3) := by decide +kernel
theorem dX12_opens_44 : decode cX12_opens 44 = .ok (.iconst 1, 1) := by decide +kernel
theorem dX12_opens_45 : decode cX12_opens 45 = .ok (.iadd, 1) := by decide +kernel
theorem dX12_opens_46 : decode cX12_opens 46 = .ok (.putfield 188, 3) := by decide +kernel
theorem dX12_opens_49 : decode cX12_opens 49 = .ok (.iconst 1, 1) := by decide +kernel
theorem dX12_opens_50 : decode cX12_opens 50 = .ok (.ireturn, 1) := by decide +kernel
theorem dX12_order_0 : decode cX12_order 0 = .ok (.iload_n 1, 1) := by decide +kernel
theorem dX12_order_1 : decode cX12_order 1 = .ok (.iconst (-1), 1) := by decide +kernel
theorem dX12_order_2 : decode cX12_order 2 = .ok (.if_icmp .ne 12, 3) := by decide +kernel
theorem dX12_order_5 : decode cX12_order 5 = .ok (.aload_n 0, 1) := by decide +kernel
theorem dX12_order_6 : decode cX12_order 6 = .ok (.getfield 45, 3) := by decide +kernel
theorem dX12_order_9 : decode cX12_order 9 = .ok (.iconst 4, 1) := by decide +kernel
theorem dX12_order_10 : decode cX12_order 10 = .ok (.iconst 0, 1) := by decide +kernel
theorem dX12_order_11 : decode cX12_order 11 = .ok (.iastore, 1) := by decide +kernel
theorem dX12_order_12 : decode cX12_order 12 = .ok (.iconst 0, 1) := by decide +kernel
theorem dX12_order_13 : decode cX12_order 13 = .ok (.ireturn, 1) := by decide +kernel
theorem dX12_order_14 : decode cX12_order 14 = .ok (.aload_n 0, 1) := by decide +kernel
theorem dX12_order_15 : decode cX12_order 15 = .ok (.iload_n 1, 1) := by decide +kernel
theorem dX12_order_16 : decode cX12_order 16 = .ok (.invokevirtual 327, 3) := by decide +kernel
theorem dX12_order_19 : decode cX12_order 19 = .ok (.ifCond .ne 9, 3) := by decide +kernel
theorem dX12_order_22 : decode cX12_order 22 = .ok (.aload_n 0, 1) := by decide +kernel
theorem dX12_order_23 : decode cX12_order 23 = .ok (.iconst 0, 1) := by decide +kernel
theorem dX12_order_24 : decode cX12_order 24 = .ok (.invokevirtual 338, 3) := by decide +kernel
theorem dX12_order_27 : decode cX12_order 27 = .ok (.ireturn, 1) := by decide +kernel
theorem dX12_order_28 : decode cX12_order 28 = .ok (.aload_n 0, 1) := by decide +kernel
theorem dX12_order_29 : decode cX12_order 29 = .ok (.getfield 45, 3) := by decide +kernel
theorem dX12_order_32 : decode cX12_order 32 = .ok (.iconst 4, 1) := by decide +kernel
theorem dX12_order_33 : decode cX12_order 33 = .ok (.iaload, 1) := by decide +kernel
theorem dX12_order_34 : decode cX12_order 34 = .ok (.bipush 8, 2) := by decide +kernel
theorem dX12_order_36 : decode cX12_order 36 = .ok (.if_icmp .ne 9, 3) := by decide +kernel
theorem dX12_order_39 : decode cX12_order 39 = .ok (.aload_n 0, 1) := by decide +kernel
theorem dX12_order_40 : decode cX12_order 40 = .ok (.iconst 1, 1) := by decide +kernel
theorem dX12_order_41 : decode cX12_order 41 = .ok (.invokevirtual 338, 3) := by decide +kernel
theorem dX12_order_44 : decode cX12_order 44 = .ok (.ireturn, 1) := by decide +kernel
theorem dX12_order_45 : decode cX12_order 45 = .ok (.aload_n 0, 1) := by decide +kernel
theorem dX12_order_46 : decode cX12_order 46 = .ok (.getfield 45, 3) := by decide +kernel
theorem dX12_order_49 : decode cX12_order 49 = .ok (.sipush 170, 3) := by decide +kernel
theorem dX12_order_52 : decode cX12_order 52 = .ok (.aload_n 0, 1) := by decide +kernel
theorem dX12_order_53 : decode cX12_order 53 = .ok (.getfield 45, 3) := by decide +kernel
theorem dX12_order_56 : decode cX12_order 56 = .ok (.iconst 4, 1) := by decide +kernel
theorem dX12_order_57 : decode cX12_order 57 = .ok (.iaload, 1) := by decide +kernel
theorem dX12_order_58 : decode cX12_order 58 = .ok (.iadd, 1) := by decide +kernel
theorem dX12_order_59 : decode cX12_order 59 = .ok (.iload_n 1, 1) := by decide +kernel
theorem dX12_order_60 : decode cX12_order 60 = .ok (.iastore, 1) := by decide +kernel
theorem dX12_order_61 : decode cX12_order 61 = .ok (.aload_n 0, 1) := by decide +kernel
theorem dX12_order_62 : decode cX12_order 62 = .ok (.getfield 45, 3) := by decide +kernel
theorem dX12_order_65 : decode cX12_order 65 = .ok (.iconst 4, 1) := by decide +kernel
theorem dX12_order_66 : decode cX12_order 66 = .ok (.dup2, 1) := by decide +kernel
theorem dX12_order_67 : decode cX12_order 67 = .ok (.iaload, 1) := by decide +kernel
theorem dX12_order_68 : decode cX12_order 68 = .ok (.iconst 1, 1) := by decide +kernel
theorem dX12_order_69 : decode cX12_order 69 = .ok (.iadd, 1) := by decide +kernel
theorem dX12_order_70 : decode cX12_order 70 = .ok (.iastore, 1) := by decide +kernel
theorem dX12_order_71 : decode cX12_order 71 = .ok (.aload_n 0, 1) := by decide +kernel
theorem dX12_order_72 : decode cX12_order 72 = .ok (.getfield 45, 3) := by decide +kernel
theorem dX12_order_75 : decode cX12_order 75 = .ok (.iconst 4, 1) := by decide +kernel
theorem dX12_order_76 : decode cX12_order 76 = .ok (.iaload, 1) := by decide +kernel
theorem dX12_order_77 : decode cX12_order 77 = .ok (.ireturn, 1) := by decide +kernel
theorem dX12_ordered_0 : decode cX12_ordered 0 = .ok (.iload_n 1, 1) := by decide +kernel
theorem dX12_ordered_1 : decode cX12_ordered 1 = .ok (.ifCond .lt 26, 3) := by decide +kernel
theorem dX12_ordered_4 : decode cX12_ordered 4 = .ok (.iload_n 1, 1) := by decide +kernel
theorem dX12_ordered_5 : decode cX12_ordered 5 = .ok (.aload_n 0, 1) := by decide +kernel
theorem dX12_ordered_6 : decode cX12_ordered 6 = .ok (.getfield 45, 3) := by decide +kernel
theorem dX12_ordered_9 : decode cX12_ordered 9 = .ok (.iconst 4, 1) := by decide +kernel
theorem dX12_ordered_10 : decode cX12_ordered 10 = .ok (.iaload, 1) := by decide +kernel
theorem dX12_ordered_11 : decode cX12_ordered 11 = .ok (.if_icmp .ge 16, 3) := by decide +kernel
theorem dX12_ordered_14 : decode cX12_ordered 14 = .ok (.aload_n 0, 1) := by decide +kernel
theorem dX12_ordered_15 : decode cX12_ordered 15 = .ok (.getfield 45, 3) := by decide +kernel
theorem dX12_ordered_18 : decode cX12_ordered 18 = .ok (.sipush 170, 3) := by decide +kernel
theorem dX12_ordered_21 : decode cX12_ordered 21 = .ok (.iload_n 1, 1) := by decide +kernel
theorem dX12_ordered_22 : decode cX12_ordered 22 = .ok (.iadd, 1) := by decide +kernel
theorem dX12_ordered_23 : decode cX12_ordered 23 = .ok (.iaload, 1) := by decide +kernel
theorem dX12_ordered_24 : decode cX12_ordered 24 = .ok (.goto 4, 3) := by decide +kernel
theorem dX12_ordered_27 : decode cX12_ordered 27 = .ok (.iconst (-1), 1) := by decide +kernel
theorem dX12_ordered_28 : decode cX12_ordered 28 = .ok (.ireturn, 1) := by decide +kernel
theorem dX12_passWord_0 : decode cX12_passWord 0 = .ok (.aload_n 0, 1) := by decide +kernel
theorem dX12_passWord_1 : decode cX12_passWord 1 = .ok (.aload_n 0, 1) := by decide +kernel
theorem dX12_passWord_2 : decode cX12_passWord 2 = .ok (.getfield 127, 3) := by decide +kernel
theorem dX12_passWord_5 : decode cX12_passWord 5 = .ok (.invokevirtual 134, 3) := by decide +kernel
theorem dX12_passWord_8 : decode cX12_passWord 8 = .ok (.ifCond .eq 16, 3) := by decide +kernel
theorem dX12_passWord_11 : decode cX12_passWord 11 = .ok (.aload_n 0, 1) := by decide +kernel
theorem dX12_passWord_12 : decode cX12_passWord 12 = .ok (.dup, 1) := by decide +kernel
theorem dX12_passWord_13 : decode cX12_passWord 13 = .ok (.getfield 127, 3) := by decide +kernel
theorem dX12_passWord_16 : decode cX12_passWord 16 = .ok (.iconst 1, 1) := by decide +kernel
theorem dX12_passWord_17 : decode cX12_passWord 17 = .ok (.iadd, 1) := by decide +kernel
theorem dX12_passWord_18 : decode cX12_passWord 18 = .ok (.putfield 127, 3) := by decide +kernel
theorem dX12_passWord_21 : decode cX12_passWord 21 = .ok (.goto (-21), 3) := by decide +kernel
theorem dX12_passWord_24 : decode cX12_passWord 24 = .ok (.return_, 1) := by decide +kernel
theorem dX12_passes_0 : decode cX12_passes 0 = .ok (.iconst 0, 1) := by decide +kernel
theorem dX12_passes_1 : decode cX12_passes 1 = .ok (.istore_n 2, 1) := by decide +kernel
theorem dX12_passes_2 : decode cX12_passes 2 = .ok (.iload_n 2, 1) := by decide +kernel
theorem dX12_passes_3 : decode cX12_passes 3 = .ok (.aload_n 0, 1) := by decide +kernel
theorem dX12_passes_4 : decode cX12_passes 4 = .ok (.getfield 351, 3) := by decide +kernel
theorem dX12_passes_7 : decode cX12_passes 7 = .ok (.if_icmp .ge 35, 3) := by decide +kernel
theorem dX12_passes_10 : decode cX12_passes 10 = .ok (.aload_n 0, 1) := by decide +kernel
theorem dX12_passes_11 : decode cX12_passes 11 = .ok (.aload_n 0, 1) := by decide +kernel
theorem dX12_passes_12 : decode cX12_passes 12 = .ok (.getfield 54, 3) := by decide +kernel
theorem dX12_passes_15 : decode cX12_passes 15 = .ok (.iload_n 2, 1) := by decide +kernel
theorem dX12_passes_16 : decode cX12_passes 16 = .ok (.iaload, 1) := by decide +kernel
theorem dX12_passes_17 : decode cX12_passes 17 = .ok (.iload_n 2, 1) := by decide +kernel
theorem dX12_passes_18 : decode cX12_passes 18 = .ok (.invokevirtual 396, 3) := by decide +kernel
theorem dX12_passes_21 : decode cX12_passes 21 = .ok (.aload_n 0, 1) := by decide +kernel
theorem dX12_passes_22 : decode cX12_passes 22 = .ok (.iload_n 1, 1) := by decide +kernel
theorem dX12_passes_23 : decode cX12_passes 23 = .ok (.aload_n 0, 1) := by decide +kernel
theorem dX12_passes_24 : decode cX12_passes 24 = .ok (.getfield 54, 3) := by decide +kernel
theorem dX12_passes_27 : decode cX12_passes 27 = .ok (.iload_n 2, 1) := by decide +kernel
theorem dX12_passes_28 : decode cX12_passes 28 = .ok (.iaload, 1) := by decide +kernel
theorem dX12_passes_29 : decode cX12_passes 29 = .ok (.aload_n 0, 1) := by decide +kernel
theorem dX12_passes_30 : decode cX12_passes 30 = .ok (.invokevirtual 399, 3) := by decide +kernel
theorem dX12_passes_33 : decode cX12_passes 33 = .ok (.invokevirtual 413, 3) := by decide +kernel
theorem dX12_passes_36 : decode cX12_passes 36 = .ok (.iinc 2 1, 3) := by decide +kernel
theorem dX12_passes_39 : decode cX12_passes 39 = .ok (.goto (-37), 3) := by decide +kernel
theorem dX12_passes_42 : decode cX12_passes 42 = .ok (.return_, 1) := by decide +kernel
theorem dX12_passesEvenly_0 : decode cX12_passesEvenly 0 = .ok (.iconst 0, 1) := by decide +kernel
theorem dX12_passesEvenly_1 : decode cX12_passesEvenly 1 = .ok (.istore_n 2, 1) := by decide +kernel
theorem dX12_passesEvenly_2 : decode cX12_passesEvenly 2 = .ok (.iload_n 2, 1) := by decide +kernel
theorem dX12_passesEvenly_3 : decode cX12_passesEvenly 3 = .ok (.aload_n 0, 1) := by decide +kernel
theorem dX12_passesEvenly_4 : decode cX12_passesEvenly 4 = .ok (.getfield 351, 3) := by decide +kernel
theorem dX12_passesEvenly_7 : decode cX12_passesEvenly 7 = .ok (.if_icmp .ge 66, 3) := by decide +kernel
theorem dX12_passesEvenly_10 : decode cX12_passesEvenly 10 = .ok (.iconst 0, 1) := by decide +kernel
theorem dX12_passesEvenly_11 : decode cX12_passesEvenly 11 = .ok (.istore_n 3, 1) := by decide +kernel
theorem dX12_passesEvenly_12 : decode cX12_passesEvenly 12 = .ok (.iload_n 3, 1) := by decide +kernel
theorem dX12_passesEvenly_13 : decode cX12_passesEvenly 13 = .ok (.bipush 10, 2) := by decide +kernel
theorem dX12_passesEvenly_15 : decode cX12_passesEvenly 15 = .ok (.if_icmp .ge 16, 3) := by decide +kernel
theorem dX12_passesEvenly_18 : decode cX12_passesEvenly 18 = .ok (.aload_n 0, 1) := by decide +kernel
theorem dX12_passesEvenly_19 : decode cX12_passesEvenly 19 = .ok (.getfield 51, 3) := by decide +kernel
theorem dX12_passesEvenly_22 : decode cX12_passesEvenly 22 = .ok (.iload_n 3, 1) := by decide +kernel
theorem dX12_passesEvenly_23 : decode cX12_passesEvenly 23 = .ok (.iconst 1, 1) := by decide +kernel
theorem dX12_passesEvenly_24 : decode cX12_passesEvenly 24 = .ok (.iastore, 1) := by decide +kernel
theorem dX12_passesEvenly_25 : decode cX12_passesEvenly 25 = .ok (.iinc 3 1, 3) := by decide +kernel
theorem dX12_passesEvenly_28 : decode cX12_passesEvenly 28 = .ok (.goto (-16), 3) := by decide +kernel
theorem dX12_passesEvenly_31 : decode cX12_passesEvenly 31 = .ok (.aload_n 0, 1) := by decide +kernel
theorem dX12_passesEvenly_32 : decode cX12_passesEvenly 32 = .ok (.aload_n 0, 1) := by decide +kernel
theorem dX12_passesEvenly_33 : decode cX12_passesEvenly 33 = .ok (.getfield 54, 3) := by decide +kernel
theorem dX12_passesEvenly_36 : decode cX12_passesEvenly 36 = .ok (.iload_n 2, 1) := by decide +kernel
theorem dX12_passesEvenly_37 : decode cX12_passesEvenly 37 = .ok (.iaload, 1) := by decide +kernel
theorem dX12_passesEvenly_38 : decode cX12_passesEvenly 38 = .ok (.iload_n 2, 1) := by decide +kernel
theorem dX12_passesEvenly_39 : decode cX12_passesEvenly 39 = .ok (.invokevirtual 396, 3) := by decide +kernel
theorem dX12_passesEvenly_42 : decode cX12_passesEvenly 42 = .ok (.aload_n 0, 1) := by decide +kernel
theorem dX12_passesEvenly_43 : decode cX12_passesEvenly 43 = .ok (.iload_n 1, 1) := by decide +kernel
theorem dX12_passesEvenly_44 : decode cX12_passesEvenly 44 = .ok (.aload_n 0, 1) := by decide +kernel
theorem dX12_passesEvenly_45 : decode cX12_passesEvenly 45 = .ok (.getfield 54, 3) := by decide +kernel
theorem dX12_passesEvenly_48 : decode cX12_passesEvenly 48 = .ok (.iload_n 2, 1) := by decide +kernel
theorem dX12_passesEvenly_49 : decode cX12_passesEvenly 49 = .ok (.iaload, 1) := by decide +kernel
theorem dX12_passesEvenly_50 : decode cX12_passesEvenly 50 = .ok (.aload_n 0, 1) := by decide +kernel
theorem dX12_passesEvenly_51 : decode cX12_passesEvenly 51 = .ok (.invokevirtual 383, 3) := by decide +kernel
theorem dX12_passesEvenly_54 : decode cX12_passesEvenly 54 = .ok (.invokevirtual 413, 3) := by decide +kernel
theorem dX12_passesEvenly_57 : decode cX12_passesEvenly 57 = .ok (.aload_n 0, 1) := by decide +kernel
theorem dX12_passesEvenly_58 : decode cX12_passesEvenly 58 = .ok (.dup, 1) := by decide +kernel
theorem dX12_passesEvenly_59 : decode cX12_passesEvenly 59 = .ok (.getfield 348, 3) := by decide +kernel
theorem dX12_passesEvenly_62 : decode cX12_passesEvenly 62 = .ok (.iconst 1, 1) := by decide +kernel
theorem dX12_passesEvenly_63 : decode cX12_passesEvenly 63 = .ok (.iadd, 1) := by decide +kernel
theorem dX12_passesEvenly_64 : decode cX12_passesEvenly 64 = .ok (.putfield 348, 3) := by decide +kernel
theorem dX12_passesEvenly_67 : decode cX12_passesEvenly 67 = .ok (.iinc 2 1, 3) := by decide +kernel
theorem dX12_passesEvenly_70 : decode cX12_passesEvenly 70 = .ok (.goto (-68), 3) := by decide +kernel
theorem dX12_passesEvenly_73 : decode cX12_passesEvenly 73 = .ok (.return_, 1) := by decide +kernel
theorem dX12_plain_0 : decode cX12_plain 0 = .ok (.iload_n 0, 1) := by decide +kernel
theorem dX12_plain_1 : decode cX12_plain 1 = .ok (.ifCond .ge 8, 3) := by decide +kernel
theorem dX12_plain_4 : decode cX12_plain 4 = .ok (.iload_n 0, 1) := by decide +kernel
theorem dX12_plain_5 : decode cX12_plain 5 = .ok (.ineg, 1) := by decide +kernel
theorem dX12_plain_6 : decode cX12_plain 6 = .ok (.goto 4, 3) := by decide +kernel
theorem dX12_plain_9 : decode cX12_plain 9 = .ok (.iload_n 0, 1) := by decide +kernel
theorem dX12_plain_10 : decode cX12_plain 10 = .ok (.ireturn, 1) := by decide +kernel
theorem dX12_plan_0 : decode cX12_plan 0 = .ok (.aload_n 0, 1) := by decide +kernel
theorem dX12_plan_1 : decode cX12_plan 1 = .ok (.iload_n 1, 1) := by decide +kernel
theorem dX12_plan_2 : decode cX12_plan 2 = .ok (.invokevirtual 446, 3) := by decide +kernel
theorem dX12_plan_5 : decode cX12_plan 5 = .ok (.ifCond .eq 37, 3) := by decide +kernel
theorem dX12_plan_8 : decode cX12_plan 8 = .ok (.iload_n 2, 1) := by decide +kernel
theorem dX12_plan_9 : decode cX12_plan 9 = .ok (.i2l, 1) := by decide +kernel
theorem dX12_plan_10 : decode cX12_plan 10 = .ok (.lconst 0, 1) := by decide +kernel
theorem dX12_plan_11 : decode cX12_plan 11 = .ok (.aload_n 0, 1) := by decide +kernel
theorem dX12_plan_12 : decode cX12_plan 12 = .ok (.getfield 45, 3) := by decide +kernel
theorem dX12_plan_15 : decode cX12_plan 15 = .ok (.iconst 4, 1) := by decide +kernel
theorem dX12_plan_16 : decode cX12_plan 16 = .ok (.iaload, 1) := by decide +kernel
theorem dX12_plan_17 : decode cX12_plan 17 = .ok (.iconst 1, 1) := by decide +kernel
theorem dX12_plan_18 : decode cX12_plan 18 = .ok (.isub, 1) := by decide +kernel
theorem dX12_plan_19 : decode cX12_plan 19 = .ok (.i2l, 1) := by decide +kernel
theorem dX12_plan_20 : decode cX12_plan 20 = .ok (.invokestatic 155, 3) := by decide +kernel
theorem dX12_plan_23 : decode cX12_plan 23 = .ok (.ifCond .eq 19, 3) := by decide +kernel
theorem dX12_plan_26 : decode cX12_plan 26 = .ok (.aload_n 0, 1) := by decide +kernel
theorem dX12_plan_27 : decode cX12_plan 27 = .ok (.iload_n 3, 1) := by decide +kernel
theorem dX12_plan_28 : decode cX12_plan 28 = .ok (.invokevirtual 319, 3) := by decide +kernel
theorem dX12_plan_31 : decode cX12_plan 31 = .ok (.ifCond .eq 11, 3) := by decide +kernel
theorem dX12_plan_34 : decode cX12_plan 34 = .ok (.iload_n 1, 1) := by decide +kernel
theorem dX12_plan_35 : decode cX12_plan 35 = .ok (.iload_n 3, 1) := by decide +kernel
theorem dX12_plan_36 : decode cX12_plan 36 = .ok (.invokestatic 322, 3) := by decide +kernel
theorem dX12_plan_39 : decode cX12_plan 39 = .ok (.ifCond .ne 5, 3) := by decide +kernel
theorem dX12_plan_42 : decode cX12_plan 42 = .ok (.iconst (-1), 1) := by decide +kernel
theorem dX12_plan_43 : decode cX12_plan 43 = .ok (.ireturn, 1) := by decide +kernel
theorem dX12_plan_44 : decode cX12_plan 44 = .ok (.aload_n 0, 1) := by decide +kernel
theorem dX12_plan_45 : decode cX12_plan 45 = .ok (.iload_n 1, 1) := by decide +kernel
theorem dX12_plan_46 : decode cX12_plan 46 = .ok (.invokevirtual 449, 3) := by decide +kernel
theorem dX12_plan_49 : decode cX12_plan 49 = .ok (.aload_n 0, 1) := by decide +kernel
theorem dX12_plan_50 : decode cX12_plan 50 = .ok (.getfield 431, 3) := by decide +kernel
theorem dX12_plan_53 : decode cX12_plan 53 = .ok (.ifCond .ge 8, 3) := by decide +kernel
theorem dX12_plan_56 : decode cX12_plan 56 = .ok (.bipush (-2), 2) := by decide +kernel
theorem dX12_plan_58 : decode cX12_plan 58 = .ok (.goto 15, 3) := by decide +kernel
theorem dX12_plan_61 : decode cX12_plan 61 = .ok (.aload_n 0, 1) := by decide +kernel
theorem dX12_plan_62 : decode cX12_plan 62 = .ok (.iload_n 1, 1) := by decide +kernel
theorem dX12_plan_63 : decode cX12_plan 63 = .ok (.iload_n 3, 1) := by decide +kernel
theorem dX12_plan_64 : decode cX12_plan 64 = .ok (.aload_n 0, 1) := by decide +kernel
theorem dX12_plan_65 : decode cX12_plan 65 = .ok (.getfield 78, 3) := by decide +kernel
theorem dX12_plan_68 : decode cX12_plan 68 = .ok (.iload_n 2, 1) := by decide +kernel
theorem dX12_plan_69 : decode cX12_plan 69 = .ok (.iaload, 1) := by decide +kernel
theorem dX12_plan_70 : decode cX12_plan 70 = .ok (.invokevirtual 428, 3) := by decide +kernel
theorem dX12_plan_73 : decode cX12_plan 73 = .ok (.ireturn, 1) := by decide +kernel
theorem dX12_pop_0 : decode cX12_pop 0 = .ok (.aload_n 0, 1) := by decide +kernel
theorem dX12_pop_1 : decode cX12_pop 1 = .ok (.dup, 1) := by decide +kernel
theorem dX12_pop_2 : decode cX12_pop 2 = .ok (.getfield 304, 3) := by decide +kernel
theorem dX12_pop_5 : decode cX12_pop 5 = .ok (.iconst 1, 1) := by decide +kernel
theorem dX12_pop_6 : decode cX12_pop 6 = .ok (.isub, 1) := by decide +kernel
theorem dX12_pop_7 : decode cX12_pop 7 = .ok (.putfield 304, 3) := by decide +kernel
theorem dX12_pop_10 : decode cX12_pop 10 = .ok (.aload_n 0, 1) := by decide +kernel
theorem dX12_pop_11 : decode cX12_pop 11 = .ok (.getfield 38, 3) := by decide +kernel
theorem dX12_pop_14 : decode cX12_pop 14 = .ok (.aload_n 0, 1) := by decide +kernel
theorem dX12_pop_15 : decode cX12_pop 15 = .ok (.getfield 304, 3) := by decide +kernel
theorem dX12_pop_18 : decode cX12_pop 18 = .ok (.laload, 1) := by decide +kernel
theorem dX12_pop_19 : decode cX12_pop 19 = .ok (.lreturn, 1) := by decide +kernel
theorem dX12_push_0 : decode cX12_push 0 = .ok (.aload_n 0, 1) := by decide +kernel
theorem dX12_push_1 : decode cX12_push 1 = .ok (.getfield 38, 3) := by decide +kernel
theorem dX12_push_4 : decode cX12_push 4 = .ok (.aload_n 0, 1) := by decide +kernel
theorem dX12_push_5 : decode cX12_push 5 = .ok (.getfield 304, 3) := by decide +kernel
theorem dX12_push_8 : decode cX12_push 8 = .ok (.lload_n 1, 1) := by decide +kernel
theorem dX12_push_9 : decode cX12_push 9 = .ok (.lastore, 1) := by decide +kernel
theorem dX12_push_10 : decode cX12_push 10 = .ok (.aload_n 0, 1) := by decide +kernel
theorem dX12_push_11 : decode cX12_push 11 = .ok (.dup, 1) := by decide +kernel
theorem dX12_push_12 : decode cX12_push 12 = .ok (.getfield 304, 3) := by decide +kernel
theorem dX12_push_15 : decode cX12_push 15 = .ok (.iconst 1, 1) := by decide +kernel
theorem dX12_push_16 : decode cX12_push 16 = .ok (.iadd, 1) := by decide +kernel
theorem dX12_push_17 : decode cX12_push 17 = .ok (.putfield 304, 3) := by decide +kernel
theorem dX12_push_20 : decode cX12_push 20 = .ok (.return_, 1) := by decide +kernel
theorem dX12_puts_0 : decode cX12_puts 0 = .ok (.aload_n 0, 1) := by decide +kernel
theorem dX12_puts_1 : decode cX12_puts 1 = .ok (.getfield 13, 3) := by decide +kernel
theorem dX12_puts_4 : decode cX12_puts 4 = .ok (.sipush 400, 3) := by decide +kernel
theorem dX12_puts_7 : decode cX12_puts 7 = .ok (.aload_n 0, 1) := by decide +kernel
theorem dX12_puts_8 : decode cX12_puts 8 = .ok (.getfield 179, 3) := by decide +kernel
theorem dX12_puts_11 : decode cX12_puts 11 = .ok (.imul, 1) := by decide +kernel
theorem dX12_puts_12 : decode cX12_puts 12 = .ok (.aload_n 0, 1) := by decide +kernel
theorem dX12_puts_13 : decode cX12_puts 13 = .ok (.getfield 17, 3) := by decide +kernel
theorem dX12_puts_16 : decode cX12_puts 16 = .ok (.aload_n 0, 1) := by decide +kernel
theorem dX12_puts_17 : decode cX12_puts 17 = .ok (.getfield 179, 3) := by decide +kernel
theorem dX12_puts_20 : decode cX12_puts 20 = .ok (.iaload, 1) := by decide +kernel
theorem dX12_puts_21 : decode cX12_puts 21 = .ok (.iadd, 1) := by decide +kernel
theorem dX12_puts_22 : decode cX12_puts 22 = .ok (.iload_n 1, 1) := by decide +kernel
theorem dX12_puts_23 : decode cX12_puts 23 = .ok (.bipush 16, 2) := by decide +kernel
theorem dX12_puts_25 : decode cX12_puts 25 = .ok (.iload_n 2, 1) := by decide +kernel
theorem dX12_puts_26 : decode cX12_puts 26 = .ok (.imul, 1) := by decide +kernel
theorem dX12_puts_27 : decode cX12_puts 27 = .ok (.iadd, 1) := by decide +kernel
theorem dX12_puts_28 : decode cX12_puts 28 = .ok (.iastore, 1) := by decide +kernel
theorem dX12_puts_29 : decode cX12_puts 29 = .ok (.aload_n 0, 1) := by decide +kernel
theorem dX12_puts_30 : decode cX12_puts 30 = .ok (.getfield 17, 3) := by decide +kernel
theorem dX12_puts_33 : decode cX12_puts 33 = .ok (.aload_n 0, 1) := by decide +kernel
theorem dX12_puts_34 : decode cX12_puts 34 = .ok (.getfield 179, 3) := by decide +kernel
theorem dX12_puts_37 : decode cX12_puts 37 = .ok (.dup2, 1) := by decide +kernel
theorem dX12_puts_38 : decode cX12_puts 38 = .ok (.iaload, 1) := by decide +kernel
theorem dX12_puts_39 : decode cX12_puts 39 = .ok (.iconst 1, 1) := by decide +kernel
theorem dX12_puts_40 : decode cX12_puts 40 = .ok (.iadd, 1) := by decide +kernel
theorem dX12_puts_41 : decode cX12_puts 41 = .ok (.iastore, 1) := by decide +kernel
theorem dX12_puts_42 : decode cX12_puts 42 = .ok (.return_, 1) := by decide +kernel
theorem dX12_putsAll_0 : decode cX12_putsAll 0 = .ok (.iconst 0, 1) := by decide +kernel
theorem dX12_putsAll_1 : decode cX12_putsAll 1 = .ok (.istore 4, 2) := by decide +kernel
theorem dX12_putsAll_3 : decode cX12_putsAll 3 = .ok (.iconst 0, 1) := by decide +kernel
theorem dX12_putsAll_4 : decode cX12_putsAll 4 = .ok (.istore 5, 2) := by decide +kernel
theorem dX12_putsAll_6 : decode cX12_putsAll 6 = .ok (.iload 5, 2) := by decide +kernel
theorem dX12_putsAll_8 : decode cX12_putsAll 8 = .ok (.aload_n 0, 1) := by decide +kernel
theorem dX12_putsAll_9 : decode cX12_putsAll 9 = .ok (.getfield 45, 3) := by decide +kernel
theorem dX12_putsAll_12 : decode cX12_putsAll 12 = .ok (.iconst 0, 1) := by decide +kernel
theorem dX12_putsAll_13 : decode cX12_putsAll 13 = .ok (.iaload, 1) := by decide +kernel
theorem dX12_putsAll_14 : decode cX12_putsAll 14 = .ok (.if_icmp .ge 64, 3) := by decide +kernel
theorem dX12_putsAll_17 : decode cX12_putsAll 17 = .ok (.iload_n 1, 1) := by decide +kernel
theorem dX12_putsAll_18 : decode cX12_putsAll 18 = .ok (.iload 5, 2) := by decide +kernel
theorem dX12_putsAll_20 : decode cX12_putsAll 20 = .ok (.invokestatic 322, 3) := by decide +kernel
theorem dX12_putsAll_23 : decode cX12_putsAll 23 = .ok (.ifCond .ne 6, 3) := by decide +kernel
theorem dX12_putsAll_26 : decode cX12_putsAll 26 = .ok (.goto 46, 3) := by decide +kernel
theorem dX12_putsAll_29 : decode cX12_putsAll 29 = .ok (.aload_n 0, 1) := by decide +kernel
theorem dX12_putsAll_30 : decode cX12_putsAll 30 = .ok (.iload_n 1, 1) := by decide +kernel
theorem dX12_putsAll_31 : decode cX12_putsAll 31 = .ok (.iload 5, 2) := by decide +kernel
theorem dX12_putsAll_33 : decode cX12_putsAll 33 = .ok (.iload_n 2, 1) := by decide +kernel
theorem dX12_putsAll_34 : decode cX12_putsAll 34 = .ok (.invokevirtual 428, 3) := by decide +kernel
theorem dX12_putsAll_37 : decode cX12_putsAll 37 = .ok (.istore 6, 2) := by decide +kernel
theorem dX12_putsAll_39 : decode cX12_putsAll 39 = .ok (.aload_n 0, 1) := by decide +kernel
theorem dX12_putsAll_40 : decode cX12_putsAll 40 = .ok (.iload 5, 2) := by decide +kernel
theorem dX12_putsAll_42 : decode cX12_putsAll 42 = .ok (.iload 6, 2) := by decide +kernel
theorem dX12_putsAll_44 : decode cX12_putsAll 44 = .ok (.invokevirtual 377, 3) := by decide +kernel
theorem dX12_putsAll_47 : decode cX12_putsAll 47 = .ok (.iload 4, 2) := by decide +kernel
theorem dX12_putsAll_49 : decode cX12_putsAll 49 = .ok (.iload 6, 2) := by decide +kernel
theorem dX12_putsAll_51 : decode cX12_putsAll 51 = .ok (.aload_n 0, 1) := by decide +kernel
theorem dX12_putsAll_52 : decode cX12_putsAll 52 = .ok (.iload 5, 2) := by decide +kernel
theorem dX12_putsAll_54 : decode cX12_putsAll 54 = .ok (.iload_n 3, 1) := by decide +kernel
theorem dX12_putsAll_55 : decode cX12_putsAll 55 = .ok (.invokevirtual 330, 3) := by decide +kernel
theorem dX12_putsAll_58 : decode cX12_putsAll 58 = .ok (.invokestatic 354, 3) := by decide +kernel
theorem dX12_putsAll_61 : decode cX12_putsAll 61 = .ok (.if_icmp .ne 7, 3) := by decide +kernel
theorem dX12_putsAll_64 : decode cX12_putsAll 64 = .ok (.iconst 0, 1) := by decide +kernel
theorem dX12_putsAll_65 : decode cX12_putsAll 65 = .ok (.goto 4, 3) := by decide +kernel
theorem dX12_putsAll_68 : decode cX12_putsAll 68 = .ok (.iconst 1, 1) := by decide +kernel
theorem dX12_putsAll_69 : decode cX12_putsAll 69 = .ok (.iadd, 1) := by decide +kernel
theorem dX12_putsAll_70 : decode cX12_putsAll 70 = .ok (.istore 4, 2) := by decide +kernel
theorem dX12_putsAll_72 : decode cX12_putsAll 72 = .ok (.iinc 5 1, 3) := by decide +kernel
theorem dX12_putsAll_75 : decode cX12_putsAll 75 = .ok (.goto (-69), 3) := by decide +kernel
theorem dX12_putsAll_78 : decode cX12_putsAll 78 = .ok (.iload 4, 2) := by decide +kernel
theorem dX12_putsAll_80 : decode cX12_putsAll 80 = .ok (.ireturn, 1) := by decide +kernel
theorem dX12_putsSide_0 : decode cX12_putsSide 0 = .ok (.iconst 0, 1) := by decide +kernel
theorem dX12_putsSide_1 : decode cX12_putsSide 1 = .ok (.istore_n 3, 1) := by decide +kernel
theorem dX12_putsSide_2 : decode cX12_putsSide 2 = .ok (.iload_n 3, 1) := by decide +kernel
theorem dX12_putsSide_3 : decode cX12_putsSide 3 = .ok (.aload_n 0, 1) := by decide +kernel
theorem dX12_putsSide_4 : decode cX12_putsSide 4 = .ok (.getfield 45, 3) := by decide +kernel
theorem dX12_putsSide_7 : decode cX12_putsSide 7 = .ok (.iconst 0, 1) := by decide +kernel
theorem dX12_putsSide_8 : decode cX12_putsSide 8 = .ok (.iaload, 1) := by decide +kernel
theorem dX12_putsSide_9 : decode cX12_putsSide 9 = .ok (.if_icmp .ge 40, 3) := by decide +kernel
theorem dX12_putsSide_12 : decode cX12_putsSide 12 = .ok (.iload_n 1, 1) := by decide +kernel
theorem dX12_putsSide_13 : decode cX12_putsSide 13 = .ok (.iload_n 3, 1) := by decide +kernel
theorem dX12_putsSide_14 : decode cX12_putsSide 14 = .ok (.invokestatic 322, 3) := by decide +kernel
theorem dX12_putsSide_17 : decode cX12_putsSide 17 = .ok (.ifCond .eq 26, 3) := by decide +kernel
theorem dX12_putsSide_20 : decode cX12_putsSide 20 = .ok (.aload_n 0, 1) := by decide +kernel
theorem dX12_putsSide_21 : decode cX12_putsSide 21 = .ok (.iload_n 3, 1) := by decide +kernel
theorem dX12_putsSide_22 : decode cX12_putsSide 22 = .ok (.iload_n 2, 1) := by decide +kernel
theorem dX12_putsSide_23 : decode cX12_putsSide 23 = .ok (.ifCond .ne 7, 3) := by decide +kernel
theorem dX12_putsSide_26 : decode cX12_putsSide 26 = .ok (.iconst 1, 1) := by decide +kernel
theorem dX12_putsSide_27 : decode cX12_putsSide 27 = .ok (.goto 13, 3) := by decide +kernel
theorem dX12_putsSide_30 : decode cX12_putsSide 30 = .ok (.iload_n 2, 1) := by decide +kernel
theorem dX12_putsSide_31 : decode cX12_putsSide 31 = .ok (.iconst 1, 1) := by decide +kernel
theorem dX12_putsSide_32 : decode cX12_putsSide 32 = .ok (.if_icmp .ne 7, 3) := by decide +kernel
theorem dX12_putsSide_35 : decode cX12_putsSide 35 = .ok (.iconst 0, 1) := by decide +kernel
theorem dX12_putsSide_36 : decode cX12_putsSide 36 = .ok (.goto 4, 3) := by decide +kernel
theorem dX12_putsSide_39 : decode cX12_putsSide 39 = .ok (.iconst 2, 1) := by decide +kernel
theorem dX12_putsSide_40 : decode cX12_putsSide 40 = .ok (.invokevirtual 377, 3) := by decide +kernel
theorem dX12_putsSide_43 : decode cX12_putsSide 43 = .ok (.iinc 3 1, 3) := by decide +kernel
theorem dX12_putsSide_46 : decode cX12_putsSide 46 = .ok (.goto (-44), 3) := by decide +kernel
theorem dX12_putsSide_49 : decode cX12_putsSide 49 = .ok (.return_, 1) := by decide +kernel
theorem dX12_readsAll_0 : decode cX12_readsAll 0 = .ok (.aload_n 0, 1) := by decide +kernel
theorem dX12_readsAll_1 : decode cX12_readsAll 1 = .ok (.getfield 17, 3) := by decide +kernel
theorem dX12_readsAll_4 : decode cX12_readsAll 4 = .ok (.aload_n 0, 1) := by decide +kernel
theorem dX12_readsAll_5 : decode cX12_readsAll 5 = .ok (.getfield 179, 3) := by decide +kernel
theorem dX12_readsAll_8 : decode cX12_readsAll 8 = .ok (.iconst 0, 1) := by decide +kernel
theorem dX12_readsAll_9 : decode cX12_readsAll 9 = .ok (.iastore, 1) := by decide +kernel
theorem dX12_readsAll_10 : decode cX12_readsAll 10 = .ok (.aload_n 0, 1) := by decide +kernel
theorem dX12_readsAll_11 : decode cX12_readsAll 11 = .ok (.iconst 0, 1) := by decide +kernel
theorem dX12_readsAll_12 : decode cX12_readsAll 12 = .ok (.putfield 286, 3) := by decide +kernel
theorem dX12_readsAll_15 : decode cX12_readsAll 15 = .ok (.aload_n 0, 1) := by decide +kernel
theorem dX12_readsAll_16 : decode cX12_readsAll 16 = .ok (.iconst 0, 1) := by decide +kernel
theorem dX12_readsAll_17 : decode cX12_readsAll 17 = .ok (.putfield 127, 3) := by decide +kernel
theorem dX12_readsAll_20 : decode cX12_readsAll 20 = .ok (.aload_n 0, 1) := by decide +kernel
theorem dX12_readsAll_21 : decode cX12_readsAll 21 = .ok (.iconst 0, 1) := by decide +kernel
theorem dX12_readsAll_22 : decode cX12_readsAll 22 = .ok (.putfield 124, 3) := by decide +kernel
theorem dX12_readsAll_25 : decode cX12_readsAll 25 = .ok (.aload_n 0, 1) := by decide +kernel
theorem dX12_readsAll_26 : decode cX12_readsAll 26 = .ok (.iconst 0, 1) := by decide +kernel
theorem dX12_readsAll_27 : decode cX12_readsAll 27 = .ok (.putfield 182, 3) := by decide +kernel
theorem dX12_readsAll_30 : decode cX12_readsAll 30 = .ok (.aload_n 0, 1) := by decide +kernel
theorem dX12_readsAll_31 : decode cX12_readsAll 31 = .ok (.invokevirtual 295, 3) := by decide +kernel
theorem dX12_readsAll_34 : decode cX12_readsAll 34 = .ok (.istore_n 1, 1) := by decide +kernel
theorem dX12_readsAll_35 : decode cX12_readsAll 35 = .ok (.iload_n 1, 1) := by decide +kernel
theorem dX12_readsAll_36 : decode cX12_readsAll 36 = .ok (.ifCond .eq 30, 3) := by decide +kernel
theorem dX12_readsAll_39 : decode cX12_readsAll 39 = .ok (.aload_n 0, 1) := by decide +kernel
theorem dX12_readsAll_40 : decode cX12_readsAll 40 = .ok (.invokevirtual 130, 3) := by decide +kernel
theorem dX12_readsAll_43 : decode cX12_readsAll 43 = .ok (.bipush 59, 2) := by decide +kernel
theorem dX12_readsAll_45 : decode cX12_readsAll 45 = .ok (.if_icmp .ne 21, 3) := by decide +kernel
theorem dX12_readsAll_48 : decode cX12_readsAll 48 = .ok (.aload_n 0, 1) := by decide +kernel
theorem dX12_readsAll_49 : decode cX12_readsAll 49 = .ok (.dup, 1) := by decide +kernel
theorem dX12_readsAll_50 : decode cX12_readsAll 50 = .ok (.getfield 127, 3) := by decide +kernel
theorem dX12_readsAll_53 : decode cX12_readsAll 53 = .ok (.iconst 1, 1) := by decide +kernel
theorem dX12_readsAll_54 : decode cX12_readsAll 54 = .ok (.iadd, 1) := by decide +kernel
theorem dX12_readsAll_55 : decode cX12_readsAll 55 = .ok (.putfield 127, 3) := by decide +kernel
theorem dX12_readsAll_58 : decode cX12_readsAll 58 = .ok (.aload_n 0, 1) := by decide +kernel
theorem dX12_readsAll_59 : decode cX12_readsAll 59 = .ok (.invokevirtual 295, 3) := by decide +kernel
theorem dX12_readsAll_62 : decode cX12_readsAll 62 = .ok (.istore_n 1, 1) := by decide +kernel
theorem dX12_readsAll_63 : decode cX12_readsAll 63 = .ok (.goto (-28), 3) := by decide +kernel
theorem dX12_readsAll_66 : decode cX12_readsAll 66 = .ok (.iload_n 1, 1) := by decide +kernel
theorem dX12_readsAll_67 : decode cX12_readsAll 67 = .ok (.ifCond .eq 21, 3) := by decide +kernel
theorem dX12_readsAll_70 : decode cX12_readsAll 70 = .ok (.aload_n 0, 1) := by decide +kernel
theorem dX12_readsAll_71 : decode cX12_readsAll 71 = .ok (.invokevirtual 130, 3) := by decide +kernel
theorem dX12_readsAll_74 : decode cX12_readsAll 74 = .ok (.iconst (-1), 1) := by decide +kernel
theorem dX12_readsAll_75 : decode cX12_readsAll 75 = .ok (.if_icmp .eq 13, 3) := by decide +kernel
theorem dX12_readsAll_78 : decode cX12_readsAll 78 = .ok (.aload_n 0, 1) := by decide +kernel
theorem dX12_readsAll_79 : decode cX12_readsAll 79 = .ok (.iconst 0, 1) := by decide +kernel
theorem dX12_readsAll_80 : decode cX12_readsAll 80 = .ok (.aload_n 0, 1) := by decide +kernel
theorem dX12_readsAll_81 : decode cX12_readsAll 81 = .ok (.getfield 127, 3) := by decide +kernel
theorem dX12_readsAll_84 : decode cX12_readsAll 84 = .ok (.invokevirtual 148, 3) := by decide +kernel
theorem dX12_readsAll_87 : decode cX12_readsAll 87 = .ok (.pop, 1) := by decide +kernel
theorem dX12_readsAll_88 : decode cX12_readsAll 88 = .ok (.aload_n 0, 1) := by decide +kernel
theorem dX12_readsAll_89 : decode cX12_readsAll 89 = .ok (.iconst 0, 1) := by decide +kernel
theorem dX12_readsAll_90 : decode cX12_readsAll 90 = .ok (.putfield 116, 3) := by decide +kernel
theorem dX12_readsAll_93 : decode cX12_readsAll 93 = .ok (.aload_n 0, 1) := by decide +kernel
theorem dX12_readsAll_94 : decode cX12_readsAll 94 = .ok (.getfield 124, 3) := by decide +kernel
theorem dX12_readsAll_97 : decode cX12_readsAll 97 = .ok (.ifCond .ne 7, 3) := by decide +kernel
theorem dX12_readsAll_100 : decode cX12_readsAll 100 = .ok (.iconst 1, 1) := by decide +kernel
theorem dX12_readsAll_101 : decode cX12_readsAll 101 = .ok (.goto 4, 3) := by decide +kernel
theorem dX12_readsAll_104 : decode cX12_readsAll 104 = .ok (.iconst 0, 1) := by decide +kernel
theorem dX12_readsAll_105 : decode cX12_readsAll 105 = .ok (.ireturn, 1) := by decide +kernel
theorem dX12_reckons_0 : decode cX12_reckons 0 = .ok (.aload_n 0, 1) := by decide +kernel
theorem dX12_reckons_1 : decode cX12_reckons 1 = .ok (.iconst 0, 1) := by decide +kernel
theorem dX12_reckons_2 : decode cX12_reckons 2 = .ok (.putfield 304, 3) := by decide +kernel
theorem dX12_reckons_5 : decode cX12_reckons 5 = .ok (.iload_n 2, 1) := by decide +kernel
theorem dX12_reckons_6 : decode cX12_reckons 6 = .ok (.istore 4, 2) := by decide +kernel
theorem dX12_reckons_8 : decode cX12_reckons 8 = .ok (.iload 4, 2) := by decide +kernel
theorem dX12_reckons_10 : decode cX12_reckons 10 = .ok (.iload_n 3, 1) := by decide +kernel
theorem dX12_reckons_11 : decode cX12_reckons 11 = .ok (.if_icmp .ge 124, 3) := by decide +kernel
theorem dX12_reckons_14 : decode cX12_reckons 14 = .ok (.aload_n 0, 1) := by decide +kernel
theorem dX12_reckons_15 : decode cX12_reckons 15 = .ok (.getfield 13, 3) := by decide +kernel
theorem dX12_reckons_18 : decode cX12_reckons 18 = .ok (.sipush 400, 3) := by decide +kernel
theorem dX12_reckons_21 : decode cX12_reckons 21 = .ok (.iload_n 1, 1) := by decide +kernel
theorem dX12_reckons_22 : decode cX12_reckons 22 = .ok (.imul, 1) := by decide +kernel
theorem dX12_reckons_23 : decode cX12_reckons 23 = .ok (.iload 4, 2) := by decide +kernel
theorem dX12_reckons_25 : decode cX12_reckons 25 = .ok (.iadd, 1) := by decide +kernel
theorem dX12_reckons_26 : decode cX12_reckons 26 = .ok (.iaload, 1) := by decide +kernel
theorem dX12_reckons_27 : decode cX12_reckons 27 = .ok (.bipush 15, 2) := by decide +kernel
theorem dX12_reckons_29 : decode cX12_reckons 29 = .ok (.iand, 1) := by decide +kernel
theorem dX12_reckons_30 : decode cX12_reckons 30 = .ok (.istore 5, 2) := by decide +kernel
theorem dX12_reckons_32 : decode cX12_reckons 32 = .ok (.aload_n 0, 1) := by decide +kernel
theorem dX12_reckons_33 : decode cX12_reckons 33 = .ok (.getfield 13, 3) := by decide +kernel
theorem dX12_reckons_36 : decode cX12_reckons 36 = .ok (.sipush 400, 3) := by decide +kernel
theorem dX12_reckons_39 : decode cX12_reckons 39 = .ok (.iload_n 1, 1) := by decide +kernel
theorem dX12_reckons_40 : decode cX12_reckons 40 = .ok (.imul, 1) := by decide +kernel
theorem dX12_reckons_41 : decode cX12_reckons 41 = .ok (.iload 4, 2) := by decide +kernel
theorem dX12_reckons_43 : decode cX12_reckons 43 = .ok (.iadd, 1) := by decide +kernel
theorem dX12_reckons_44 : decode cX12_reckons 44 = .ok (.iaload, 1) := by decide +kernel
theorem dX12_reckons_45 : decode cX12_reckons 45 = .ok (.iconst 4, 1) := by decide +kernel
theorem dX12_reckons_46 : decode cX12_reckons 46 = .ok (.ishr, 1) := by decide +kernel
theorem dX12_reckons_47 : decode cX12_reckons 47 = .ok (.istore 6, 2) := by decide +kernel
theorem dX12_reckons_49 : decode cX12_reckons 49 = .ok (.iload 5, 2) := by decide +kernel
theorem dX12_reckons_51 : decode cX12_reckons 51 = .ok (.ifCond .ne 13, 3) := by decide +kernel
theorem dX12_reckons_54 : decode cX12_reckons 54 = .ok (.aload_n 0, 1) := by decide +kernel
theorem dX12_reckons_55 : decode cX12_reckons 55 = .ok (.iload 6, 2) := by decide +kernel
theorem dX12_reckons_57 : decode cX12_reckons 57 = .ok (.i2l, 1) := by decide +kernel
theorem dX12_reckons_58 : decode cX12_reckons 58 = .ok (.invokevirtual 307, 3) := by decide +kernel
theorem dX12_reckons_61 : decode cX12_reckons 61 = .ok (.goto 68, 3) := by decide +kernel
theorem dX12_reckons_64 : decode cX12_reckons 64 = .ok (.iload 5, 2) := by decide +kernel
theorem dX12_reckons_66 : decode cX12_reckons 66 = .ok (.iconst 1, 1) := by decide +kernel
theorem dX12_reckons_67 : decode cX12_reckons 67 = .ok (.if_icmp .ne 17, 3) := by decide +kernel
theorem dX12_reckons_70 : decode cX12_reckons 70 = .ok (.aload_n 0, 1) := by decide +kernel
theorem dX12_reckons_71 : decode cX12_reckons 71 = .ok (.aload_n 0, 1) := by decide +kernel
theorem dX12_reckons_72 : decode cX12_reckons 72 = .ok (.getfield 42, 3) := by decide +kernel
theorem dX12_reckons_75 : decode cX12_reckons 75 = .ok (.iload 6, 2) := by decide +kernel
theorem dX12_reckons_77 : decode cX12_reckons 77 = .ok (.laload, 1) := by decide +kernel
theorem dX12_reckons_78 : decode cX12_reckons 78 = .ok (.invokevirtual 307, 3) := by decide +kernel
theorem dX12_reckons_81 : decode cX12_reckons 81 = .ok (.goto 48, 3) := by decide +kernel
theorem dX12_reckons_84 : decode cX12_reckons 84 = .ok (.iload 5, 2) := by decide +kernel
theorem dX12_reckons_86 : decode cX12_reckons 86 = .ok (.bipush 11, 2) := by decide +kernel
theorem dX12_reckons_88 : decode cX12_reckons 88 = .ok (.if_icmp .ne 16, 3) := by decide +kernel
theorem dX12_reckons_91 : decode cX12_reckons 91 = .ok (.aload_n 0, 1) := by decide +kernel
theorem dX12_reckons_92 : decode cX12_reckons 92 = .ok (.lconst 1, 1) := by decide +kernel
theorem dX12_reckons_93 : decode cX12_reckons 93 = .ok (.aload_n 0, 1) := by decide +kernel
theorem dX12_reckons_94 : decode cX12_reckons 94 = .ok (.invokevirtual 311, 3) := by decide +kernel
theorem dX12_reckons_97 : decode cX12_reckons 97 = .ok (.lsub, 1) := by decide +kernel
theorem dX12_reckons_98 : decode cX12_reckons 98 = .ok (.invokevirtual 307, 3) := by decide +kernel
theorem dX12_reckons_101 : decode cX12_reckons 101 = .ok (.goto 28, 3) := by decide +kernel
theorem dX12_reckons_104 : decode cX12_reckons 104 = .ok (.aload_n 0, 1) := by decide +kernel
theorem dX12_reckons_105 : decode cX12_reckons 105 = .ok (.invokevirtual 311, 3) := by decide +kernel
theorem dX12_reckons_108 : decode cX12_reckons 108 = .ok (.lstore 7, 2) := by decide +kernel
theorem dX12_reckons_110 : decode cX12_reckons 110 = .ok (.aload_n 0, 1) := by decide +kernel
theorem dX12_reckons_111 : decode cX12_reckons 111 = .ok (.invokevirtual 311, 3) := by decide +kernel
theorem dX12_reckons_114 : decode cX12_reckons 114 = .ok (.lstore 9, 2) := by decide +kernel
theorem dX12_reckons_116 : decode cX12_reckons 116 = .ok (.aload_n 0, 1) := by decide +kernel
theorem dX12_reckons_117 : decode cX12_reckons 117 = .ok (.iload 5, 2) := by decide +kernel
theorem dX12_reckons_119 : decode cX12_reckons 119 = .ok (.lload 9, 2) := by decide +kernel
theorem dX12_reckons_121 : decode cX12_reckons 121 = .ok (.lload 7, 2) := by decide +kernel
theorem dX12_reckons_123 : decode cX12_reckons 123 = .ok (.invokestatic 315, 3) := by decide +kernel
theorem dX12_reckons_126 : decode cX12_reckons 126 = .ok (.invokevirtual 307, 3) := by decide +kernel
theorem dX12_reckons_129 : decode cX12_reckons 129 = .ok (.iinc 4 1, 3) := by decide +kernel
theorem dX12_reckons_132 : decode cX12_reckons 132 = .ok (.goto (-124), 3) := by decide +kernel
theorem dX12_reckons_135 : decode cX12_reckons 135 = .ok (.aload_n 0, 1) := by decide +kernel
theorem dX12_reckons_136 : decode cX12_reckons 136 = .ok (.invokevirtual 311, 3) := by decide +kernel
theorem dX12_reckons_139 : decode cX12_reckons 139 = .ok (.lreturn, 1) := by decide +kernel
theorem dX12_refuses_0 : decode cX12_refuses 0 = .ok (.aload_n 0, 1) := by decide +kernel
theorem dX12_refuses_1 : decode cX12_refuses 1 = .ok (.getfield 48, 3) := by decide +kernel
theorem dX12_refuses_4 : decode cX12_refuses 4 = .ok (.iload_n 1, 1) := by decide +kernel
theorem dX12_refuses_5 : decode cX12_refuses 5 = .ok (.dup2, 1) := by decide +kernel
theorem dX12_refuses_6 : decode cX12_refuses 6 = .ok (.iaload, 1) := by decide +kernel
theorem dX12_refuses_7 : decode cX12_refuses 7 = .ok (.iconst 1, 1) := by decide +kernel
theorem dX12_refuses_8 : decode cX12_refuses 8 = .ok (.iadd, 1) := by decide +kernel
theorem dX12_refuses_9 : decode cX12_refuses 9 = .ok (.iastore, 1) := by decide +kernel
theorem dX12_refuses_10 : decode cX12_refuses 10 = .ok (.bipush (-2), 2) := by decide +kernel
theorem dX12_refuses_12 : decode cX12_refuses 12 = .ok (.ireturn, 1) := by decide +kernel
theorem dX12_result_0 : decode cX12_result 0 = .ok (.aload_n 0, 1) := by decide +kernel
theorem dX12_result_1 : decode cX12_result 1 = .ok (.aload_n 0, 1) := by decide +kernel
theorem dX12_result_2 : decode cX12_result 2 = .ok (.getfield 364, 3) := by decide +kernel
theorem dX12_result_5 : decode cX12_result 5 = .ok (.invokevirtual 380, 3) := by decide +kernel
theorem dX12_result_8 : decode cX12_result 8 = .ok (.istore_n 1, 1) := by decide +kernel
theorem dX12_result_9 : decode cX12_result 9 = .ok (.aload_n 0, 1) := by decide +kernel
theorem dX12_result_10 : decode cX12_result 10 = .ok (.aload_n 0, 1) := by decide +kernel
theorem dX12_result_11 : decode cX12_result 11 = .ok (.getfield 367, 3) := by decide +kernel
theorem dX12_result_14 : decode cX12_result 14 = .ok (.invokevirtual 380, 3) := by decide +kernel
theorem dX12_result_17 : decode cX12_result 17 = .ok (.istore_n 2, 1) := by decide +kernel
theorem dX12_result_18 : decode cX12_result 18 = .ok (.iload_n 1, 1) := by decide +kernel
theorem dX12_result_19 : decode cX12_result 19 = .ok (.iload_n 2, 1) := by decide +kernel
theorem dX12_result_20 : decode cX12_result 20 = .ok (.if_icmp .le 7, 3) := by decide +kernel
theorem dX12_result_23 : decode cX12_result 23 = .ok (.iconst 1, 1) := by decide +kernel
theorem dX12_result_24 : decode cX12_result 24 = .ok (.goto 13, 3) := by decide +kernel
theorem dX12_result_27 : decode cX12_result 27 = .ok (.iload_n 1, 1) := by decide +kernel
theorem dX12_result_28 : decode cX12_result 28 = .ok (.iload_n 2, 1) := by decide +kernel
theorem dX12_result_29 : decode cX12_result 29 = .ok (.if_icmp .ge 7, 3) := by decide +kernel
theorem dX12_result_32 : decode cX12_result 32 = .ok (.iconst 0, 1) := by decide +kernel
theorem dX12_result_33 : decode cX12_result 33 = .ok (.goto 4, 3) := by decide +kernel
theorem dX12_result_36 : decode cX12_result 36 = .ok (.iconst 2, 1) := by decide +kernel
theorem dX12_result_37 : decode cX12_result 37 = .ok (.ireturn, 1) := by decide +kernel
theorem dX12_returnsTo_0 : decode cX12_returnsTo 0 = .ok (.iconst 0, 1) := by decide +kernel
theorem dX12_returnsTo_1 : decode cX12_returnsTo 1 = .ok (.istore_n 2, 1) := by decide +kernel
theorem dX12_returnsTo_2 : decode cX12_returnsTo 2 = .ok (.iload_n 2, 1) := by decide +kernel
theorem dX12_returnsTo_3 : decode cX12_returnsTo 3 = .ok (.bipush 10, 2) := by decide +kernel
theorem dX12_returnsTo_5 : decode cX12_returnsTo 5 = .ok (.if_icmp .ge 26, 3) := by decide +kernel
theorem dX12_returnsTo_8 : decode cX12_returnsTo 8 = .ok (.aload_n 0, 1) := by decide +kernel
theorem dX12_returnsTo_9 : decode cX12_returnsTo 9 = .ok (.getfield 51, 3) := by decide +kernel
theorem dX12_returnsTo_12 : decode cX12_returnsTo 12 = .ok (.iload_n 2, 1) := by decide +kernel
theorem dX12_returnsTo_13 : decode cX12_returnsTo 13 = .ok (.aload_n 0, 1) := by decide +kernel
theorem dX12_returnsTo_14 : decode cX12_returnsTo 14 = .ok (.getfield 63, 3) := by decide +kernel
theorem dX12_returnsTo_17 : decode cX12_returnsTo 17 = .ok (.bipush 10, 2) := by decide +kernel
theorem dX12_returnsTo_19 : decode cX12_returnsTo 19 = .ok (.iload_n 1, 1) := by decide +kernel
theorem dX12_returnsTo_20 : decode cX12_returnsTo 20 = .ok (.imul, 1) := by decide +kernel
theorem dX12_returnsTo_21 : decode cX12_returnsTo 21 = .ok (.iload_n 2, 1) := by decide +kernel
theorem dX12_returnsTo_22 : decode cX12_returnsTo 22 = .ok (.iadd, 1) := by decide +kernel
theorem dX12_returnsTo_23 : decode cX12_returnsTo 23 = .ok (.iaload, 1) := by decide +kernel
theorem dX12_returnsTo_24 : decode cX12_returnsTo 24 = .ok (.iastore, 1) := by decide +kernel
theorem dX12_returnsTo_25 : decode cX12_returnsTo 25 = .ok (.iinc 2 1, 3) := by decide +kernel
theorem dX12_returnsTo_28 : decode cX12_returnsTo 28 = .ok (.goto (-26), 3) := by decide +kernel
theorem dX12_returnsTo_31 : decode cX12_returnsTo 31 = .ok (.aload_n 0, 1) := by decide +kernel
theorem dX12_returnsTo_32 : decode cX12_returnsTo 32 = .ok (.aload_n 0, 1) := by decide +kernel
theorem dX12_returnsTo_33 : decode cX12_returnsTo 33 = .ok (.getfield 45, 3) := by decide +kernel
theorem dX12_returnsTo_36 : decode cX12_returnsTo 36 = .ok (.iconst 3, 1) := by decide +kernel
theorem dX12_returnsTo_37 : decode cX12_returnsTo 37 = .ok (.iaload, 1) := by decide +kernel
theorem dX12_returnsTo_38 : decode cX12_returnsTo 38 = .ok (.iload_n 1, 1) := by decide +kernel
theorem dX12_returnsTo_39 : decode cX12_returnsTo 39 = .ok (.iadd, 1) := by decide +kernel
theorem dX12_returnsTo_40 : decode cX12_returnsTo 40 = .ok (.putfield 348, 3) := by decide +kernel
theorem dX12_returnsTo_43 : decode cX12_returnsTo 43 = .ok (.aload_n 0, 1) := by decide +kernel
theorem dX12_returnsTo_44 : decode cX12_returnsTo 44 = .ok (.aload_n 0, 1) := by decide +kernel
theorem dX12_returnsTo_45 : decode cX12_returnsTo 45 = .ok (.getfield 72, 3) := by decide +kernel
theorem dX12_returnsTo_48 : decode cX12_returnsTo 48 = .ok (.iload_n 1, 1) := by decide +kernel
theorem dX12_returnsTo_49 : decode cX12_returnsTo 49 = .ok (.iaload, 1) := by decide +kernel
theorem dX12_returnsTo_50 : decode cX12_returnsTo 50 = .ok (.putfield 364, 3) := by decide +kernel
theorem dX12_returnsTo_53 : decode cX12_returnsTo 53 = .ok (.aload_n 0, 1) := by decide +kernel
theorem dX12_returnsTo_54 : decode cX12_returnsTo 54 = .ok (.aload_n 0, 1) := by decide +kernel
theorem dX12_returnsTo_55 : decode cX12_returnsTo 55 = .ok (.getfield 75, 3) := by decide +kernel
theorem dX12_returnsTo_58 : decode cX12_returnsTo 58 = .ok (.iload_n 1, 1) := by decide +kernel
theorem dX12_returnsTo_59 : decode cX12_returnsTo 59 = .ok (.iaload, 1) := by decide +kernel
theorem dX12_returnsTo_60 : decode cX12_returnsTo 60 = .ok (.putfield 367, 3) := by decide +kernel
theorem dX12_returnsTo_63 : decode cX12_returnsTo 63 = .ok (.return_, 1) := by decide +kernel
theorem dX12_rounds_0 : decode cX12_rounds 0 = .ok (.aload_n 0, 1) := by decide +kernel
theorem dX12_rounds_1 : decode cX12_rounds 1 = .ok (.getfield 45, 3) := by decide +kernel
theorem dX12_rounds_4 : decode cX12_rounds 4 = .ok (.iconst 4, 1) := by decide +kernel
theorem dX12_rounds_5 : decode cX12_rounds 5 = .ok (.iaload, 1) := by decide +kernel
theorem dX12_rounds_6 : decode cX12_rounds 6 = .ok (.ifCond .eq 25, 3) := by decide +kernel
theorem dX12_rounds_9 : decode cX12_rounds 9 = .ok (.iload_n 1, 1) := by decide +kernel
theorem dX12_rounds_10 : decode cX12_rounds 10 = .ok (.i2l, 1) := by decide +kernel
theorem dX12_rounds_11 : decode cX12_rounds 11 = .ok (.lconst 0, 1) := by decide +kernel
theorem dX12_rounds_12 : decode cX12_rounds 12 = .ok (.ldc2_w 344, 3) := by decide +kernel
theorem dX12_rounds_15 : decode cX12_rounds 15 = .ok (.invokestatic 155, 3) := by decide +kernel
theorem dX12_rounds_18 : decode cX12_rounds 18 = .ok (.ifCond .ne 15, 3) := by decide +kernel
theorem dX12_rounds_21 : decode cX12_rounds 21 = .ok (.aload_n 0, 1) := by decide +kernel
theorem dX12_rounds_22 : decode cX12_rounds 22 = .ok (.iload_n 1, 1) := by decide +kernel
theorem dX12_rounds_23 : decode cX12_rounds 23 = .ok (.iconst 3, 1) := by decide +kernel
theorem dX12_rounds_24 : decode cX12_rounds 24 = .ok (.isub, 1) := by decide +kernel
theorem dX12_rounds_25 : decode cX12_rounds 25 = .ok (.invokevirtual 319, 3) := by decide +kernel
theorem dX12_rounds_28 : decode cX12_rounds 28 = .ok (.ifCond .ne 5, 3) := by decide +kernel
theorem dX12_rounds_31 : decode cX12_rounds 31 = .ok (.iconst (-1), 1) := by decide +kernel
theorem dX12_rounds_32 : decode cX12_rounds 32 = .ok (.ireturn, 1) := by decide +kernel
theorem dX12_rounds_33 : decode cX12_rounds 33 = .ok (.aload_n 0, 1) := by decide +kernel
theorem dX12_rounds_34 : decode cX12_rounds 34 = .ok (.invokevirtual 393, 3) := by decide +kernel
theorem dX12_rounds_37 : decode cX12_rounds 37 = .ok (.aload_n 0, 1) := by decide +kernel
theorem dX12_rounds_38 : decode cX12_rounds 38 = .ok (.iconst 0, 1) := by decide +kernel
theorem dX12_rounds_39 : decode cX12_rounds 39 = .ok (.putfield 407, 3) := by decide +kernel
theorem dX12_rounds_42 : decode cX12_rounds 42 = .ok (.aload_n 0, 1) := by decide +kernel
theorem dX12_rounds_43 : decode cX12_rounds 43 = .ok (.iconst 0, 1) := by decide +kernel
theorem dX12_rounds_44 : decode cX12_rounds 44 = .ok (.invokevirtual 478, 3) := by decide +kernel
theorem dX12_rounds_47 : decode cX12_rounds 47 = .ok (.iconst 1, 1) := by decide +kernel
theorem dX12_rounds_48 : decode cX12_rounds 48 = .ok (.istore_n 2, 1) := by decide +kernel
theorem dX12_rounds_49 : decode cX12_rounds 49 = .ok (.iload_n 2, 1) := by decide +kernel
theorem dX12_rounds_50 : decode cX12_rounds 50 = .ok (.sipush 300, 3) := by decide +kernel
theorem dX12_rounds_53 : decode cX12_rounds 53 = .ok (.if_icmp .gt 157, 3) := by decide +kernel
theorem dX12_rounds_56 : decode cX12_rounds 56 = .ok (.iconst 0, 1) := by decide +kernel
theorem dX12_rounds_57 : decode cX12_rounds 57 = .ok (.istore_n 3, 1) := by decide +kernel
theorem dX12_rounds_58 : decode cX12_rounds 58 = .ok (.iload_n 3, 1) := by decide +kernel
theorem dX12_rounds_59 : decode cX12_rounds 59 = .ok (.aload_n 0, 1) := by decide +kernel
theorem dX12_rounds_60 : decode cX12_rounds 60 = .ok (.getfield 351, 3) := by decide +kernel
theorem dX12_rounds_63 : decode cX12_rounds 63 = .ok (.if_icmp .ge 45, 3) := by decide +kernel
theorem dX12_rounds_66 : decode cX12_rounds 66 = .ok (.aload_n 0, 1) := by decide +kernel
theorem dX12_rounds_67 : decode cX12_rounds 67 = .ok (.aload_n 0, 1) := by decide +kernel
theorem dX12_rounds_68 : decode cX12_rounds 68 = .ok (.getfield 45, 3) := by decide +kernel
theorem dX12_rounds_71 : decode cX12_rounds 71 = .ok (.iconst 3, 1) := by decide +kernel
theorem dX12_rounds_72 : decode cX12_rounds 72 = .ok (.iaload, 1) := by decide +kernel
theorem dX12_rounds_73 : decode cX12_rounds 73 = .ok (.putfield 348, 3) := by decide +kernel
theorem dX12_rounds_76 : decode cX12_rounds 76 = .ok (.aload_n 0, 1) := by decide +kernel
theorem dX12_rounds_77 : decode cX12_rounds 77 = .ok (.aload_n 0, 1) := by decide +kernel
theorem dX12_rounds_78 : decode cX12_rounds 78 = .ok (.getfield 54, 3) := by decide +kernel
theorem dX12_rounds_81 : decode cX12_rounds 81 = .ok (.iload_n 3, 1) := by decide +kernel
theorem dX12_rounds_82 : decode cX12_rounds 82 = .ok (.iaload, 1) := by decide +kernel
theorem dX12_rounds_83 : decode cX12_rounds 83 = .ok (.iload_n 3, 1) := by decide +kernel
theorem dX12_rounds_84 : decode cX12_rounds 84 = .ok (.invokevirtual 396, 3) := by decide +kernel
theorem dX12_rounds_87 : decode cX12_rounds 87 = .ok (.aload_n 0, 1) := by decide +kernel
theorem dX12_rounds_88 : decode cX12_rounds 88 = .ok (.iconst 0, 1) := by decide +kernel
theorem dX12_rounds_89 : decode cX12_rounds 89 = .ok (.aload_n 0, 1) := by decide +kernel
theorem dX12_rounds_90 : decode cX12_rounds 90 = .ok (.getfield 54, 3) := by decide +kernel
theorem dX12_rounds_93 : decode cX12_rounds 93 = .ok (.iload_n 3, 1) := by decide +kernel
theorem dX12_rounds_94 : decode cX12_rounds 94 = .ok (.iaload, 1) := by decide +kernel
theorem dX12_rounds_95 : decode cX12_rounds 95 = .ok (.aload_n 0, 1) := by decide +kernel
theorem dX12_rounds_96 : decode cX12_rounds 96 = .ok (.invokevirtual 399, 3) := by decide +kernel
theorem dX12_rounds_99 : decode cX12_rounds 99 = .ok (.invokevirtual 413, 3) := by decide +kernel
theorem dX12_rounds_102 : decode cX12_rounds 102 = .ok (.iinc 3 1, 3) := by decide +kernel
theorem dX12_rounds_105 : decode cX12_rounds 105 = .ok (.goto (-47), 3) := by decide +kernel
theorem dX12_rounds_108 : decode cX12_rounds 108 = .ok (.aload_n 0, 1) := by decide +kernel
theorem dX12_rounds_109 : decode cX12_rounds 109 = .ok (.iload_n 2, 1) := by decide +kernel
theorem dX12_rounds_110 : decode cX12_rounds 110 = .ok (.invokevirtual 478, 3) := by decide +kernel
theorem dX12_rounds_113 : decode cX12_rounds 113 = .ok (.iconst 0, 1) := by decide +kernel
theorem dX12_rounds_114 : decode cX12_rounds 114 = .ok (.istore_n 3, 1) := by decide +kernel
theorem dX12_rounds_115 : decode cX12_rounds 115 = .ok (.iload_n 3, 1) := by decide +kernel
theorem dX12_rounds_116 : decode cX12_rounds 116 = .ok (.iload_n 2, 1) := by decide +kernel
theorem dX12_rounds_117 : decode cX12_rounds 117 = .ok (.if_icmp .ge 87, 3) := by decide +kernel
theorem dX12_rounds_120 : decode cX12_rounds 120 = .ok (.aload_n 0, 1) := by decide +kernel
theorem dX12_rounds_121 : decode cX12_rounds 121 = .ok (.iload_n 2, 1) := by decide +kernel
theorem dX12_rounds_122 : decode cX12_rounds 122 = .ok (.iload_n 3, 1) := by decide +kernel
theorem dX12_rounds_123 : decode cX12_rounds 123 = .ok (.invokevirtual 481, 3) := by decide +kernel
theorem dX12_rounds_126 : decode cX12_rounds 126 = .ok (.ifCond .ne 6, 3) := by decide +kernel
theorem dX12_rounds_129 : decode cX12_rounds 129 = .ok (.goto 69, 3) := by decide +kernel
theorem dX12_rounds_132 : decode cX12_rounds 132 = .ok (.iload_n 1, 1) := by decide +kernel
theorem dX12_rounds_133 : decode cX12_rounds 133 = .ok (.iconst 3, 1) := by decide +kernel
theorem dX12_rounds_134 : decode cX12_rounds 134 = .ok (.if_icmp .ge 36, 3) := by decide +kernel
theorem dX12_rounds_137 : decode cX12_rounds 137 = .ok (.iload_n 1, 1) := by decide +kernel
theorem dX12_rounds_138 : decode cX12_rounds 138 = .ok (.ifCond .ne 7, 3) := by decide +kernel
theorem dX12_rounds_141 : decode cX12_rounds 141 = .ok (.iload_n 3, 1) := by decide +kernel
theorem dX12_rounds_142 : decode cX12_rounds 142 = .ok (.goto 27, 3) := by decide +kernel
theorem dX12_rounds_145 : decode cX12_rounds 145 = .ok (.iload_n 1, 1) := by decide +kernel
theorem dX12_rounds_146 : decode cX12_rounds 146 = .ok (.iconst 1, 1) := by decide +kernel
theorem dX12_rounds_147 : decode cX12_rounds 147 = .ok (.if_icmp .ne 9, 3) := by decide +kernel
theorem dX12_rounds_150 : decode cX12_rounds 150 = .ok (.iload_n 2, 1) := by decide +kernel
theorem dX12_rounds_151 : decode cX12_rounds 151 = .ok (.iload_n 3, 1) := by decide +kernel
theorem dX12_rounds_152 : decode cX12_rounds 152 = .ok (.isub, 1) := by decide +kernel
theorem dX12_rounds_153 : decode cX12_rounds 153 = .ok (.goto 16, 3) := by decide +kernel
theorem dX12_rounds_156 : decode cX12_rounds 156 = .ok (.aload_n 0, 1) := by decide +kernel
theorem dX12_rounds_157 : decode cX12_rounds 157 = .ok (.getfield 99, 3) := by decide +kernel
theorem dX12_rounds_160 : decode cX12_rounds 160 = .ok (.iload_n 2, 1) := by decide +kernel
theorem dX12_rounds_161 : decode cX12_rounds 161 = .ok (.iaload, 1) := by decide +kernel
theorem dX12_rounds_162 : decode cX12_rounds 162 = .ok (.aload_n 0, 1) := by decide +kernel
theorem dX12_rounds_163 : decode cX12_rounds 163 = .ok (.getfield 99, 3) := by decide +kernel
theorem dX12_rounds_166 : decode cX12_rounds 166 = .ok (.iload_n 3, 1) := by decide +kernel
theorem dX12_rounds_167 : decode cX12_rounds 167 = .ok (.iaload, 1) := by decide +kernel
theorem dX12_rounds_168 : decode cX12_rounds 168 = .ok (.isub, 1) := by decide +kernel
theorem dX12_rounds_169 : decode cX12_rounds 169 = .ok (.ireturn, 1) := by decide +kernel
theorem dX12_rounds_170 : decode cX12_rounds 170 = .ok (.aload_n 0, 1) := by decide +kernel
theorem dX12_rounds_171 : decode cX12_rounds 171 = .ok (.getfield 96, 3) := by decide +kernel
theorem dX12_rounds_174 : decode cX12_rounds 174 = .ok (.bipush 10, 2) := by decide +kernel
theorem dX12_rounds_176 : decode cX12_rounds 176 = .ok (.iload_n 2, 1) := by decide +kernel
theorem dX12_rounds_177 : decode cX12_rounds 177 = .ok (.imul, 1) := by decide +kernel
theorem dX12_rounds_178 : decode cX12_rounds 178 = .ok (.iload_n 1, 1) := by decide +kernel
theorem dX12_rounds_179 : decode cX12_rounds 179 = .ok (.iadd, 1) := by decide +kernel
theorem dX12_rounds_180 : decode cX12_rounds 180 = .ok (.iconst 3, 1) := by decide +kernel
theorem dX12_rounds_181 : decode cX12_rounds 181 = .ok (.isub, 1) := by decide +kernel
theorem dX12_rounds_182 : decode cX12_rounds 182 = .ok (.iaload, 1) := by decide +kernel
theorem dX12_rounds_183 : decode cX12_rounds 183 = .ok (.aload_n 0, 1) := by decide +kernel
theorem dX12_rounds_184 : decode cX12_rounds 184 = .ok (.getfield 96, 3) := by decide +kernel
theorem dX12_rounds_187 : decode cX12_rounds 187 = .ok (.bipush 10, 2) := by decide +kernel
theorem dX12_rounds_189 : decode cX12_rounds 189 = .ok (.iload_n 3, 1) := by decide +kernel
theorem dX12_rounds_190 : decode cX12_rounds 190 = .ok (.imul, 1) := by decide +kernel
theorem dX12_rounds_191 : decode cX12_rounds 191 = .ok (.iload_n 1, 1) := by decide +kernel
theorem dX12_rounds_192 : decode cX12_rounds 192 = .ok (.iadd, 1) := by decide +kernel
theorem dX12_rounds_193 : decode cX12_rounds 193 = .ok (.iconst 3, 1) := by decide +kernel
theorem dX12_rounds_194 : decode cX12_rounds 194 = .ok (.isub, 1) := by decide +kernel
theorem dX12_rounds_195 : decode cX12_rounds 195 = .ok (.iaload, 1) := by decide +kernel
theorem dX12_rounds_196 : decode cX12_rounds 196 = .ok (.isub, 1) := by decide +kernel
theorem dX12_rounds_197 : decode cX12_rounds 197 = .ok (.ireturn, 1) := by decide +kernel
theorem dX12_rounds_198 : decode cX12_rounds 198 = .ok (.iinc 3 1, 3) := by decide +kernel
theorem dX12_rounds_201 : decode cX12_rounds 201 = .ok (.goto (-86), 3) := by decide +kernel
theorem dX12_rounds_204 : decode cX12_rounds 204 = .ok (.iinc 2 1, 3) := by decide +kernel
theorem dX12_rounds_207 : decode cX12_rounds 207 = .ok (.goto (-158), 3) := by decide +kernel
theorem dX12_rounds_210 : decode cX12_rounds 210 = .ok (.bipush (-2), 2) := by decide +kernel
theorem dX12_rounds_212 : decode cX12_rounds 212 = .ok (.ireturn, 1) := by decide +kernel
theorem dX12_rule_0 : decode cX12_rule 0 = .ok (.aload_n 0, 1) := by decide +kernel
theorem dX12_rule_1 : decode cX12_rule 1 = .ok (.getfield 298, 3) := by decide +kernel
theorem dX12_rule_4 : decode cX12_rule 4 = .ok (.bipush 6, 2) := by decide +kernel
theorem dX12_rule_6 : decode cX12_rule 6 = .ok (.if_icmp .ne 5, 3) := by decide +kernel
theorem dX12_rule_9 : decode cX12_rule 9 = .ok (.iconst (-1), 1) := by decide +kernel
theorem dX12_rule_10 : decode cX12_rule 10 = .ok (.ireturn, 1) := by decide +kernel
theorem dX12_rule_11 : decode cX12_rule 11 = .ok (.aload_n 0, 1) := by decide +kernel
theorem dX12_rule_12 : decode cX12_rule 12 = .ok (.aload_n 0, 1) := by decide +kernel
theorem dX12_rule_13 : decode cX12_rule 13 = .ok (.getfield 298, 3) := by decide +kernel
theorem dX12_rule_16 : decode cX12_rule 16 = .ok (.putfield 179, 3) := by decide +kernel
theorem dX12_rule_19 : decode cX12_rule 19 = .ok (.aload_n 0, 1) := by decide +kernel
theorem dX12_rule_20 : decode cX12_rule 20 = .ok (.getfield 23, 3) := by decide +kernel
theorem dX12_rule_23 : decode cX12_rule 23 = .ok (.aload_n 0, 1) := by decide +kernel
theorem dX12_rule_24 : decode cX12_rule 24 = .ok (.getfield 179, 3) := by decide +kernel
theorem dX12_rule_27 : decode cX12_rule 27 = .ok (.iconst 0, 1) := by decide +kernel
theorem dX12_rule_28 : decode cX12_rule 28 = .ok (.iastore, 1) := by decide +kernel
theorem dX12_rule_29 : decode cX12_rule 29 = .ok (.aload_n 0, 1) := by decide +kernel
theorem dX12_rule_30 : decode cX12_rule 30 = .ok (.invokevirtual 301, 3) := by decide +kernel
theorem dX12_rule_33 : decode cX12_rule 33 = .ok (.ifCond .ne 11, 3) := by decide +kernel
theorem dX12_rule_36 : decode cX12_rule 36 = .ok (.bipush (-2), 2) := by decide +kernel
theorem dX12_rule_38 : decode cX12_rule 38 = .ok (.aload_n 0, 1) := by decide +kernel
theorem dX12_rule_39 : decode cX12_rule 39 = .ok (.getfield 124, 3) := by decide +kernel
theorem dX12_rule_42 : decode cX12_rule 42 = .ok (.isub, 1) := by decide +kernel
theorem dX12_rule_43 : decode cX12_rule 43 = .ok (.ireturn, 1) := by decide +kernel
theorem dX12_rule_44 : decode cX12_rule 44 = .ok (.aload_n 0, 1) := by decide +kernel
theorem dX12_rule_45 : decode cX12_rule 45 = .ok (.dup, 1) := by decide +kernel
theorem dX12_rule_46 : decode cX12_rule 46 = .ok (.getfield 298, 3) := by decide +kernel
theorem dX12_rule_49 : decode cX12_rule 49 = .ok (.iconst 1, 1) := by decide +kernel
theorem dX12_rule_50 : decode cX12_rule 50 = .ok (.iadd, 1) := by decide +kernel
theorem dX12_rule_51 : decode cX12_rule 51 = .ok (.putfield 298, 3) := by decide +kernel
theorem dX12_rule_54 : decode cX12_rule 54 = .ok (.aload_n 0, 1) := by decide +kernel
theorem dX12_rule_55 : decode cX12_rule 55 = .ok (.getfield 298, 3) := by decide +kernel
theorem dX12_rule_58 : decode cX12_rule 58 = .ok (.iconst 1, 1) := by decide +kernel
theorem dX12_rule_59 : decode cX12_rule 59 = .ok (.isub, 1) := by decide +kernel
theorem dX12_rule_60 : decode cX12_rule 60 = .ok (.ireturn, 1) := by decide +kernel
theorem dX12_saying_0 : decode cX12_saying 0 = .ok (.aload_n 0, 1) := by decide +kernel
theorem dX12_saying_1 : decode cX12_saying 1 = .ok (.iload_n 1, 1) := by decide +kernel
theorem dX12_saying_2 : decode cX12_saying 2 = .ok (.iload_n 2, 1) := by decide +kernel
theorem dX12_saying_3 : decode cX12_saying 3 = .ok (.invokevirtual 330, 3) := by decide +kernel
theorem dX12_saying_6 : decode cX12_saying 6 = .ok (.istore 4, 2) := by decide +kernel
theorem dX12_saying_8 : decode cX12_saying 8 = .ok (.aload_n 0, 1) := by decide +kernel
theorem dX12_saying_9 : decode cX12_saying 9 = .ok (.getfield 45, 3) := by decide +kernel
theorem dX12_saying_12 : decode cX12_saying 12 = .ok (.bipush 20, 2) := by decide +kernel
theorem dX12_saying_14 : decode cX12_saying 14 = .ok (.iload_n 1, 1) := by decide +kernel
theorem dX12_saying_15 : decode cX12_saying 15 = .ok (.iadd, 1) := by decide +kernel
theorem dX12_saying_16 : decode cX12_saying 16 = .ok (.iaload, 1) := by decide +kernel
theorem dX12_saying_17 : decode cX12_saying 17 = .ok (.istore 5, 2) := by decide +kernel
theorem dX12_saying_19 : decode cX12_saying 19 = .ok (.iload 5, 2) := by decide +kernel
theorem dX12_saying_21 : decode cX12_saying 21 = .ok (.ifCond .lt 12, 3) := by decide +kernel
theorem dX12_saying_24 : decode cX12_saying 24 = .ok (.iload 5, 2) := by decide +kernel
theorem dX12_saying_26 : decode cX12_saying 26 = .ok (.aload_n 0, 1) := by decide +kernel
theorem dX12_saying_27 : decode cX12_saying 27 = .ok (.getfield 298, 3) := by decide +kernel
theorem dX12_saying_30 : decode cX12_saying 30 = .ok (.if_icmp .lt 9, 3) := by decide +kernel
theorem dX12_saying_33 : decode cX12_saying 33 = .ok (.iload 4, 2) := by decide +kernel
theorem dX12_saying_35 : decode cX12_saying 35 = .ok (.invokestatic 354, 3) := by decide +kernel
theorem dX12_saying_38 : decode cX12_saying 38 = .ok (.ireturn, 1) := by decide +kernel
theorem dX12_saying_39 : decode cX12_saying 39 = .ok (.aload_n 0, 1) := by decide +kernel
theorem dX12_saying_40 : decode cX12_saying 40 = .ok (.getfield 42, 3) := by decide +kernel
theorem dX12_saying_43 : decode cX12_saying 43 = .ok (.iconst 0, 1) := by decide +kernel
theorem dX12_saying_44 : decode cX12_saying 44 = .ok (.iload_n 1, 1) := by decide +kernel
theorem dX12_saying_45 : decode cX12_saying 45 = .ok (.i2l, 1) := by decide +kernel
theorem dX12_saying_46 : decode cX12_saying 46 = .ok (.lastore, 1) := by decide +kernel
theorem dX12_saying_47 : decode cX12_saying 47 = .ok (.aload_n 0, 1) := by decide +kernel
theorem dX12_saying_48 : decode cX12_saying 48 = .ok (.getfield 42, 3) := by decide +kernel
theorem dX12_saying_51 : decode cX12_saying 51 = .ok (.iconst 2, 1) := by decide +kernel
theorem dX12_saying_52 : decode cX12_saying 52 = .ok (.iload 4, 2) := by decide +kernel
theorem dX12_saying_54 : decode cX12_saying 54 = .ok (.i2l, 1) := by decide +kernel
theorem dX12_saying_55 : decode cX12_saying 55 = .ok (.lastore, 1) := by decide +kernel
theorem dX12_saying_56 : decode cX12_saying 56 = .ok (.aload_n 0, 1) := by decide +kernel
theorem dX12_saying_57 : decode cX12_saying 57 = .ok (.getfield 42, 3) := by decide +kernel
theorem dX12_saying_60 : decode cX12_saying 60 = .ok (.iconst 3, 1) := by decide +kernel
theorem dX12_saying_61 : decode cX12_saying 61 = .ok (.aload_n 0, 1) := by decide +kernel
theorem dX12_saying_62 : decode cX12_saying 62 = .ok (.getfield 51, 3) := by decide +kernel
theorem dX12_saying_65 : decode cX12_saying 65 = .ok (.iload_n 1, 1) := by decide +kernel
theorem dX12_saying_66 : decode cX12_saying 66 = .ok (.iaload, 1) := by decide +kernel
theorem dX12_saying_67 : decode cX12_saying 67 = .ok (.i2l, 1) := by decide +kernel
theorem dX12_saying_68 : decode cX12_saying 68 = .ok (.lastore, 1) := by decide +kernel
theorem dX12_saying_69 : decode cX12_saying 69 = .ok (.aload_n 0, 1) := by decide +kernel
theorem dX12_saying_70 : decode cX12_saying 70 = .ok (.getfield 42, 3) := by decide +kernel
theorem dX12_saying_73 : decode cX12_saying 73 = .ok (.bipush 7, 2) := by decide +kernel
theorem dX12_saying_75 : decode cX12_saying 75 = .ok (.lconst 0, 1) := by decide +kernel
theorem dX12_saying_76 : decode cX12_saying 76 = .ok (.lastore, 1) := by decide +kernel
theorem dX12_saying_77 : decode cX12_saying 77 = .ok (.iload_n 3, 1) := by decide +kernel
theorem dX12_saying_78 : decode cX12_saying 78 = .ok (.iconst 1, 1) := by decide +kernel
theorem dX12_saying_79 : decode cX12_saying 79 = .ok (.iadd, 1) := by decide +kernel
theorem dX12_saying_80 : decode cX12_saying 80 = .ok (.istore 6, 2) := by decide +kernel
theorem dX12_saying_82 : decode cX12_saying 82 = .ok (.iload_n 3, 1) := by decide +kernel
theorem dX12_saying_83 : decode cX12_saying 83 = .ok (.ifCond .lt 68, 3) := by decide +kernel
theorem dX12_saying_86 : decode cX12_saying 86 = .ok (.iload 6, 2) := by decide +kernel
theorem dX12_saying_88 : decode cX12_saying 88 = .ok (.aload_n 0, 1) := by decide +kernel
theorem dX12_saying_89 : decode cX12_saying 89 = .ok (.getfield 351, 3) := by decide +kernel
theorem dX12_saying_92 : decode cX12_saying 92 = .ok (.if_icmp .ge 59, 3) := by decide +kernel
theorem dX12_saying_95 : decode cX12_saying 95 = .ok (.aload_n 0, 1) := by decide +kernel
theorem dX12_saying_96 : decode cX12_saying 96 = .ok (.iload_n 1, 1) := by decide +kernel
theorem dX12_saying_97 : decode cX12_saying 97 = .ok (.aload_n 0, 1) := by decide +kernel
theorem dX12_saying_98 : decode cX12_saying 98 = .ok (.getfield 54, 3) := by decide +kernel
theorem dX12_saying_101 : decode cX12_saying 101 = .ok (.iload 6, 2) := by decide +kernel
theorem dX12_saying_103 : decode cX12_saying 103 = .ok (.iaload, 1) := by decide +kernel
theorem dX12_saying_104 : decode cX12_saying 104 = .ok (.invokevirtual 330, 3) := by decide +kernel
theorem dX12_saying_107 : decode cX12_saying 107 = .ok (.invokestatic 357, 3) := by decide +kernel
theorem dX12_saying_110 : decode cX12_saying 110 = .ok (.i2l, 1) := by decide +kernel
theorem dX12_saying_111 : decode cX12_saying 111 = .ok (.aload_n 0, 1) := by decide +kernel
theorem dX12_saying_112 : decode cX12_saying 112 = .ok (.getfield 42, 3) := by decide +kernel
theorem dX12_saying_115 : decode cX12_saying 115 = .ok (.bipush 7, 2) := by decide +kernel
theorem dX12_saying_117 : decode cX12_saying 117 = .ok (.laload, 1) := by decide +kernel
theorem dX12_saying_118 : decode cX12_saying 118 = .ok (.lcmp, 1) := by decide +kernel
theorem dX12_saying_119 : decode cX12_saying 119 = .ok (.ifCond .le 26, 3) := by decide +kernel
theorem dX12_saying_122 : decode cX12_saying 122 = .ok (.aload_n 0, 1) := by decide +kernel
theorem dX12_saying_123 : decode cX12_saying 123 = .ok (.getfield 42, 3) := by decide +kernel
theorem dX12_saying_126 : decode cX12_saying 126 = .ok (.bipush 7, 2) := by decide +kernel
theorem dX12_saying_128 : decode cX12_saying 128 = .ok (.aload_n 0, 1) := by decide +kernel
theorem dX12_saying_129 : decode cX12_saying 129 = .ok (.iload_n 1, 1) := by decide +kernel
theorem dX12_saying_130 : decode cX12_saying 130 = .ok (.aload_n 0, 1) := by decide +kernel
theorem dX12_saying_131 : decode cX12_saying 131 = .ok (.getfield 54, 3) := by decide +kernel
theorem dX12_saying_134 : decode cX12_saying 134 = .ok (.iload 6, 2) := by decide +kernel
theorem dX12_saying_136 : decode cX12_saying 136 = .ok (.iaload, 1) := by decide +kernel
theorem dX12_saying_137 : decode cX12_saying 137 = .ok (.invokevirtual 330, 3) := by decide +kernel
theorem dX12_saying_140 : decode cX12_saying 140 = .ok (.invokestatic 357, 3) := by decide +kernel
theorem dX12_saying_143 : decode cX12_saying 143 = .ok (.i2l, 1) := by decide +kernel
theorem dX12_saying_144 : decode cX12_saying 144 = .ok (.lastore, 1) := by decide +kernel
theorem dX12_saying_145 : decode cX12_saying 145 = .ok (.iinc 6 1, 3) := by decide +kernel
theorem dX12_saying_148 : decode cX12_saying 148 = .ok (.goto (-66), 3) := by decide +kernel
theorem dX12_saying_151 : decode cX12_saying 151 = .ok (.iconst 0, 1) := by decide +kernel
theorem dX12_saying_152 : decode cX12_saying 152 = .ok (.istore 6, 2) := by decide +kernel
theorem dX12_saying_154 : decode cX12_saying 154 = .ok (.iload 6, 2) := by decide +kernel
theorem dX12_saying_156 : decode cX12_saying 156 = .ok (.aload_n 0, 1) := by decide +kernel
theorem dX12_saying_157 : decode cX12_saying 157 = .ok (.getfield 23, 3) := by decide +kernel
theorem dX12_saying_160 : decode cX12_saying 160 = .ok (.iload 5, 2) := by decide +kernel
theorem dX12_saying_162 : decode cX12_saying 162 = .ok (.iaload, 1) := by decide +kernel
theorem dX12_saying_163 : decode cX12_saying 163 = .ok (.if_icmp .ge 70, 3) := by decide +kernel
theorem dX12_saying_166 : decode cX12_saying 166 = .ok (.bipush 36, 2) := by decide +kernel
theorem dX12_saying_168 : decode cX12_saying 168 = .ok (.iload 5, 2) := by decide +kernel
theorem dX12_saying_170 : decode cX12_saying 170 = .ok (.imul, 1) := by decide +kernel
theorem dX12_saying_171 : decode cX12_saying 171 = .ok (.iconst 3, 1) := by decide +kernel
theorem dX12_saying_172 : decode cX12_saying 172 = .ok (.iload 6, 2) := by decide +kernel
theorem dX12_saying_174 : decode cX12_saying 174 = .ok (.imul, 1) := by decide +kernel
theorem dX12_saying_175 : decode cX12_saying 175 = .ok (.iadd, 1) := by decide +kernel
theorem dX12_saying_176 : decode cX12_saying 176 = .ok (.istore 7, 2) := by decide +kernel
theorem dX12_saying_178 : decode cX12_saying 178 = .ok (.aload_n 0, 1) := by decide +kernel
theorem dX12_saying_179 : decode cX12_saying 179 = .ok (.getfield 20, 3) := by decide +kernel
theorem dX12_saying_182 : decode cX12_saying 182 = .ok (.iload 7, 2) := by decide +kernel
theorem dX12_saying_184 : decode cX12_saying 184 = .ok (.iconst 1, 1) := by decide +kernel
theorem dX12_saying_185 : decode cX12_saying 185 = .ok (.iadd, 1) := by decide +kernel
theorem dX12_saying_186 : decode cX12_saying 186 = .ok (.iaload, 1) := by decide +kernel
theorem dX12_saying_187 : decode cX12_saying 187 = .ok (.ifCond .lt 32, 3) := by decide +kernel
theorem dX12_saying_190 : decode cX12_saying 190 = .ok (.aload_n 0, 1) := by decide +kernel
theorem dX12_saying_191 : decode cX12_saying 191 = .ok (.iload 5, 2) := by decide +kernel
theorem dX12_saying_193 : decode cX12_saying 193 = .ok (.aload_n 0, 1) := by decide +kernel
theorem dX12_saying_194 : decode cX12_saying 194 = .ok (.getfield 20, 3) := by decide +kernel
theorem dX12_saying_197 : decode cX12_saying 197 = .ok (.iload 7, 2) := by decide +kernel
theorem dX12_saying_199 : decode cX12_saying 199 = .ok (.iconst 1, 1) := by decide +kernel
theorem dX12_saying_200 : decode cX12_saying 200 = .ok (.iadd, 1) := by decide +kernel
theorem dX12_saying_201 : decode cX12_saying 201 = .ok (.iaload, 1) := by decide +kernel
theorem dX12_saying_202 : decode cX12_saying 202 = .ok (.aload_n 0, 1) := by decide +kernel
theorem dX12_saying_203 : decode cX12_saying 203 = .ok (.getfield 20, 3) := by decide +kernel
theorem dX12_saying_206 : decode cX12_saying 206 = .ok (.iload 7, 2) := by decide +kernel
theorem dX12_saying_208 : decode cX12_saying 208 = .ok (.iconst 2, 1) := by decide +kernel
theorem dX12_saying_209 : decode cX12_saying 209 = .ok (.iadd, 1) := by decide +kernel
theorem dX12_saying_210 : decode cX12_saying 210 = .ok (.iaload, 1) := by decide +kernel
theorem dX12_saying_211 : decode cX12_saying 211 = .ok (.invokevirtual 360, 3) := by decide +kernel
theorem dX12_saying_214 : decode cX12_saying 214 = .ok (.lconst 1, 1) := by decide +kernel
theorem dX12_saying_215 : decode cX12_saying 215 = .ok (.lcmp, 1) := by decide +kernel
theorem dX12_saying_216 : decode cX12_saying 216 = .ok (.ifCond .ne 11, 3) := by decide +kernel
theorem dX12_saying_219 : decode cX12_saying 219 = .ok (.aload_n 0, 1) := by decide +kernel
theorem dX12_saying_220 : decode cX12_saying 220 = .ok (.getfield 20, 3) := by decide +kernel
theorem dX12_saying_223 : decode cX12_saying 223 = .ok (.iload 7, 2) := by decide +kernel
theorem dX12_saying_225 : decode cX12_saying 225 = .ok (.iaload, 1) := by decide +kernel
theorem dX12_saying_226 : decode cX12_saying 226 = .ok (.ireturn, 1) := by decide +kernel
theorem dX12_saying_227 : decode cX12_saying 227 = .ok (.iinc 6 1, 3) := by decide +kernel
theorem dX12_saying_230 : decode cX12_saying 230 = .ok (.goto (-76), 3) := by decide +kernel
theorem dX12_saying_233 : decode cX12_saying 233 = .ok (.iload 4, 2) := by decide +kernel
theorem dX12_saying_235 : decode cX12_saying 235 = .ok (.invokestatic 354, 3) := by decide +kernel
theorem dX12_saying_238 : decode cX12_saying 238 = .ok (.ireturn, 1) := by decide +kernel
theorem dX12_sayingBy_0 : decode cX12_sayingBy 0 = .ok (.iload_n 3, 1) := by decide +kernel
theorem dX12_sayingBy_1 : decode cX12_sayingBy 1 = .ok (.istore 4, 2) := by decide +kernel
theorem dX12_sayingBy_3 : decode cX12_sayingBy 3 = .ok (.bipush 9, 2) := by decide +kernel
theorem dX12_sayingBy_5 : decode cX12_sayingBy 5 = .ok (.istore 5, 2) := by decide +kernel
theorem dX12_sayingBy_7 : decode cX12_sayingBy 7 = .ok (.iload 5, 2) := by decide +kernel
theorem dX12_sayingBy_9 : decode cX12_sayingBy 9 = .ok (.iload_n 2, 1) := by decide +kernel
theorem dX12_sayingBy_10 : decode cX12_sayingBy 10 = .ok (.if_icmp .le 29, 3) := by decide +kernel
theorem dX12_sayingBy_13 : decode cX12_sayingBy 13 = .ok (.iload_n 1, 1) := by decide +kernel
theorem dX12_sayingBy_14 : decode cX12_sayingBy 14 = .ok (.iload 5, 2) := by decide +kernel
theorem dX12_sayingBy_16 : decode cX12_sayingBy 16 = .ok (.invokestatic 322, 3) := by decide +kernel
theorem dX12_sayingBy_19 : decode cX12_sayingBy 19 = .ok (.ifCond .eq 10, 3) := by decide +kernel
theorem dX12_sayingBy_22 : decode cX12_sayingBy 22 = .ok (.iload 4, 2) := by decide +kernel
theorem dX12_sayingBy_24 : decode cX12_sayingBy 24 = .ok (.iconst 3, 1) := by decide +kernel
theorem dX12_sayingBy_25 : decode cX12_sayingBy 25 = .ok (.idiv, 1) := by decide +kernel
theorem dX12_sayingBy_26 : decode cX12_sayingBy 26 = .ok (.goto 5, 3) := by decide +kernel
theorem dX12_sayingBy_29 : decode cX12_sayingBy 29 = .ok (.iload 4, 2) := by decide +kernel
theorem dX12_sayingBy_31 : decode cX12_sayingBy 31 = .ok (.istore 4, 2) := by decide +kernel
theorem dX12_sayingBy_33 : decode cX12_sayingBy 33 = .ok (.iinc 5 (-1), 3) := by decide +kernel
theorem dX12_sayingBy_36 : decode cX12_sayingBy 36 = .ok (.goto (-29), 3) := by decide +kernel
theorem dX12_sayingBy_39 : decode cX12_sayingBy 39 = .ok (.iload 4, 2) := by decide +kernel
theorem dX12_sayingBy_41 : decode cX12_sayingBy 41 = .ok (.iconst 3, 1) := by decide +kernel
theorem dX12_sayingBy_42 : decode cX12_sayingBy 42 = .ok (.irem, 1) := by decide +kernel
theorem dX12_sayingBy_43 : decode cX12_sayingBy 43 = .ok (.ifCond .ne 7, 3) := by decide +kernel
theorem dX12_sayingBy_46 : decode cX12_sayingBy 46 = .ok (.iconst 1, 1) := by decide +kernel
theorem dX12_sayingBy_47 : decode cX12_sayingBy 47 = .ok (.goto 16, 3) := by decide +kernel
theorem dX12_sayingBy_50 : decode cX12_sayingBy 50 = .ok (.iload 4, 2) := by decide +kernel
theorem dX12_sayingBy_52 : decode cX12_sayingBy 52 = .ok (.iconst 3, 1) := by decide +kernel
theorem dX12_sayingBy_53 : decode cX12_sayingBy 53 = .ok (.irem, 1) := by decide +kernel
theorem dX12_sayingBy_54 : decode cX12_sayingBy 54 = .ok (.iconst 1, 1) := by decide +kernel
theorem dX12_sayingBy_55 : decode cX12_sayingBy 55 = .ok (.if_icmp .ne 7, 3) := by decide +kernel
theorem dX12_sayingBy_58 : decode cX12_sayingBy 58 = .ok (.iconst 0, 1) := by decide +kernel
theorem dX12_sayingBy_59 : decode cX12_sayingBy 59 = .ok (.goto 4, 3) := by decide +kernel
theorem dX12_sayingBy_62 : decode cX12_sayingBy 62 = .ok (.iconst 2, 1) := by decide +kernel
theorem dX12_sayingBy_63 : decode cX12_sayingBy 63 = .ok (.ireturn, 1) := by decide +kernel
theorem dX12_says_0 : decode cX12_says 0 = .ok (.aload_n 0, 1) := by decide +kernel
theorem dX12_says_1 : decode cX12_says 1 = .ok (.iload_n 1, 1) := by decide +kernel
theorem dX12_says_2 : decode cX12_says 2 = .ok (.invokevirtual 390, 3) := by decide +kernel
theorem dX12_says_5 : decode cX12_says 5 = .ok (.ifCond .eq 11, 3) := by decide +kernel
theorem dX12_says_8 : decode cX12_says 8 = .ok (.aload_n 0, 1) := by decide +kernel
theorem dX12_says_9 : decode cX12_says 9 = .ok (.iload_n 2, 1) := by decide +kernel
theorem dX12_says_10 : decode cX12_says 10 = .ok (.invokevirtual 327, 3) := by decide +kernel
theorem dX12_says_13 : decode cX12_says 13 = .ok (.ifCond .ne 5, 3) := by decide +kernel
theorem dX12_says_16 : decode cX12_says 16 = .ok (.iconst (-1), 1) := by decide +kernel
theorem dX12_says_17 : decode cX12_says 17 = .ok (.ireturn, 1) := by decide +kernel
theorem dX12_says_18 : decode cX12_says 18 = .ok (.aload_n 0, 1) := by decide +kernel
theorem dX12_says_19 : decode cX12_says 19 = .ok (.invokevirtual 393, 3) := by decide +kernel
theorem dX12_says_22 : decode cX12_says 22 = .ok (.aload_n 0, 1) := by decide +kernel
theorem dX12_says_23 : decode cX12_says 23 = .ok (.iload_n 2, 1) := by decide +kernel
theorem dX12_says_24 : decode cX12_says 24 = .ok (.iconst (-1), 1) := by decide +kernel
theorem dX12_says_25 : decode cX12_says 25 = .ok (.invokevirtual 370, 3) := by decide +kernel
theorem dX12_says_28 : decode cX12_says 28 = .ok (.aload_n 0, 1) := by decide +kernel
theorem dX12_says_29 : decode cX12_says 29 = .ok (.iload_n 1, 1) := by decide +kernel
theorem dX12_says_30 : decode cX12_says 30 = .ok (.iload_n 2, 1) := by decide +kernel
theorem dX12_says_31 : decode cX12_says 31 = .ok (.iconst (-1), 1) := by decide +kernel
theorem dX12_says_32 : decode cX12_says 32 = .ok (.invokevirtual 373, 3) := by decide +kernel
theorem dX12_says_35 : decode cX12_says 35 = .ok (.ireturn, 1) := by decide +kernel
theorem dX12_see_0 : decode cX12_see 0 = .ok (.aload_n 0, 1) := by decide +kernel
theorem dX12_see_1 : decode cX12_see 1 = .ok (.getfield 127, 3) := by decide +kernel
theorem dX12_see_4 : decode cX12_see 4 = .ok (.aload_n 0, 1) := by decide +kernel
theorem dX12_see_5 : decode cX12_see 5 = .ok (.getfield 116, 3) := by decide +kernel
theorem dX12_see_8 : decode cX12_see 8 = .ok (.if_icmp .ge 30, 3) := by decide +kernel
theorem dX12_see_11 : decode cX12_see 11 = .ok (.aload_n 0, 1) := by decide +kernel
theorem dX12_see_12 : decode cX12_see 12 = .ok (.getfield 7, 3) := by decide +kernel
theorem dX12_see_15 : decode cX12_see 15 = .ok (.aload_n 0, 1) := by decide +kernel
theorem dX12_see_16 : decode cX12_see 16 = .ok (.getfield 127, 3) := by decide +kernel
theorem dX12_see_19 : decode cX12_see 19 = .ok (.baload, 1) := by decide +kernel
theorem dX12_see_20 : decode cX12_see 20 = .ok (.bipush 32, 2) := by decide +kernel
theorem dX12_see_22 : decode cX12_see 22 = .ok (.if_icmp .ne 16, 3) := by decide +kernel
theorem dX12_see_25 : decode cX12_see 25 = .ok (.aload_n 0, 1) := by decide +kernel
theorem dX12_see_26 : decode cX12_see 26 = .ok (.dup, 1) := by decide +kernel
theorem dX12_see_27 : decode cX12_see 27 = .ok (.getfield 127, 3) := by decide +kernel
theorem dX12_see_30 : decode cX12_see 30 = .ok (.iconst 1, 1) := by decide +kernel
theorem dX12_see_31 : decode cX12_see 31 = .ok (.iadd, 1) := by decide +kernel
theorem dX12_see_32 : decode cX12_see 32 = .ok (.putfield 127, 3) := by decide +kernel
theorem dX12_see_35 : decode cX12_see 35 = .ok (.goto (-35), 3) := by decide +kernel
theorem dX12_see_38 : decode cX12_see 38 = .ok (.aload_n 0, 1) := by decide +kernel
theorem dX12_see_39 : decode cX12_see 39 = .ok (.getfield 127, 3) := by decide +kernel
theorem dX12_see_42 : decode cX12_see 42 = .ok (.aload_n 0, 1) := by decide +kernel
theorem dX12_see_43 : decode cX12_see 43 = .ok (.getfield 116, 3) := by decide +kernel
theorem dX12_see_46 : decode cX12_see 46 = .ok (.if_icmp .ge 19, 3) := by decide +kernel
theorem dX12_see_49 : decode cX12_see 49 = .ok (.aload_n 0, 1) := by decide +kernel
theorem dX12_see_50 : decode cX12_see 50 = .ok (.getfield 7, 3) := by decide +kernel
theorem dX12_see_53 : decode cX12_see 53 = .ok (.aload_n 0, 1) := by decide +kernel
theorem dX12_see_54 : decode cX12_see 54 = .ok (.getfield 127, 3) := by decide +kernel
theorem dX12_see_57 : decode cX12_see 57 = .ok (.baload, 1) := by decide +kernel
theorem dX12_see_58 : decode cX12_see 58 = .ok (.sipush 255, 3) := by decide +kernel
theorem dX12_see_61 : decode cX12_see 61 = .ok (.iand, 1) := by decide +kernel
theorem dX12_see_62 : decode cX12_see 62 = .ok (.goto 4, 3) := by decide +kernel
theorem dX12_see_65 : decode cX12_see 65 = .ok (.iconst (-1), 1) := by decide +kernel
theorem dX12_see_66 : decode cX12_see 66 = .ok (.ireturn, 1) := by decide +kernel
theorem dX12_seed_0 : decode cX12_seed 0 = .ok (.iload_n 1, 1) := by decide +kernel
theorem dX12_seed_1 : decode cX12_seed 1 = .ok (.ifCond .ge 9, 3) := by decide +kernel
theorem dX12_seed_4 : decode cX12_seed 4 = .ok (.aload_n 0, 1) := by decide +kernel
theorem dX12_seed_5 : decode cX12_seed 5 = .ok (.iconst 0, 1) := by decide +kernel
theorem dX12_seed_6 : decode cX12_seed 6 = .ok (.invokevirtual 338, 3) := by decide +kernel
theorem dX12_seed_9 : decode cX12_seed 9 = .ok (.ireturn, 1) := by decide +kernel
theorem dX12_seed_10 : decode cX12_seed 10 = .ok (.aload_n 0, 1) := by decide +kernel
theorem dX12_seed_11 : decode cX12_seed 11 = .ok (.getfield 45, 3) := by decide +kernel
theorem dX12_seed_14 : decode cX12_seed 14 = .ok (.bipush 6, 2) := by decide +kernel
theorem dX12_seed_16 : decode cX12_seed 16 = .ok (.iaload, 1) := by decide +kernel
theorem dX12_seed_17 : decode cX12_seed 17 = .ok (.istore_n 2, 1) := by decide +kernel
theorem dX12_seed_18 : decode cX12_seed 18 = .ok (.aload_n 0, 1) := by decide +kernel
theorem dX12_seed_19 : decode cX12_seed 19 = .ok (.getfield 45, 3) := by decide +kernel
theorem dX12_seed_22 : decode cX12_seed 22 = .ok (.bipush 6, 2) := by decide +kernel
theorem dX12_seed_24 : decode cX12_seed 24 = .ok (.iload_n 1, 1) := by decide +kernel
theorem dX12_seed_25 : decode cX12_seed 25 = .ok (.iastore, 1) := by decide +kernel
theorem dX12_seed_26 : decode cX12_seed 26 = .ok (.iload_n 2, 1) := by decide +kernel
theorem dX12_seed_27 : decode cX12_seed 27 = .ok (.ireturn, 1) := by decide +kernel
theorem dX12_sets_0 : decode cX12_sets 0 = .ok (.aload_n 0, 1) := by decide +kernel
theorem dX12_sets_1 : decode cX12_sets 1 = .ok (.dup, 1) := by decide +kernel
theorem dX12_sets_2 : decode cX12_sets 2 = .ok (.getfield 364, 3) := by decide +kernel
theorem dX12_sets_5 : decode cX12_sets 5 = .ok (.iconst 1, 1) := by decide +kernel
theorem dX12_sets_6 : decode cX12_sets 6 = .ok (.iload_n 1, 1) := by decide +kernel
theorem dX12_sets_7 : decode cX12_sets 7 = .ok (.ishl, 1) := by decide +kernel
theorem dX12_sets_8 : decode cX12_sets 8 = .ok (.iconst (-1), 1) := by decide +kernel
theorem dX12_sets_9 : decode cX12_sets 9 = .ok (.ixor, 1) := by decide +kernel
theorem dX12_sets_10 : decode cX12_sets 10 = .ok (.iand, 1) := by decide +kernel
theorem dX12_sets_11 : decode cX12_sets 11 = .ok (.putfield 364, 3) := by decide +kernel
theorem dX12_sets_14 : decode cX12_sets 14 = .ok (.aload_n 0, 1) := by decide +kernel
theorem dX12_sets_15 : decode cX12_sets 15 = .ok (.dup, 1) := by decide +kernel
theorem dX12_sets_16 : decode cX12_sets 16 = .ok (.getfield 367, 3) := by decide +kernel
theorem dX12_sets_19 : decode cX12_sets 19 = .ok (.iconst 1, 1) := by decide +kernel
theorem dX12_sets_20 : decode cX12_sets 20 = .ok (.iload_n 1, 1) := by decide +kernel
theorem dX12_sets_21 : decode cX12_sets 21 = .ok (.ishl, 1) := by decide +kernel
theorem dX12_sets_22 : decode cX12_sets 22 = .ok (.iconst (-1), 1) := by decide +kernel
theorem dX12_sets_23 : decode cX12_sets 23 = .ok (.ixor, 1) := by decide +kernel
theorem dX12_sets_24 : decode cX12_sets 24 = .ok (.iand, 1) := by decide +kernel
theorem dX12_sets_25 : decode cX12_sets 25 = .ok (.putfield 367, 3) := by decide +kernel
theorem dX12_sets_28 : decode cX12_sets 28 = .ok (.aload_n 0, 1) := by decide +kernel
theorem dX12_sets_29 : decode cX12_sets 29 = .ok (.dup, 1) := by decide +kernel
theorem dX12_sets_30 : decode cX12_sets 30 = .ok (.getfield 364, 3) := by decide +kernel
theorem dX12_sets_33 : decode cX12_sets 33 = .ok (.iload_n 2, 1) := by decide +kernel
theorem dX12_sets_34 : decode cX12_sets 34 = .ok (.iconst 1, 1) := by decide +kernel
theorem dX12_sets_35 : decode cX12_sets 35 = .ok (.if_icmp .ne 9, 3) := by decide +kernel
theorem dX12_sets_38 : decode cX12_sets 38 = .ok (.iconst 1, 1) := by decide +kernel
theorem dX12_sets_39 : decode cX12_sets 39 = .ok (.iload_n 1, 1) := by decide +kernel
theorem dX12_sets_40 : decode cX12_sets 40 = .ok (.ishl, 1) := by decide +kernel
theorem dX12_sets_41 : decode cX12_sets 41 = .ok (.goto 4, 3) := by decide +kernel
theorem dX12_sets_44 : decode cX12_sets 44 = .ok (.iconst 0, 1) := by decide +kernel
theorem dX12_sets_45 : decode cX12_sets 45 = .ok (.ior, 1) := by decide +kernel
theorem dX12_sets_46 : decode cX12_sets 46 = .ok (.putfield 364, 3) := by decide +kernel
theorem dX12_sets_49 : decode cX12_sets 49 = .ok (.aload_n 0, 1) := by decide +kernel
theorem dX12_sets_50 : decode cX12_sets 50 = .ok (.dup, 1) := by decide +kernel
theorem dX12_sets_51 : decode cX12_sets 51 = .ok (.getfield 367, 3) := by decide +kernel
theorem dX12_sets_54 : decode cX12_sets 54 = .ok (.iload_n 2, 1) := by decide +kernel
theorem dX12_sets_55 : decode cX12_sets 55 = .ok (.ifCond .ne 9, 3) := by decide +kernel
theorem dX12_sets_58 : decode cX12_sets 58 = .ok (.iconst 1, 1) := by decide +kernel
theorem dX12_sets_59 : decode cX12_sets 59 = .ok (.iload_n 1, 1) := by decide +kernel
theorem dX12_sets_60 : decode cX12_sets 60 = .ok (.ishl, 1) := by decide +kernel
theorem dX12_sets_61 : decode cX12_sets 61 = .ok (.goto 4, 3) := by decide +kernel
theorem dX12_sets_64 : decode cX12_sets 64 = .ok (.iconst 0, 1) := by decide +kernel
theorem dX12_sets_65 : decode cX12_sets 65 = .ok (.ior, 1) := by decide +kernel
theorem dX12_sets_66 : decode cX12_sets 66 = .ok (.putfield 367, 3) := by decide +kernel
theorem dX12_sets_69 : decode cX12_sets 69 = .ok (.return_, 1) := by decide +kernel
theorem dX12_settles_0 : decode cX12_settles 0 = .ok (.aload_n 0, 1) := by decide +kernel
theorem dX12_settles_1 : decode cX12_settles 1 = .ok (.getfield 188, 3) := by decide +kernel
theorem dX12_settles_4 : decode cX12_settles 4 = .ok (.ifCond .le 72, 3) := by decide +kernel
theorem dX12_settles_7 : decode cX12_settles 7 = .ok (.aload_n 0, 1) := by decide +kernel
theorem dX12_settles_8 : decode cX12_settles 8 = .ok (.getfield 35, 3) := by decide +kernel
theorem dX12_settles_11 : decode cX12_settles 11 = .ok (.aload_n 0, 1) := by decide +kernel
theorem dX12_settles_12 : decode cX12_settles 12 = .ok (.getfield 188, 3) := by decide +kernel
theorem dX12_settles_15 : decode cX12_settles 15 = .ok (.iconst 1, 1) := by decide +kernel
theorem dX12_settles_16 : decode cX12_settles 16 = .ok (.isub, 1) := by decide +kernel
theorem dX12_settles_17 : decode cX12_settles 17 = .ok (.iaload, 1) := by decide +kernel
theorem dX12_settles_18 : decode cX12_settles 18 = .ok (.invokestatic 191, 3) := by decide +kernel
theorem dX12_settles_21 : decode cX12_settles 21 = .ok (.iload_n 1, 1) := by decide +kernel
theorem dX12_settles_22 : decode cX12_settles 22 = .ok (.if_icmp .lt 54, 3) := by decide +kernel
theorem dX12_settles_25 : decode cX12_settles 25 = .ok (.aload_n 0, 1) := by decide +kernel
theorem dX12_settles_26 : decode cX12_settles 26 = .ok (.dup, 1) := by decide +kernel
theorem dX12_settles_27 : decode cX12_settles 27 = .ok (.getfield 188, 3) := by decide +kernel
theorem dX12_settles_30 : decode cX12_settles 30 = .ok (.iconst 1, 1) := by decide +kernel
theorem dX12_settles_31 : decode cX12_settles 31 = .ok (.isub, 1) := by decide +kernel
theorem dX12_settles_32 : decode cX12_settles 32 = .ok (.putfield 188, 3) := by decide +kernel
theorem dX12_settles_35 : decode cX12_settles 35 = .ok (.aload_n 0, 1) := by decide +kernel
theorem dX12_settles_36 : decode cX12_settles 36 = .ok (.aload_n 0, 1) := by decide +kernel
theorem dX12_settles_37 : decode cX12_settles 37 = .ok (.getfield 35, 3) := by decide +kernel
theorem dX12_settles_40 : decode cX12_settles 40 = .ok (.aload_n 0, 1) := by decide +kernel
theorem dX12_settles_41 : decode cX12_settles 41 = .ok (.getfield 188, 3) := by decide +kernel
theorem dX12_settles_44 : decode cX12_settles 44 = .ok (.iaload, 1) := by decide +kernel
theorem dX12_settles_45 : decode cX12_settles 45 = .ok (.iconst 0, 1) := by decide +kernel
theorem dX12_settles_46 : decode cX12_settles 46 = .ok (.invokevirtual 195, 3) := by decide +kernel
theorem dX12_settles_49 : decode cX12_settles 49 = .ok (.aload_n 0, 1) := by decide +kernel
theorem dX12_settles_50 : decode cX12_settles 50 = .ok (.getfield 35, 3) := by decide +kernel
theorem dX12_settles_53 : decode cX12_settles 53 = .ok (.aload_n 0, 1) := by decide +kernel
theorem dX12_settles_54 : decode cX12_settles 54 = .ok (.getfield 188, 3) := by decide +kernel
theorem dX12_settles_57 : decode cX12_settles 57 = .ok (.iaload, 1) := by decide +kernel
theorem dX12_settles_58 : decode cX12_settles 58 = .ok (.bipush 11, 2) := by decide +kernel
theorem dX12_settles_60 : decode cX12_settles 60 = .ok (.if_icmp .ne (-60), 3) := by decide +kernel
theorem dX12_settles_63 : decode cX12_settles 63 = .ok (.aload_n 0, 1) := by decide +kernel
theorem dX12_settles_64 : decode cX12_settles 64 = .ok (.dup, 1) := by decide +kernel
theorem dX12_settles_65 : decode cX12_settles 65 = .ok (.getfield 185, 3) := by decide +kernel
theorem dX12_settles_68 : decode cX12_settles 68 = .ok (.iconst 1, 1) := by decide +kernel
theorem dX12_settles_69 : decode cX12_settles 69 = .ok (.isub, 1) := by decide +kernel
theorem dX12_settles_70 : decode cX12_settles 70 = .ok (.putfield 185, 3) := by decide +kernel
theorem dX12_settles_73 : decode cX12_settles 73 = .ok (.goto (-73), 3) := by decide +kernel
theorem dX12_settles_76 : decode cX12_settles 76 = .ok (.return_, 1) := by decide +kernel
theorem dX12_settles__0 : decode cX12_settles_ 0 = .ok (.aload_n 0, 1) := by decide +kernel
theorem dX12_settles__1 : decode cX12_settles_ 1 = .ok (.invokevirtual 383, 3) := by decide +kernel
theorem dX12_settles__4 : decode cX12_settles_ 4 = .ok (.istore_n 1, 1) := by decide +kernel
theorem dX12_settles__5 : decode cX12_settles_ 5 = .ok (.iconst 0, 1) := by decide +kernel
theorem dX12_settles__6 : decode cX12_settles_ 6 = .ok (.istore_n 2, 1) := by decide +kernel
theorem dX12_settles__7 : decode cX12_settles_ 7 = .ok (.iload_n 2, 1) := by decide +kernel
theorem dX12_settles__8 : decode cX12_settles_ 8 = .ok (.aload_n 0, 1) := by decide +kernel
theorem dX12_settles__9 : decode cX12_settles_ 9 = .ok (.getfield 45, 3) := by decide +kernel
theorem dX12_settles__12 : decode cX12_settles_ 12 = .ok (.iconst 0, 1) := by decide +kernel
theorem dX12_settles__13 : decode cX12_settles_ 13 = .ok (.iaload, 1) := by decide +kernel
theorem dX12_settles__14 : decode cX12_settles_ 14 = .ok (.if_icmp .ge 60, 3) := by decide +kernel
theorem dX12_settles__17 : decode cX12_settles_ 17 = .ok (.aload_n 0, 1) := by decide +kernel
theorem dX12_settles__18 : decode cX12_settles_ 18 = .ok (.getfield 364, 3) := by decide +kernel
theorem dX12_settles__21 : decode cX12_settles_ 21 = .ok (.iload_n 2, 1) := by decide +kernel
theorem dX12_settles__22 : decode cX12_settles_ 22 = .ok (.invokestatic 322, 3) := by decide +kernel
theorem dX12_settles__25 : decode cX12_settles_ 25 = .ok (.ifCond .eq 18, 3) := by decide +kernel
theorem dX12_settles__28 : decode cX12_settles_ 28 = .ok (.aload_n 0, 1) := by decide +kernel
theorem dX12_settles__29 : decode cX12_settles_ 29 = .ok (.iload_n 2, 1) := by decide +kernel
theorem dX12_settles__30 : decode cX12_settles_ 30 = .ok (.iload_n 1, 1) := by decide +kernel
theorem dX12_settles__31 : decode cX12_settles_ 31 = .ok (.iconst 1, 1) := by decide +kernel
theorem dX12_settles__32 : decode cX12_settles_ 32 = .ok (.if_icmp .ne 7, 3) := by decide +kernel
theorem dX12_settles__35 : decode cX12_settles_ 35 = .ok (.iconst 1, 1) := by decide +kernel
theorem dX12_settles__36 : decode cX12_settles_ 36 = .ok (.goto 4, 3) := by decide +kernel
theorem dX12_settles__39 : decode cX12_settles_ 39 = .ok (.iconst 0, 1) := by decide +kernel
theorem dX12_settles__40 : decode cX12_settles_ 40 = .ok (.invokevirtual 386, 3) := by decide +kernel
theorem dX12_settles__43 : decode cX12_settles_ 43 = .ok (.aload_n 0, 1) := by decide +kernel
theorem dX12_settles__44 : decode cX12_settles_ 44 = .ok (.getfield 367, 3) := by decide +kernel
theorem dX12_settles__47 : decode cX12_settles_ 47 = .ok (.iload_n 2, 1) := by decide +kernel
theorem dX12_settles__48 : decode cX12_settles_ 48 = .ok (.invokestatic 322, 3) := by decide +kernel
theorem dX12_settles__51 : decode cX12_settles_ 51 = .ok (.ifCond .eq 17, 3) := by decide +kernel
theorem dX12_settles__54 : decode cX12_settles_ 54 = .ok (.aload_n 0, 1) := by decide +kernel
theorem dX12_settles__55 : decode cX12_settles_ 55 = .ok (.iload_n 2, 1) := by decide +kernel
theorem dX12_settles__56 : decode cX12_settles_ 56 = .ok (.iload_n 1, 1) := by decide +kernel
theorem dX12_settles__57 : decode cX12_settles_ 57 = .ok (.ifCond .ne 7, 3) := by decide +kernel
theorem dX12_settles__60 : decode cX12_settles_ 60 = .ok (.iconst 1, 1) := by decide +kernel
theorem dX12_settles__61 : decode cX12_settles_ 61 = .ok (.goto 4, 3) := by decide +kernel
theorem dX12_settles__64 : decode cX12_settles_ 64 = .ok (.iconst 0, 1) := by decide +kernel
theorem dX12_settles__65 : decode cX12_settles_ 65 = .ok (.invokevirtual 386, 3) := by decide +kernel
theorem dX12_settles__68 : decode cX12_settles_ 68 = .ok (.iinc 2 1, 3) := by decide +kernel
theorem dX12_settles__71 : decode cX12_settles_ 71 = .ok (.goto (-64), 3) := by decide +kernel
theorem dX12_settles__74 : decode cX12_settles_ 74 = .ok (.aload_n 0, 1) := by decide +kernel
theorem dX12_settles__75 : decode cX12_settles_ 75 = .ok (.dup, 1) := by decide +kernel
theorem dX12_settles__76 : decode cX12_settles_ 76 = .ok (.getfield 348, 3) := by decide +kernel
theorem dX12_settles__79 : decode cX12_settles_ 79 = .ok (.iconst 1, 1) := by decide +kernel
theorem dX12_settles__80 : decode cX12_settles_ 80 = .ok (.iadd, 1) := by decide +kernel
theorem dX12_settles__81 : decode cX12_settles_ 81 = .ok (.putfield 348, 3) := by decide +kernel
theorem dX12_settles__84 : decode cX12_settles_ 84 = .ok (.iload_n 1, 1) := by decide +kernel
theorem dX12_settles__85 : decode cX12_settles_ 85 = .ok (.ireturn, 1) := by decide +kernel
theorem dX12_sides_0 : decode cX12_sides 0 = .ok (.aload_n 0, 1) := by decide +kernel
theorem dX12_sides_1 : decode cX12_sides 1 = .ok (.iload_n 1, 1) := by decide +kernel
theorem dX12_sides_2 : decode cX12_sides 2 = .ok (.invokevirtual 404, 3) := by decide +kernel
theorem dX12_sides_5 : decode cX12_sides 5 = .ok (.ifCond .eq 67, 3) := by decide +kernel
theorem dX12_sides_8 : decode cX12_sides 8 = .ok (.aload_n 0, 1) := by decide +kernel
theorem dX12_sides_9 : decode cX12_sides 9 = .ok (.iload_n 2, 1) := by decide +kernel
theorem dX12_sides_10 : decode cX12_sides 10 = .ok (.invokevirtual 404, 3) := by decide +kernel
theorem dX12_sides_13 : decode cX12_sides 13 = .ok (.ifCond .eq 59, 3) := by decide +kernel
theorem dX12_sides_16 : decode cX12_sides 16 = .ok (.iload_n 1, 1) := by decide +kernel
theorem dX12_sides_17 : decode cX12_sides 17 = .ok (.ifCond .eq 55, 3) := by decide +kernel
theorem dX12_sides_20 : decode cX12_sides 20 = .ok (.iload_n 2, 1) := by decide +kernel
theorem dX12_sides_21 : decode cX12_sides 21 = .ok (.ifCond .eq 51, 3) := by decide +kernel
theorem dX12_sides_24 : decode cX12_sides 24 = .ok (.iload_n 1, 1) := by decide +kernel
