theorem dX2_read_35 : decode cX2_read 35 = .ok (.iload 4, 2) := by decide +kernel
theorem dX2_read_37 : decode cX2_read 37 = .ok (.invokevirtual 29, 3) := by decide +kernel
theorem dX2_read_40 : decode cX2_read 40 = .ok (.aload_n 0, 1) := by decide +kernel
theorem dX2_read_41 : decode cX2_read 41 = .ok (.invokevirtual 33, 3) := by decide +kernel
theorem dX2_read_44 : decode cX2_read 44 = .ok (.istore_n 3, 1) := by decide +kernel
theorem dX2_read_45 : decode cX2_read 45 = .ok (.iinc 4 1, 3) := by decide +kernel
theorem dX2_read_48 : decode cX2_read 48 = .ok (.goto (-25), 3) := by decide +kernel
theorem dX2_read_51 : decode cX2_read 51 = .ok (.aload_n 0, 1) := by decide +kernel
theorem dX2_read_52 : decode cX2_read 52 = .ok (.getfield 12, 3) := by decide +kernel
theorem dX2_read_55 : decode cX2_read 55 = .ok (.iconst 1, 1) := by decide +kernel
theorem dX2_read_56 : decode cX2_read 56 = .ok (.aload_n 0, 1) := by decide +kernel
theorem dX2_read_57 : decode cX2_read 57 = .ok (.getfield 12, 3) := by decide +kernel
theorem dX2_read_60 : decode cX2_read 60 = .ok (.getfield 37, 3) := by decide +kernel
theorem dX2_read_63 : decode cX2_read 63 = .ok (.ishl, 1) := by decide +kernel
theorem dX2_read_64 : decode cX2_read 64 = .ok (.iconst 1, 1) := by decide +kernel
theorem dX2_read_65 : decode cX2_read 65 = .ok (.isub, 1) := by decide +kernel
theorem dX2_read_66 : decode cX2_read 66 = .ok (.putfield 41, 3) := by decide +kernel
theorem dX2_read_69 : decode cX2_read 69 = .ok (.aload_n 0, 1) := by decide +kernel
theorem dX2_read_70 : decode cX2_read 70 = .ok (.getfield 44, 3) := by decide +kernel
theorem dX2_read_73 : decode cX2_read 73 = .ok (.ireturn, 1) := by decide +kernel
theorem dX2_readBent_0 : decode cX2_readBent 0 = .ok (.aload_n 0, 1) := by decide +kernel
theorem dX2_readBent_1 : decode cX2_readBent 1 = .ok (.iconst 0, 1) := by decide +kernel
theorem dX2_readBent_2 : decode cX2_readBent 2 = .ok (.aload_n 0, 1) := by decide +kernel
theorem dX2_readBent_3 : decode cX2_readBent 3 = .ok (.getfield 12, 3) := by decide +kernel
theorem dX2_readBent_6 : decode cX2_readBent 6 = .ok (.getfield 37, 3) := by decide +kernel
theorem dX2_readBent_9 : decode cX2_readBent 9 = .ok (.iconst 1, 1) := by decide +kernel
theorem dX2_readBent_10 : decode cX2_readBent 10 = .ok (.isub, 1) := by decide +kernel
theorem dX2_readBent_11 : decode cX2_readBent 11 = .ok (.invokevirtual 77, 3) := by decide +kernel
theorem dX2_readBent_14 : decode cX2_readBent 14 = .ok (.istore_n 1, 1) := by decide +kernel
theorem dX2_readBent_15 : decode cX2_readBent 15 = .ok (.aload_n 0, 1) := by decide +kernel
theorem dX2_readBent_16 : decode cX2_readBent 16 = .ok (.getfield 44, 3) := by decide +kernel
theorem dX2_readBent_19 : decode cX2_readBent 19 = .ok (.ifCond .ne 31, 3) := by decide +kernel
theorem dX2_readBent_22 : decode cX2_readBent 22 = .ok (.aload_n 0, 1) := by decide +kernel
theorem dX2_readBent_23 : decode cX2_readBent 23 = .ok (.iconst 0, 1) := by decide +kernel
theorem dX2_readBent_24 : decode cX2_readBent 24 = .ok (.iconst 5, 1) := by decide +kernel
theorem dX2_readBent_25 : decode cX2_readBent 25 = .ok (.invokevirtual 77, 3) := by decide +kernel
theorem dX2_readBent_28 : decode cX2_readBent 28 = .ok (.istore_n 2, 1) := by decide +kernel
theorem dX2_readBent_29 : decode cX2_readBent 29 = .ok (.aload_n 0, 1) := by decide +kernel
theorem dX2_readBent_30 : decode cX2_readBent 30 = .ok (.getfield 12, 3) := by decide +kernel
theorem dX2_readBent_33 : decode cX2_readBent 33 = .ok (.iload_n 1, 1) := by decide +kernel
theorem dX2_readBent_34 : decode cX2_readBent 34 = .ok (.invokevirtual 102, 3) := by decide +kernel
theorem dX2_readBent_37 : decode cX2_readBent 37 = .ok (.ifCond .eq 13, 3) := by decide +kernel
theorem dX2_readBent_40 : decode cX2_readBent 40 = .ok (.aload_n 0, 1) := by decide +kernel
theorem dX2_readBent_41 : decode cX2_readBent 41 = .ok (.getfield 12, 3) := by decide +kernel
theorem dX2_readBent_44 : decode cX2_readBent 44 = .ok (.getfield 106, 3) := by decide +kernel
theorem dX2_readBent_47 : decode cX2_readBent 47 = .ok (.iload_n 1, 1) := by decide +kernel
theorem dX2_readBent_48 : decode cX2_readBent 48 = .ok (.iload_n 2, 1) := by decide +kernel
theorem dX2_readBent_49 : decode cX2_readBent 49 = .ok (.iastore, 1) := by decide +kernel
theorem dX2_readBent_50 : decode cX2_readBent 50 = .ok (.return_, 1) := by decide +kernel
theorem dX2_readClause_0 : decode cX2_readClause 0 = .ok (.aload_n 0, 1) := by decide +kernel
theorem dX2_readClause_1 : decode cX2_readClause 1 = .ok (.invokevirtual 47, 3) := by decide +kernel
theorem dX2_readClause_4 : decode cX2_readClause 4 = .ok (.pop, 1) := by decide +kernel
theorem dX2_readClause_5 : decode cX2_readClause 5 = .ok (.aload_n 0, 1) := by decide +kernel
theorem dX2_readClause_6 : decode cX2_readClause 6 = .ok (.ldc 51, 2) := by decide +kernel
theorem dX2_readClause_8 : decode cX2_readClause 8 = .ok (.invokevirtual 53, 3) := by decide +kernel
theorem dX2_readClause_11 : decode cX2_readClause 11 = .ok (.istore_n 2, 1) := by decide +kernel
theorem dX2_readClause_12 : decode cX2_readClause 12 = .ok (.iload_n 2, 1) := by decide +kernel
theorem dX2_readClause_13 : decode cX2_readClause 13 = .ok (.iconst (-1), 1) := by decide +kernel
theorem dX2_readClause_14 : decode cX2_readClause 14 = .ok (.if_icmp .ne 15, 3) := by decide +kernel
theorem dX2_readClause_17 : decode cX2_readClause 17 = .ok (.aload_n 0, 1) := by decide +kernel
theorem dX2_readClause_18 : decode cX2_readClause 18 = .ok (.aload_n 0, 1) := by decide +kernel
theorem dX2_readClause_19 : decode cX2_readClause 19 = .ok (.getfield 57, 3) := by decide +kernel
theorem dX2_readClause_22 : decode cX2_readClause 22 = .ok (.iconst 0, 1) := by decide +kernel
theorem dX2_readClause_23 : decode cX2_readClause 23 = .ok (.invokevirtual 60, 3) := by decide +kernel
theorem dX2_readClause_26 : decode cX2_readClause 26 = .ok (.goto 47, 3) := by decide +kernel
theorem dX2_readClause_29 : decode cX2_readClause 29 = .ok (.iload_n 1, 1) := by decide +kernel
theorem dX2_readClause_30 : decode cX2_readClause 30 = .ok (.bipush 16, 2) := by decide +kernel
theorem dX2_readClause_32 : decode cX2_readClause 32 = .ok (.if_icmp .ge 20, 3) := by decide +kernel
theorem dX2_readClause_35 : decode cX2_readClause 35 = .ok (.aload_n 0, 1) := by decide +kernel
theorem dX2_readClause_36 : decode cX2_readClause 36 = .ok (.iload_n 2, 1) := by decide +kernel
theorem dX2_readClause_37 : decode cX2_readClause 37 = .ok (.iload_n 1, 1) := by decide +kernel
theorem dX2_readClause_38 : decode cX2_readClause 38 = .ok (.ifCond .ne 7, 3) := by decide +kernel
theorem dX2_readClause_41 : decode cX2_readClause 41 = .ok (.iconst 1, 1) := by decide +kernel
theorem dX2_readClause_42 : decode cX2_readClause 42 = .ok (.goto 4, 3) := by decide +kernel
theorem dX2_readClause_45 : decode cX2_readClause 45 = .ok (.iconst 0, 1) := by decide +kernel
theorem dX2_readClause_46 : decode cX2_readClause 46 = .ok (.invokevirtual 64, 3) := by decide +kernel
theorem dX2_readClause_49 : decode cX2_readClause 49 = .ok (.ifCond .ne 15, 3) := by decide +kernel
theorem dX2_readClause_52 : decode cX2_readClause 52 = .ok (.aload_n 0, 1) := by decide +kernel
theorem dX2_readClause_53 : decode cX2_readClause 53 = .ok (.aload_n 0, 1) := by decide +kernel
theorem dX2_readClause_54 : decode cX2_readClause 54 = .ok (.getfield 57, 3) := by decide +kernel
theorem dX2_readClause_57 : decode cX2_readClause 57 = .ok (.iconst 4, 1) := by decide +kernel
theorem dX2_readClause_58 : decode cX2_readClause 58 = .ok (.invokevirtual 60, 3) := by decide +kernel
theorem dX2_readClause_61 : decode cX2_readClause 61 = .ok (.goto 12, 3) := by decide +kernel
theorem dX2_readClause_64 : decode cX2_readClause 64 = .ok (.aload_n 0, 1) := by decide +kernel
theorem dX2_readClause_65 : decode cX2_readClause 65 = .ok (.invokevirtual 68, 3) := by decide +kernel
theorem dX2_readClause_68 : decode cX2_readClause 68 = .ok (.aload_n 0, 1) := by decide +kernel
theorem dX2_readClause_69 : decode cX2_readClause 69 = .ok (.iload_n 2, 1) := by decide +kernel
theorem dX2_readClause_70 : decode cX2_readClause 70 = .ok (.invokevirtual 71, 3) := by decide +kernel
theorem dX2_readClause_73 : decode cX2_readClause 73 = .ok (.return_, 1) := by decide +kernel
theorem dX2_readPoint_0 : decode cX2_readPoint 0 = .ok (.aload_n 0, 1) := by decide +kernel
theorem dX2_readPoint_1 : decode cX2_readPoint 1 = .ok (.getfield 12, 3) := by decide +kernel
theorem dX2_readPoint_4 : decode cX2_readPoint 4 = .ok (.getfield 74, 3) := by decide +kernel
theorem dX2_readPoint_7 : decode cX2_readPoint 7 = .ok (.bipush 10, 2) := by decide +kernel
theorem dX2_readPoint_9 : decode cX2_readPoint 9 = .ok (.imul, 1) := by decide +kernel
theorem dX2_readPoint_10 : decode cX2_readPoint 10 = .ok (.istore_n 1, 1) := by decide +kernel
theorem dX2_readPoint_11 : decode cX2_readPoint 11 = .ok (.iconst 0, 1) := by decide +kernel
theorem dX2_readPoint_12 : decode cX2_readPoint 12 = .ok (.istore_n 2, 1) := by decide +kernel
theorem dX2_readPoint_13 : decode cX2_readPoint 13 = .ok (.iload_n 2, 1) := by decide +kernel
theorem dX2_readPoint_14 : decode cX2_readPoint 14 = .ok (.aload_n 0, 1) := by decide +kernel
theorem dX2_readPoint_15 : decode cX2_readPoint 15 = .ok (.getfield 12, 3) := by decide +kernel
theorem dX2_readPoint_18 : decode cX2_readPoint 18 = .ok (.getfield 37, 3) := by decide +kernel
theorem dX2_readPoint_21 : decode cX2_readPoint 21 = .ok (.if_icmp .ge 77, 3) := by decide +kernel
theorem dX2_readPoint_24 : decode cX2_readPoint 24 = .ok (.aload_n 0, 1) := by decide +kernel
theorem dX2_readPoint_25 : decode cX2_readPoint 25 = .ok (.getfield 44, 3) := by decide +kernel
theorem dX2_readPoint_28 : decode cX2_readPoint 28 = .ok (.ifCond .ne 70, 3) := by decide +kernel
theorem dX2_readPoint_31 : decode cX2_readPoint 31 = .ok (.aload_n 0, 1) := by decide +kernel
theorem dX2_readPoint_32 : decode cX2_readPoint 32 = .ok (.invokevirtual 47, 3) := by decide +kernel
theorem dX2_readPoint_35 : decode cX2_readPoint 35 = .ok (.istore_n 3, 1) := by decide +kernel
theorem dX2_readPoint_36 : decode cX2_readPoint 36 = .ok (.iload_n 3, 1) := by decide +kernel
theorem dX2_readPoint_37 : decode cX2_readPoint 37 = .ok (.bipush 43, 2) := by decide +kernel
theorem dX2_readPoint_39 : decode cX2_readPoint 39 = .ok (.if_icmp .eq 9, 3) := by decide +kernel
theorem dX2_readPoint_42 : decode cX2_readPoint 42 = .ok (.iload_n 3, 1) := by decide +kernel
theorem dX2_readPoint_43 : decode cX2_readPoint 43 = .ok (.bipush 45, 2) := by decide +kernel
theorem dX2_readPoint_45 : decode cX2_readPoint 45 = .ok (.if_icmp .ne 13, 3) := by decide +kernel
theorem dX2_readPoint_48 : decode cX2_readPoint 48 = .ok (.aload_n 0, 1) := by decide +kernel
theorem dX2_readPoint_49 : decode cX2_readPoint 49 = .ok (.dup, 1) := by decide +kernel
theorem dX2_readPoint_50 : decode cX2_readPoint 50 = .ok (.getfield 57, 3) := by decide +kernel
theorem dX2_readPoint_53 : decode cX2_readPoint 53 = .ok (.iconst 1, 1) := by decide +kernel
theorem dX2_readPoint_54 : decode cX2_readPoint 54 = .ok (.iadd, 1) := by decide +kernel
theorem dX2_readPoint_55 : decode cX2_readPoint 55 = .ok (.putfield 57, 3) := by decide +kernel
theorem dX2_readPoint_58 : decode cX2_readPoint 58 = .ok (.aload_n 0, 1) := by decide +kernel
theorem dX2_readPoint_59 : decode cX2_readPoint 59 = .ok (.iconst 0, 1) := by decide +kernel
theorem dX2_readPoint_60 : decode cX2_readPoint 60 = .ok (.bipush 99, 2) := by decide +kernel
theorem dX2_readPoint_62 : decode cX2_readPoint 62 = .ok (.invokevirtual 96, 3) := by decide +kernel
theorem dX2_readPoint_65 : decode cX2_readPoint 65 = .ok (.istore 4, 2) := by decide +kernel
theorem dX2_readPoint_67 : decode cX2_readPoint 67 = .ok (.aload_n 0, 1) := by decide +kernel
theorem dX2_readPoint_68 : decode cX2_readPoint 68 = .ok (.getfield 12, 3) := by decide +kernel
theorem dX2_readPoint_71 : decode cX2_readPoint 71 = .ok (.getfield 99, 3) := by decide +kernel
theorem dX2_readPoint_74 : decode cX2_readPoint 74 = .ok (.iload_n 1, 1) := by decide +kernel
theorem dX2_readPoint_75 : decode cX2_readPoint 75 = .ok (.iload_n 2, 1) := by decide +kernel
theorem dX2_readPoint_76 : decode cX2_readPoint 76 = .ok (.iadd, 1) := by decide +kernel
theorem dX2_readPoint_77 : decode cX2_readPoint 77 = .ok (.iload_n 3, 1) := by decide +kernel
theorem dX2_readPoint_78 : decode cX2_readPoint 78 = .ok (.bipush 45, 2) := by decide +kernel
theorem dX2_readPoint_80 : decode cX2_readPoint 80 = .ok (.if_icmp .ne 9, 3) := by decide +kernel
theorem dX2_readPoint_83 : decode cX2_readPoint 83 = .ok (.iload 4, 2) := by decide +kernel
theorem dX2_readPoint_85 : decode cX2_readPoint 85 = .ok (.ineg, 1) := by decide +kernel
theorem dX2_readPoint_86 : decode cX2_readPoint 86 = .ok (.goto 5, 3) := by decide +kernel
theorem dX2_readPoint_89 : decode cX2_readPoint 89 = .ok (.iload 4, 2) := by decide +kernel
theorem dX2_readPoint_91 : decode cX2_readPoint 91 = .ok (.iastore, 1) := by decide +kernel
theorem dX2_readPoint_92 : decode cX2_readPoint 92 = .ok (.iinc 2 1, 3) := by decide +kernel
theorem dX2_readPoint_95 : decode cX2_readPoint 95 = .ok (.goto (-82), 3) := by decide +kernel
theorem dX2_readPoint_98 : decode cX2_readPoint 98 = .ok (.aload_n 0, 1) := by decide +kernel
theorem dX2_readPoint_99 : decode cX2_readPoint 99 = .ok (.getfield 12, 3) := by decide +kernel
theorem dX2_readPoint_102 : decode cX2_readPoint 102 = .ok (.dup, 1) := by decide +kernel
theorem dX2_readPoint_103 : decode cX2_readPoint 103 = .ok (.getfield 74, 3) := by decide +kernel
theorem dX2_readPoint_106 : decode cX2_readPoint 106 = .ok (.iconst 1, 1) := by decide +kernel
theorem dX2_readPoint_107 : decode cX2_readPoint 107 = .ok (.iadd, 1) := by decide +kernel
theorem dX2_readPoint_108 : decode cX2_readPoint 108 = .ok (.putfield 74, 3) := by decide +kernel
theorem dX2_readPoint_111 : decode cX2_readPoint 111 = .ok (.return_, 1) := by decide +kernel
theorem dX2_readRest_0 : decode cX2_readRest 0 = .ok (.iload_n 1, 1) := by decide +kernel
theorem dX2_readRest_1 : decode cX2_readRest 1 = .ok (.tableswitch 107 0 2 #[27, 49, 56], 27) := by decide +kernel
theorem dX2_readRest_28 : decode cX2_readRest 28 = .ok (.aload_n 0, 1) := by decide +kernel
theorem dX2_readRest_29 : decode cX2_readRest 29 = .ok (.getfield 12, 3) := by decide +kernel
theorem dX2_readRest_32 : decode cX2_readRest 32 = .ok (.aload_n 0, 1) := by decide +kernel
theorem dX2_readRest_33 : decode cX2_readRest 33 = .ok (.iconst 1, 1) := by decide +kernel
theorem dX2_readRest_34 : decode cX2_readRest 34 = .ok (.bipush 10, 2) := by decide +kernel
theorem dX2_readRest_36 : decode cX2_readRest 36 = .ok (.invokevirtual 77, 3) := by decide +kernel
theorem dX2_readRest_39 : decode cX2_readRest 39 = .ok (.bipush 10, 2) := by decide +kernel
theorem dX2_readRest_41 : decode cX2_readRest 41 = .ok (.invokestatic 81, 3) := by decide +kernel
theorem dX2_readRest_44 : decode cX2_readRest 44 = .ok (.putfield 37, 3) := by decide +kernel
theorem dX2_readRest_47 : decode cX2_readRest 47 = .ok (.goto 65, 3) := by decide +kernel
theorem dX2_readRest_50 : decode cX2_readRest 50 = .ok (.aload_n 0, 1) := by decide +kernel
theorem dX2_readRest_51 : decode cX2_readRest 51 = .ok (.invokevirtual 86, 3) := by decide +kernel
theorem dX2_readRest_54 : decode cX2_readRest 54 = .ok (.goto 58, 3) := by decide +kernel
theorem dX2_readRest_57 : decode cX2_readRest 57 = .ok (.iconst 0, 1) := by decide +kernel
theorem dX2_readRest_58 : decode cX2_readRest 58 = .ok (.istore_n 2, 1) := by decide +kernel
theorem dX2_readRest_59 : decode cX2_readRest 59 = .ok (.iload_n 2, 1) := by decide +kernel
theorem dX2_readRest_60 : decode cX2_readRest 60 = .ok (.aload_n 0, 1) := by decide +kernel
theorem dX2_readRest_61 : decode cX2_readRest 61 = .ok (.getfield 12, 3) := by decide +kernel
theorem dX2_readRest_64 : decode cX2_readRest 64 = .ok (.getfield 37, 3) := by decide +kernel
theorem dX2_readRest_67 : decode cX2_readRest 67 = .ok (.if_icmp .ge 33, 3) := by decide +kernel
theorem dX2_readRest_70 : decode cX2_readRest 70 = .ok (.aload_n 0, 1) := by decide +kernel
theorem dX2_readRest_71 : decode cX2_readRest 71 = .ok (.getfield 44, 3) := by decide +kernel
theorem dX2_readRest_74 : decode cX2_readRest 74 = .ok (.ifCond .ne 26, 3) := by decide +kernel
theorem dX2_readRest_77 : decode cX2_readRest 77 = .ok (.aload_n 0, 1) := by decide +kernel
theorem dX2_readRest_78 : decode cX2_readRest 78 = .ok (.getfield 12, 3) := by decide +kernel
theorem dX2_readRest_81 : decode cX2_readRest 81 = .ok (.getfield 89, 3) := by decide +kernel
theorem dX2_readRest_84 : decode cX2_readRest 84 = .ok (.iload_n 2, 1) := by decide +kernel
theorem dX2_readRest_85 : decode cX2_readRest 85 = .ok (.aload_n 0, 1) := by decide +kernel
theorem dX2_readRest_86 : decode cX2_readRest 86 = .ok (.iconst 1, 1) := by decide +kernel
theorem dX2_readRest_87 : decode cX2_readRest 87 = .ok (.sipush 999, 3) := by decide +kernel
theorem dX2_readRest_90 : decode cX2_readRest 90 = .ok (.invokevirtual 77, 3) := by decide +kernel
theorem dX2_readRest_93 : decode cX2_readRest 93 = .ok (.iastore, 1) := by decide +kernel
theorem dX2_readRest_94 : decode cX2_readRest 94 = .ok (.iinc 2 1, 3) := by decide +kernel
theorem dX2_readRest_97 : decode cX2_readRest 97 = .ok (.goto (-38), 3) := by decide +kernel
theorem dX2_readRest_100 : decode cX2_readRest 100 = .ok (.aload_n 0, 1) := by decide +kernel
theorem dX2_readRest_101 : decode cX2_readRest 101 = .ok (.iconst 1, 1) := by decide +kernel
theorem dX2_readRest_102 : decode cX2_readRest 102 = .ok (.putfield 25, 3) := by decide +kernel
theorem dX2_readRest_105 : decode cX2_readRest 105 = .ok (.goto 7, 3) := by decide +kernel
theorem dX2_readRest_108 : decode cX2_readRest 108 = .ok (.aload_n 0, 1) := by decide +kernel
theorem dX2_readRest_109 : decode cX2_readRest 109 = .ok (.invokevirtual 93, 3) := by decide +kernel
theorem dX2_readRest_112 : decode cX2_readRest 112 = .ok (.return_, 1) := by decide +kernel
theorem dX3_evenOut_0 : decode cX3_evenOut 0 = .ok (.iconst 0, 1) := by decide +kernel
theorem dX3_evenOut_1 : decode cX3_evenOut 1 = .ok (.istore_n 1, 1) := by decide +kernel
theorem dX3_evenOut_2 : decode cX3_evenOut 2 = .ok (.iload_n 1, 1) := by decide +kernel
theorem dX3_evenOut_3 : decode cX3_evenOut 3 = .ok (.bipush 10, 2) := by decide +kernel
theorem dX3_evenOut_5 : decode cX3_evenOut 5 = .ok (.if_icmp .ge 16, 3) := by decide +kernel
theorem dX3_evenOut_8 : decode cX3_evenOut 8 = .ok (.aload_n 0, 1) := by decide +kernel
theorem dX3_evenOut_9 : decode cX3_evenOut 9 = .ok (.getfield 9, 3) := by decide +kernel
theorem dX3_evenOut_12 : decode cX3_evenOut 12 = .ok (.iload_n 1, 1) := by decide +kernel
theorem dX3_evenOut_13 : decode cX3_evenOut 13 = .ok (.iconst 1, 1) := by decide +kernel
theorem dX3_evenOut_14 : decode cX3_evenOut 14 = .ok (.iastore, 1) := by decide +kernel
theorem dX3_evenOut_15 : decode cX3_evenOut 15 = .ok (.iinc 1 1, 3) := by decide +kernel
theorem dX3_evenOut_18 : decode cX3_evenOut 18 = .ok (.goto (-16), 3) := by decide +kernel
theorem dX3_evenOut_21 : decode cX3_evenOut 21 = .ok (.return_, 1) := by decide +kernel
theorem dX3_init_0 : decode cX3_init 0 = .ok (.aload_n 0, 1) := by decide +kernel
theorem dX3_init_1 : decode cX3_init 1 = .ok (.invokespecial 3, 3) := by decide +kernel
theorem dX3_init_4 : decode cX3_init 4 = .ok (.aload_n 0, 1) := by decide +kernel
theorem dX3_init_5 : decode cX3_init 5 = .ok (.bipush 10, 2) := by decide +kernel
theorem dX3_init_7 : decode cX3_init 7 = .ok (.newarray .int, 2) := by decide +kernel
theorem dX3_init_9 : decode cX3_init 9 = .ok (.putfield 9, 3) := by decide +kernel
theorem dX3_init_12 : decode cX3_init 12 = .ok (.aload_n 0, 1) := by decide +kernel
theorem dX3_init_13 : decode cX3_init 13 = .ok (.sipush 3010, 3) := by decide +kernel
theorem dX3_init_16 : decode cX3_init 16 = .ok (.newarray .int, 2) := by decide +kernel
theorem dX3_init_18 : decode cX3_init 18 = .ok (.putfield 15, 3) := by decide +kernel
theorem dX3_init_21 : decode cX3_init 21 = .ok (.aload_n 0, 1) := by decide +kernel
theorem dX3_init_22 : decode cX3_init 22 = .ok (.bipush 10, 2) := by decide +kernel
theorem dX3_init_24 : decode cX3_init 24 = .ok (.newarray .int, 2) := by decide +kernel
theorem dX3_init_26 : decode cX3_init 26 = .ok (.putfield 18, 3) := by decide +kernel
theorem dX3_init_29 : decode cX3_init 29 = .ok (.aload_n 0, 1) := by decide +kernel
theorem dX3_init_30 : decode cX3_init 30 = .ok (.aload_n 1, 1) := by decide +kernel
theorem dX3_init_31 : decode cX3_init 31 = .ok (.putfield 21, 3) := by decide +kernel
theorem dX3_init_34 : decode cX3_init 34 = .ok (.aload_n 0, 1) := by decide +kernel
theorem dX3_init_35 : decode cX3_init 35 = .ok (.aload_n 2, 1) := by decide +kernel
theorem dX3_init_36 : decode cX3_init 36 = .ok (.putfield 25, 3) := by decide +kernel
theorem dX3_init_39 : decode cX3_init 39 = .ok (.return_, 1) := by decide +kernel
theorem dX3_keep_0 : decode cX3_keep 0 = .ok (.aload_n 0, 1) := by decide +kernel
theorem dX3_keep_1 : decode cX3_keep 1 = .ok (.getfield 9, 3) := by decide +kernel
theorem dX3_keep_4 : decode cX3_keep 4 = .ok (.iconst 0, 1) := by decide +kernel
theorem dX3_keep_5 : decode cX3_keep 5 = .ok (.aload_n 0, 1) := by decide +kernel
theorem dX3_keep_6 : decode cX3_keep 6 = .ok (.getfield 15, 3) := by decide +kernel
theorem dX3_keep_9 : decode cX3_keep 9 = .ok (.iload_n 1, 1) := by decide +kernel
theorem dX3_keep_10 : decode cX3_keep 10 = .ok (.bipush 10, 2) := by decide +kernel
theorem dX3_keep_12 : decode cX3_keep 12 = .ok (.imul, 1) := by decide +kernel
theorem dX3_keep_13 : decode cX3_keep 13 = .ok (.bipush 10, 2) := by decide +kernel
theorem dX3_keep_15 : decode cX3_keep 15 = .ok (.invokestatic 32, 3) := by decide +kernel
theorem dX3_keep_18 : decode cX3_keep 18 = .ok (.return_, 1) := by decide +kernel
theorem dX3_mark_0 : decode cX3_mark 0 = .ok (.iload_n 1, 1) := by decide +kernel
theorem dX3_mark_1 : decode cX3_mark 1 = .ok (.iconst 1, 1) := by decide +kernel
theorem dX3_mark_2 : decode cX3_mark 2 = .ok (.if_icmp .ne 31, 3) := by decide +kernel
theorem dX3_mark_5 : decode cX3_mark 5 = .ok (.aload_n 0, 1) := by decide +kernel
theorem dX3_mark_6 : decode cX3_mark 6 = .ok (.dup, 1) := by decide +kernel
theorem dX3_mark_7 : decode cX3_mark 7 = .ok (.getfield 42, 3) := by decide +kernel
theorem dX3_mark_10 : decode cX3_mark 10 = .ok (.iconst 1, 1) := by decide +kernel
theorem dX3_mark_11 : decode cX3_mark 11 = .ok (.iadd, 1) := by decide +kernel
theorem dX3_mark_12 : decode cX3_mark 12 = .ok (.putfield 42, 3) := by decide +kernel
theorem dX3_mark_15 : decode cX3_mark 15 = .ok (.aload_n 0, 1) := by decide +kernel
theorem dX3_mark_16 : decode cX3_mark 16 = .ok (.dup, 1) := by decide +kernel
theorem dX3_mark_17 : decode cX3_mark 17 = .ok (.getfield 38, 3) := by decide +kernel
theorem dX3_mark_20 : decode cX3_mark 20 = .ok (.aload_n 0, 1) := by decide +kernel
theorem dX3_mark_21 : decode cX3_mark 21 = .ok (.getfield 21, 3) := by decide +kernel
theorem dX3_mark_24 : decode cX3_mark 24 = .ok (.iload_n 2, 1) := by decide +kernel
theorem dX3_mark_25 : decode cX3_mark 25 = .ok (.iload_n 3, 1) := by decide +kernel
theorem dX3_mark_26 : decode cX3_mark 26 = .ok (.invokevirtual 90, 3) := by decide +kernel
theorem dX3_mark_29 : decode cX3_mark 29 = .ok (.iadd, 1) := by decide +kernel
theorem dX3_mark_30 : decode cX3_mark 30 = .ok (.putfield 38, 3) := by decide +kernel
theorem dX3_mark_33 : decode cX3_mark 33 = .ok (.return_, 1) := by decide +kernel
theorem dX3_runDays_0 : decode cX3_runDays 0 = .ok (.aload_n 0, 1) := by decide +kernel
theorem dX3_runDays_1 : decode cX3_runDays 1 = .ok (.invokevirtual 48, 3) := by decide +kernel
theorem dX3_runDays_4 : decode cX3_runDays 4 = .ok (.iload_n 1, 1) := by decide +kernel
theorem dX3_runDays_5 : decode cX3_runDays 5 = .ok (.aload_n 0, 1) := by decide +kernel
theorem dX3_runDays_6 : decode cX3_runDays 6 = .ok (.getfield 21, 3) := by decide +kernel
theorem dX3_runDays_9 : decode cX3_runDays 9 = .ok (.getfield 51, 3) := by decide +kernel
theorem dX3_runDays_12 : decode cX3_runDays 12 = .ok (.imul, 1) := by decide +kernel
theorem dX3_runDays_13 : decode cX3_runDays 13 = .ok (.istore 4, 2) := by decide +kernel
theorem dX3_runDays_15 : decode cX3_runDays 15 = .ok (.iconst 0, 1) := by decide +kernel
theorem dX3_runDays_16 : decode cX3_runDays 16 = .ok (.istore 5, 2) := by decide +kernel
theorem dX3_runDays_18 : decode cX3_runDays 18 = .ok (.iload 5, 2) := by decide +kernel
theorem dX3_runDays_20 : decode cX3_runDays 20 = .ok (.iload 4, 2) := by decide +kernel
theorem dX3_runDays_22 : decode cX3_runDays 22 = .ok (.if_icmp .ge 130, 3) := by decide +kernel
theorem dX3_runDays_25 : decode cX3_runDays 25 = .ok (.aload_n 0, 1) := by decide +kernel
theorem dX3_runDays_26 : decode cX3_runDays 26 = .ok (.getfield 21, 3) := by decide +kernel
theorem dX3_runDays_29 : decode cX3_runDays 29 = .ok (.getfield 51, 3) := by decide +kernel
theorem dX3_runDays_32 : decode cX3_runDays 32 = .ok (.ifCond .le 120, 3) := by decide +kernel
theorem dX3_runDays_35 : decode cX3_runDays 35 = .ok (.iload_n 3, 1) := by decide +kernel
theorem dX3_runDays_36 : decode cX3_runDays 36 = .ok (.ifCond .eq 7, 3) := by decide +kernel
theorem dX3_runDays_39 : decode cX3_runDays 39 = .ok (.aload_n 0, 1) := by decide +kernel
theorem dX3_runDays_40 : decode cX3_runDays 40 = .ok (.invokevirtual 54, 3) := by decide +kernel
theorem dX3_runDays_43 : decode cX3_runDays 43 = .ok (.iload 5, 2) := by decide +kernel
theorem dX3_runDays_45 : decode cX3_runDays 45 = .ok (.aload_n 0, 1) := by decide +kernel
theorem dX3_runDays_46 : decode cX3_runDays 46 = .ok (.getfield 21, 3) := by decide +kernel
theorem dX3_runDays_49 : decode cX3_runDays 49 = .ok (.getfield 51, 3) := by decide +kernel
theorem dX3_runDays_52 : decode cX3_runDays 52 = .ok (.irem, 1) := by decide +kernel
theorem dX3_runDays_53 : decode cX3_runDays 53 = .ok (.istore 6, 2) := by decide +kernel
theorem dX3_runDays_55 : decode cX3_runDays 55 = .ok (.aload_n 0, 1) := by decide +kernel
theorem dX3_runDays_56 : decode cX3_runDays 56 = .ok (.getfield 25, 3) := by decide +kernel
theorem dX3_runDays_59 : decode cX3_runDays 59 = .ok (.aload_n 0, 1) := by decide +kernel
theorem dX3_runDays_60 : decode cX3_runDays 60 = .ok (.getfield 21, 3) := by decide +kernel
theorem dX3_runDays_63 : decode cX3_runDays 63 = .ok (.getfield 57, 3) := by decide +kernel
theorem dX3_runDays_66 : decode cX3_runDays 66 = .ok (.iload 6, 2) := by decide +kernel
theorem dX3_runDays_68 : decode cX3_runDays 68 = .ok (.aload_n 0, 1) := by decide +kernel
theorem dX3_runDays_69 : decode cX3_runDays 69 = .ok (.getfield 21, 3) := by decide +kernel
theorem dX3_runDays_72 : decode cX3_runDays 72 = .ok (.getfield 51, 3) := by decide +kernel
theorem dX3_runDays_75 : decode cX3_runDays 75 = .ok (.aload_n 0, 1) := by decide +kernel
theorem dX3_runDays_76 : decode cX3_runDays 76 = .ok (.getfield 9, 3) := by decide +kernel
theorem dX3_runDays_79 : decode cX3_runDays 79 = .ok (.aload_n 0, 1) := by decide +kernel
theorem dX3_runDays_80 : decode cX3_runDays 80 = .ok (.getfield 21, 3) := by decide +kernel
theorem dX3_runDays_83 : decode cX3_runDays 83 = .ok (.getfield 60, 3) := by decide +kernel
theorem dX3_runDays_86 : decode cX3_runDays 86 = .ok (.iload 5, 2) := by decide +kernel
theorem dX3_runDays_88 : decode cX3_runDays 88 = .ok (.iadd, 1) := by decide +kernel
theorem dX3_runDays_89 : decode cX3_runDays 89 = .ok (.invokevirtual 63, 3) := by decide +kernel
theorem dX3_runDays_92 : decode cX3_runDays 92 = .ok (.aload_n 0, 1) := by decide +kernel
theorem dX3_runDays_93 : decode cX3_runDays 93 = .ok (.getfield 25, 3) := by decide +kernel
theorem dX3_runDays_96 : decode cX3_runDays 96 = .ok (.aload_n 0, 1) := by decide +kernel
theorem dX3_runDays_97 : decode cX3_runDays 97 = .ok (.getfield 21, 3) := by decide +kernel
theorem dX3_runDays_100 : decode cX3_runDays 100 = .ok (.getfield 69, 3) := by decide +kernel
theorem dX3_runDays_103 : decode cX3_runDays 103 = .ok (.invokevirtual 72, 3) := by decide +kernel
theorem dX3_runDays_106 : decode cX3_runDays 106 = .ok (.aload_n 0, 1) := by decide +kernel
theorem dX3_runDays_107 : decode cX3_runDays 107 = .ok (.aload_n 0, 1) := by decide +kernel
theorem dX3_runDays_108 : decode cX3_runDays 108 = .ok (.getfield 25, 3) := by decide +kernel
theorem dX3_runDays_111 : decode cX3_runDays 111 = .ok (.aload_n 0, 1) := by decide +kernel
theorem dX3_runDays_112 : decode cX3_runDays 112 = .ok (.getfield 9, 3) := by decide +kernel
theorem dX3_runDays_115 : decode cX3_runDays 115 = .ok (.aload_n 0, 1) := by decide +kernel
theorem dX3_runDays_116 : decode cX3_runDays 116 = .ok (.getfield 25, 3) := by decide +kernel
theorem dX3_runDays_119 : decode cX3_runDays 119 = .ok (.getfield 76, 3) := by decide +kernel
theorem dX3_runDays_122 : decode cX3_runDays 122 = .ok (.aload_n 0, 1) := by decide +kernel
theorem dX3_runDays_123 : decode cX3_runDays 123 = .ok (.getfield 25, 3) := by decide +kernel
theorem dX3_runDays_126 : decode cX3_runDays 126 = .ok (.getfield 79, 3) := by decide +kernel
theorem dX3_runDays_129 : decode cX3_runDays 129 = .ok (.invokevirtual 82, 3) := by decide +kernel
theorem dX3_runDays_132 : decode cX3_runDays 132 = .ok (.iload_n 2, 1) := by decide +kernel
theorem dX3_runDays_133 : decode cX3_runDays 133 = .ok (.aload_n 0, 1) := by decide +kernel
theorem dX3_runDays_134 : decode cX3_runDays 134 = .ok (.getfield 21, 3) := by decide +kernel
theorem dX3_runDays_137 : decode cX3_runDays 137 = .ok (.getfield 57, 3) := by decide +kernel
theorem dX3_runDays_140 : decode cX3_runDays 140 = .ok (.iload 6, 2) := by decide +kernel
theorem dX3_runDays_142 : decode cX3_runDays 142 = .ok (.iaload, 1) := by decide +kernel
theorem dX3_runDays_143 : decode cX3_runDays 143 = .ok (.invokevirtual 86, 3) := by decide +kernel
theorem dX3_runDays_146 : decode cX3_runDays 146 = .ok (.iinc 5 1, 3) := by decide +kernel
theorem dX3_runDays_149 : decode cX3_runDays 149 = .ok (.goto (-131), 3) := by decide +kernel
theorem dX3_runDays_152 : decode cX3_runDays 152 = .ok (.return_, 1) := by decide +kernel
theorem dX3_runRoundAgain_0 : decode cX3_runRoundAgain 0 = .ok (.aload_n 0, 1) := by decide +kernel
theorem dX3_runRoundAgain_1 : decode cX3_runRoundAgain 1 = .ok (.iconst 0, 1) := by decide +kernel
theorem dX3_runRoundAgain_2 : decode cX3_runRoundAgain 2 = .ok (.putfield 42, 3) := by decide +kernel
theorem dX3_runRoundAgain_5 : decode cX3_runRoundAgain 5 = .ok (.iconst 0, 1) := by decide +kernel
theorem dX3_runRoundAgain_6 : decode cX3_runRoundAgain 6 = .ok (.istore_n 1, 1) := by decide +kernel
theorem dX3_runRoundAgain_7 : decode cX3_runRoundAgain 7 = .ok (.iload_n 1, 1) := by decide +kernel
theorem dX3_runRoundAgain_8 : decode cX3_runRoundAgain 8 = .ok (.bipush 10, 2) := by decide +kernel
theorem dX3_runRoundAgain_10 : decode cX3_runRoundAgain 10 = .ok (.if_icmp .ge 16, 3) := by decide +kernel
theorem dX3_runRoundAgain_13 : decode cX3_runRoundAgain 13 = .ok (.aload_n 0, 1) := by decide +kernel
theorem dX3_runRoundAgain_14 : decode cX3_runRoundAgain 14 = .ok (.getfield 18, 3) := by decide +kernel
theorem dX3_runRoundAgain_17 : decode cX3_runRoundAgain 17 = .ok (.iload_n 1, 1) := by decide +kernel
theorem dX3_runRoundAgain_18 : decode cX3_runRoundAgain 18 = .ok (.iconst 0, 1) := by decide +kernel
theorem dX3_runRoundAgain_19 : decode cX3_runRoundAgain 19 = .ok (.iastore, 1) := by decide +kernel
theorem dX3_runRoundAgain_20 : decode cX3_runRoundAgain 20 = .ok (.iinc 1 1, 3) := by decide +kernel
theorem dX3_runRoundAgain_23 : decode cX3_runRoundAgain 23 = .ok (.goto (-16), 3) := by decide +kernel
theorem dX3_runRoundAgain_26 : decode cX3_runRoundAgain 26 = .ok (.iconst 0, 1) := by decide +kernel
theorem dX3_runRoundAgain_27 : decode cX3_runRoundAgain 27 = .ok (.istore_n 1, 1) := by decide +kernel
theorem dX3_runRoundAgain_28 : decode cX3_runRoundAgain 28 = .ok (.iload_n 1, 1) := by decide +kernel
theorem dX3_runRoundAgain_29 : decode cX3_runRoundAgain 29 = .ok (.aload_n 0, 1) := by decide +kernel
theorem dX3_runRoundAgain_30 : decode cX3_runRoundAgain 30 = .ok (.getfield 133, 3) := by decide +kernel
theorem dX3_runRoundAgain_33 : decode cX3_runRoundAgain 33 = .ok (.if_icmp .ge 13, 3) := by decide +kernel
theorem dX3_runRoundAgain_36 : decode cX3_runRoundAgain 36 = .ok (.aload_n 0, 1) := by decide +kernel
theorem dX3_runRoundAgain_37 : decode cX3_runRoundAgain 37 = .ok (.invokevirtual 123, 3) := by decide +kernel
theorem dX3_runRoundAgain_40 : decode cX3_runRoundAgain 40 = .ok (.iinc 1 1, 3) := by decide +kernel
theorem dX3_runRoundAgain_43 : decode cX3_runRoundAgain 43 = .ok (.goto (-15), 3) := by decide +kernel
theorem dX3_runRoundAgain_46 : decode cX3_runRoundAgain 46 = .ok (.return_, 1) := by decide +kernel
theorem dX3_runRoundDay_0 : decode cX3_runRoundDay 0 = .ok (.iconst 0, 1) := by decide +kernel
theorem dX3_runRoundDay_1 : decode cX3_runRoundDay 1 = .ok (.istore_n 1, 1) := by decide +kernel
theorem dX3_runRoundDay_2 : decode cX3_runRoundDay 2 = .ok (.iload_n 1, 1) := by decide +kernel
theorem dX3_runRoundDay_3 : decode cX3_runRoundDay 3 = .ok (.aload_n 0, 1) := by decide +kernel
theorem dX3_runRoundDay_4 : decode cX3_runRoundDay 4 = .ok (.getfield 21, 3) := by decide +kernel
theorem dX3_runRoundDay_7 : decode cX3_runRoundDay 7 = .ok (.getfield 51, 3) := by decide +kernel
theorem dX3_runRoundDay_10 : decode cX3_runRoundDay 10 = .ok (.if_icmp .ge 134, 3) := by decide +kernel
theorem dX3_runRoundDay_13 : decode cX3_runRoundDay 13 = .ok (.aload_n 0, 1) := by decide +kernel
theorem dX3_runRoundDay_14 : decode cX3_runRoundDay 14 = .ok (.getfield 25, 3) := by decide +kernel
theorem dX3_runRoundDay_17 : decode cX3_runRoundDay 17 = .ok (.aload_n 0, 1) := by decide +kernel
theorem dX3_runRoundDay_18 : decode cX3_runRoundDay 18 = .ok (.getfield 21, 3) := by decide +kernel
theorem dX3_runRoundDay_21 : decode cX3_runRoundDay 21 = .ok (.getfield 57, 3) := by decide +kernel
theorem dX3_runRoundDay_24 : decode cX3_runRoundDay 24 = .ok (.iload_n 1, 1) := by decide +kernel
theorem dX3_runRoundDay_25 : decode cX3_runRoundDay 25 = .ok (.aload_n 0, 1) := by decide +kernel
theorem dX3_runRoundDay_26 : decode cX3_runRoundDay 26 = .ok (.getfield 21, 3) := by decide +kernel
theorem dX3_runRoundDay_29 : decode cX3_runRoundDay 29 = .ok (.getfield 51, 3) := by decide +kernel
theorem dX3_runRoundDay_32 : decode cX3_runRoundDay 32 = .ok (.aload_n 0, 1) := by decide +kernel
theorem dX3_runRoundDay_33 : decode cX3_runRoundDay 33 = .ok (.getfield 9, 3) := by decide +kernel
theorem dX3_runRoundDay_36 : decode cX3_runRoundDay 36 = .ok (.aload_n 0, 1) := by decide +kernel
theorem dX3_runRoundDay_37 : decode cX3_runRoundDay 37 = .ok (.getfield 21, 3) := by decide +kernel
theorem dX3_runRoundDay_40 : decode cX3_runRoundDay 40 = .ok (.getfield 60, 3) := by decide +kernel
theorem dX3_runRoundDay_43 : decode cX3_runRoundDay 43 = .ok (.invokevirtual 63, 3) := by decide +kernel
theorem dX3_runRoundDay_46 : decode cX3_runRoundDay 46 = .ok (.aload_n 0, 1) := by decide +kernel
theorem dX3_runRoundDay_47 : decode cX3_runRoundDay 47 = .ok (.getfield 25, 3) := by decide +kernel
theorem dX3_runRoundDay_50 : decode cX3_runRoundDay 50 = .ok (.aload_n 0, 1) := by decide +kernel
theorem dX3_runRoundDay_51 : decode cX3_runRoundDay 51 = .ok (.getfield 21, 3) := by decide +kernel
theorem dX3_runRoundDay_54 : decode cX3_runRoundDay 54 = .ok (.getfield 69, 3) := by decide +kernel
theorem dX3_runRoundDay_57 : decode cX3_runRoundDay 57 = .ok (.invokevirtual 72, 3) := by decide +kernel
theorem dX3_runRoundDay_60 : decode cX3_runRoundDay 60 = .ok (.aload_n 0, 1) := by decide +kernel
theorem dX3_runRoundDay_61 : decode cX3_runRoundDay 61 = .ok (.getfield 25, 3) := by decide +kernel
theorem dX3_runRoundDay_64 : decode cX3_runRoundDay 64 = .ok (.aload_n 0, 1) := by decide +kernel
theorem dX3_runRoundDay_65 : decode cX3_runRoundDay 65 = .ok (.getfield 9, 3) := by decide +kernel
theorem dX3_runRoundDay_68 : decode cX3_runRoundDay 68 = .ok (.aload_n 0, 1) := by decide +kernel
theorem dX3_runRoundDay_69 : decode cX3_runRoundDay 69 = .ok (.getfield 25, 3) := by decide +kernel
theorem dX3_runRoundDay_72 : decode cX3_runRoundDay 72 = .ok (.getfield 76, 3) := by decide +kernel
theorem dX3_runRoundDay_75 : decode cX3_runRoundDay 75 = .ok (.aload_n 0, 1) := by decide +kernel
theorem dX3_runRoundDay_76 : decode cX3_runRoundDay 76 = .ok (.getfield 25, 3) := by decide +kernel
theorem dX3_runRoundDay_79 : decode cX3_runRoundDay 79 = .ok (.getfield 79, 3) := by decide +kernel
theorem dX3_runRoundDay_82 : decode cX3_runRoundDay 82 = .ok (.invokevirtual 82, 3) := by decide +kernel
theorem dX3_runRoundDay_85 : decode cX3_runRoundDay 85 = .ok (.iconst 1, 1) := by decide +kernel
theorem dX3_runRoundDay_86 : decode cX3_runRoundDay 86 = .ok (.if_icmp .ne 13, 3) := by decide +kernel
theorem dX3_runRoundDay_89 : decode cX3_runRoundDay 89 = .ok (.aload_n 0, 1) := by decide +kernel
theorem dX3_runRoundDay_90 : decode cX3_runRoundDay 90 = .ok (.dup, 1) := by decide +kernel
theorem dX3_runRoundDay_91 : decode cX3_runRoundDay 91 = .ok (.getfield 42, 3) := by decide +kernel
theorem dX3_runRoundDay_94 : decode cX3_runRoundDay 94 = .ok (.iconst 1, 1) := by decide +kernel
theorem dX3_runRoundDay_95 : decode cX3_runRoundDay 95 = .ok (.iadd, 1) := by decide +kernel
theorem dX3_runRoundDay_96 : decode cX3_runRoundDay 96 = .ok (.putfield 42, 3) := by decide +kernel
theorem dX3_runRoundDay_99 : decode cX3_runRoundDay 99 = .ok (.iconst 0, 1) := by decide +kernel
theorem dX3_runRoundDay_100 : decode cX3_runRoundDay 100 = .ok (.istore_n 2, 1) := by decide +kernel
theorem dX3_runRoundDay_101 : decode cX3_runRoundDay 101 = .ok (.iload_n 2, 1) := by decide +kernel
theorem dX3_runRoundDay_102 : decode cX3_runRoundDay 102 = .ok (.aload_n 0, 1) := by decide +kernel
theorem dX3_runRoundDay_103 : decode cX3_runRoundDay 103 = .ok (.getfield 21, 3) := by decide +kernel
theorem dX3_runRoundDay_106 : decode cX3_runRoundDay 106 = .ok (.getfield 112, 3) := by decide +kernel
theorem dX3_runRoundDay_109 : decode cX3_runRoundDay 109 = .ok (.if_icmp .ge 29, 3) := by decide +kernel
theorem dX3_runRoundDay_112 : decode cX3_runRoundDay 112 = .ok (.aload_n 0, 1) := by decide +kernel
theorem dX3_runRoundDay_113 : decode cX3_runRoundDay 113 = .ok (.getfield 18, 3) := by decide +kernel
theorem dX3_runRoundDay_116 : decode cX3_runRoundDay 116 = .ok (.iload_n 2, 1) := by decide +kernel
theorem dX3_runRoundDay_117 : decode cX3_runRoundDay 117 = .ok (.dup2, 1) := by decide +kernel
theorem dX3_runRoundDay_118 : decode cX3_runRoundDay 118 = .ok (.iaload, 1) := by decide +kernel
theorem dX3_runRoundDay_119 : decode cX3_runRoundDay 119 = .ok (.aload_n 0, 1) := by decide +kernel
theorem dX3_runRoundDay_120 : decode cX3_runRoundDay 120 = .ok (.getfield 25, 3) := by decide +kernel
theorem dX3_runRoundDay_123 : decode cX3_runRoundDay 123 = .ok (.getfield 139, 3) := by decide +kernel
theorem dX3_runRoundDay_126 : decode cX3_runRoundDay 126 = .ok (.iload_n 2, 1) := by decide +kernel
theorem dX3_runRoundDay_127 : decode cX3_runRoundDay 127 = .ok (.ishr, 1) := by decide +kernel
theorem dX3_runRoundDay_128 : decode cX3_runRoundDay 128 = .ok (.iconst 1, 1) := by decide +kernel
theorem dX3_runRoundDay_129 : decode cX3_runRoundDay 129 = .ok (.iand, 1) := by decide +kernel
theorem dX3_runRoundDay_130 : decode cX3_runRoundDay 130 = .ok (.iadd, 1) := by decide +kernel
theorem dX3_runRoundDay_131 : decode cX3_runRoundDay 131 = .ok (.iastore, 1) := by decide +kernel
theorem dX3_runRoundDay_132 : decode cX3_runRoundDay 132 = .ok (.iinc 2 1, 3) := by decide +kernel
theorem dX3_runRoundDay_135 : decode cX3_runRoundDay 135 = .ok (.goto (-34), 3) := by decide +kernel
theorem dX3_runRoundDay_138 : decode cX3_runRoundDay 138 = .ok (.iinc 1 1, 3) := by decide +kernel
theorem dX3_runRoundDay_141 : decode cX3_runRoundDay 141 = .ok (.goto (-139), 3) := by decide +kernel
theorem dX3_runRoundDay_144 : decode cX3_runRoundDay 144 = .ok (.return_, 1) := by decide +kernel
theorem dX3_runYear_0 : decode cX3_runYear 0 = .ok (.aload_n 0, 1) := by decide +kernel
theorem dX3_runYear_1 : decode cX3_runYear 1 = .ok (.invokevirtual 48, 3) := by decide +kernel
theorem dX3_runYear_4 : decode cX3_runYear 4 = .ok (.aload_n 0, 1) := by decide +kernel
theorem dX3_runYear_5 : decode cX3_runYear 5 = .ok (.getfield 21, 3) := by decide +kernel
theorem dX3_runYear_8 : decode cX3_runYear 8 = .ok (.getfield 94, 3) := by decide +kernel
theorem dX3_runYear_11 : decode cX3_runYear 11 = .ok (.i2l, 1) := by decide +kernel
theorem dX3_runYear_12 : decode cX3_runYear 12 = .ok (.lstore_n 3, 1) := by decide +kernel
theorem dX3_runYear_13 : decode cX3_runYear 13 = .ok (.iconst 0, 1) := by decide +kernel
theorem dX3_runYear_14 : decode cX3_runYear 14 = .ok (.istore 5, 2) := by decide +kernel
theorem dX3_runYear_16 : decode cX3_runYear 16 = .ok (.iload 5, 2) := by decide +kernel
theorem dX3_runYear_18 : decode cX3_runYear 18 = .ok (.iload_n 1, 1) := by decide +kernel
theorem dX3_runYear_19 : decode cX3_runYear 19 = .ok (.if_icmp .ge 158, 3) := by decide +kernel
theorem dX3_runYear_22 : decode cX3_runYear 22 = .ok (.aload_n 0, 1) := by decide +kernel
theorem dX3_runYear_23 : decode cX3_runYear 23 = .ok (.getfield 21, 3) := by decide +kernel
theorem dX3_runYear_26 : decode cX3_runYear 26 = .ok (.getfield 97, 3) := by decide +kernel
theorem dX3_runYear_29 : decode cX3_runYear 29 = .ok (.ifCond .le 148, 3) := by decide +kernel
theorem dX3_runYear_32 : decode cX3_runYear 32 = .ok (.lload_n 3, 1) := by decide +kernel
theorem dX3_runYear_33 : decode cX3_runYear 33 = .ok (.ldc2_w 100, 3) := by decide +kernel
theorem dX3_runYear_36 : decode cX3_runYear 36 = .ok (.lmul, 1) := by decide +kernel
theorem dX3_runYear_37 : decode cX3_runYear 37 = .ok (.ldc2_w 102, 3) := by decide +kernel
theorem dX3_runYear_40 : decode cX3_runYear 40 = .ok (.ladd, 1) := by decide +kernel
theorem dX3_runYear_41 : decode cX3_runYear 41 = .ok (.ldc2_w 104, 3) := by decide +kernel
theorem dX3_runYear_44 : decode cX3_runYear 44 = .ok (.land, 1) := by decide +kernel
theorem dX3_runYear_45 : decode cX3_runYear 45 = .ok (.lstore_n 3, 1) := by decide +kernel
theorem dX3_runYear_46 : decode cX3_runYear 46 = .ok (.lload_n 3, 1) := by decide +kernel
theorem dX3_runYear_47 : decode cX3_runYear 47 = .ok (.ldc2_w 106, 3) := by decide +kernel
theorem dX3_runYear_50 : decode cX3_runYear 50 = .ok (.ldiv, 1) := by decide +kernel
theorem dX3_runYear_51 : decode cX3_runYear 51 = .ok (.aload_n 0, 1) := by decide +kernel
theorem dX3_runYear_52 : decode cX3_runYear 52 = .ok (.getfield 21, 3) := by decide +kernel
theorem dX3_runYear_55 : decode cX3_runYear 55 = .ok (.getfield 97, 3) := by decide +kernel
theorem dX3_runYear_58 : decode cX3_runYear 58 = .ok (.i2l, 1) := by decide +kernel
theorem dX3_runYear_59 : decode cX3_runYear 59 = .ok (.lrem, 1) := by decide +kernel
theorem dX3_runYear_60 : decode cX3_runYear 60 = .ok (.l2i, 1) := by decide +kernel
theorem dX3_runYear_61 : decode cX3_runYear 61 = .ok (.istore 6, 2) := by decide +kernel
theorem dX3_runYear_63 : decode cX3_runYear 63 = .ok (.aload_n 0, 1) := by decide +kernel
theorem dX3_runYear_64 : decode cX3_runYear 64 = .ok (.getfield 25, 3) := by decide +kernel
theorem dX3_runYear_67 : decode cX3_runYear 67 = .ok (.iload 6, 2) := by decide +kernel
theorem dX3_runYear_69 : decode cX3_runYear 69 = .ok (.aload_n 0, 1) := by decide +kernel
theorem dX3_runYear_70 : decode cX3_runYear 70 = .ok (.getfield 9, 3) := by decide +kernel
theorem dX3_runYear_73 : decode cX3_runYear 73 = .ok (.aload_n 0, 1) := by decide +kernel
theorem dX3_runYear_74 : decode cX3_runYear 74 = .ok (.getfield 21, 3) := by decide +kernel
theorem dX3_runYear_77 : decode cX3_runYear 77 = .ok (.getfield 60, 3) := by decide +kernel
theorem dX3_runYear_80 : decode cX3_runYear 80 = .ok (.iload 5, 2) := by decide +kernel
theorem dX3_runYear_82 : decode cX3_runYear 82 = .ok (.iadd, 1) := by decide +kernel
theorem dX3_runYear_83 : decode cX3_runYear 83 = .ok (.invokevirtual 108, 3) := by decide +kernel
theorem dX3_runYear_86 : decode cX3_runYear 86 = .ok (.aload_n 0, 1) := by decide +kernel
theorem dX3_runYear_87 : decode cX3_runYear 87 = .ok (.getfield 25, 3) := by decide +kernel
theorem dX3_runYear_90 : decode cX3_runYear 90 = .ok (.aload_n 0, 1) := by decide +kernel
theorem dX3_runYear_91 : decode cX3_runYear 91 = .ok (.getfield 21, 3) := by decide +kernel
theorem dX3_runYear_94 : decode cX3_runYear 94 = .ok (.getfield 69, 3) := by decide +kernel
theorem dX3_runYear_97 : decode cX3_runYear 97 = .ok (.invokevirtual 72, 3) := by decide +kernel
theorem dX3_runYear_100 : decode cX3_runYear 100 = .ok (.aload_n 0, 1) := by decide +kernel
theorem dX3_runYear_101 : decode cX3_runYear 101 = .ok (.aload_n 0, 1) := by decide +kernel
theorem dX3_runYear_102 : decode cX3_runYear 102 = .ok (.getfield 25, 3) := by decide +kernel
theorem dX3_runYear_105 : decode cX3_runYear 105 = .ok (.aload_n 0, 1) := by decide +kernel
theorem dX3_runYear_106 : decode cX3_runYear 106 = .ok (.getfield 9, 3) := by decide +kernel
theorem dX3_runYear_109 : decode cX3_runYear 109 = .ok (.aload_n 0, 1) := by decide +kernel
theorem dX3_runYear_110 : decode cX3_runYear 110 = .ok (.getfield 25, 3) := by decide +kernel
theorem dX3_runYear_113 : decode cX3_runYear 113 = .ok (.getfield 76, 3) := by decide +kernel
theorem dX3_runYear_116 : decode cX3_runYear 116 = .ok (.aload_n 0, 1) := by decide +kernel
theorem dX3_runYear_117 : decode cX3_runYear 117 = .ok (.getfield 25, 3) := by decide +kernel
theorem dX3_runYear_120 : decode cX3_runYear 120 = .ok (.getfield 79, 3) := by decide +kernel
theorem dX3_runYear_123 : decode cX3_runYear 123 = .ok (.invokevirtual 82, 3) := by decide +kernel
theorem dX3_runYear_126 : decode cX3_runYear 126 = .ok (.iload_n 2, 1) := by decide +kernel
theorem dX3_runYear_127 : decode cX3_runYear 127 = .ok (.iload 6, 2) := by decide +kernel
theorem dX3_runYear_129 : decode cX3_runYear 129 = .ok (.invokevirtual 86, 3) := by decide +kernel
theorem dX3_runYear_132 : decode cX3_runYear 132 = .ok (.iconst 0, 1) := by decide +kernel
theorem dX3_runYear_133 : decode cX3_runYear 133 = .ok (.istore 7, 2) := by decide +kernel
theorem dX3_runYear_135 : decode cX3_runYear 135 = .ok (.iload 7, 2) := by decide +kernel
theorem dX3_runYear_137 : decode cX3_runYear 137 = .ok (.aload_n 0, 1) := by decide +kernel
theorem dX3_runYear_138 : decode cX3_runYear 138 = .ok (.getfield 21, 3) := by decide +kernel
theorem dX3_runYear_141 : decode cX3_runYear 141 = .ok (.getfield 112, 3) := by decide +kernel
theorem dX3_runYear_144 : decode cX3_runYear 144 = .ok (.if_icmp .ge 27, 3) := by decide +kernel
theorem dX3_runYear_147 : decode cX3_runYear 147 = .ok (.aload_n 0, 1) := by decide +kernel
theorem dX3_runYear_148 : decode cX3_runYear 148 = .ok (.aload_n 0, 1) := by decide +kernel
theorem dX3_runYear_149 : decode cX3_runYear 149 = .ok (.getfield 45, 3) := by decide +kernel
theorem dX3_runYear_152 : decode cX3_runYear 152 = .ok (.aload_n 0, 1) := by decide +kernel
theorem dX3_runYear_153 : decode cX3_runYear 153 = .ok (.getfield 9, 3) := by decide +kernel
theorem dX3_runYear_156 : decode cX3_runYear 156 = .ok (.iload 7, 2) := by decide +kernel
theorem dX3_runYear_158 : decode cX3_runYear 158 = .ok (.iaload, 1) := by decide +kernel
theorem dX3_runYear_159 : decode cX3_runYear 159 = .ok (.invokestatic 115, 3) := by decide +kernel
theorem dX3_runYear_162 : decode cX3_runYear 162 = .ok (.putfield 45, 3) := by decide +kernel
theorem dX3_runYear_165 : decode cX3_runYear 165 = .ok (.iinc 7 1, 3) := by decide +kernel
theorem dX3_runYear_168 : decode cX3_runYear 168 = .ok (.goto (-33), 3) := by decide +kernel
theorem dX3_runYear_171 : decode cX3_runYear 171 = .ok (.iinc 5 1, 3) := by decide +kernel
theorem dX3_runYear_174 : decode cX3_runYear 174 = .ok (.goto (-158), 3) := by decide +kernel
theorem dX3_runYear_177 : decode cX3_runYear 177 = .ok (.return_, 1) := by decide +kernel
theorem dX3_seekRound_0 : decode cX3_seekRound 0 = .ok (.aload_n 0, 1) := by decide +kernel
theorem dX3_seekRound_1 : decode cX3_seekRound 1 = .ok (.invokevirtual 48, 3) := by decide +kernel
theorem dX3_seekRound_4 : decode cX3_seekRound 4 = .ok (.aload_n 0, 1) := by decide +kernel
theorem dX3_seekRound_5 : decode cX3_seekRound 5 = .ok (.iconst 0, 1) := by decide +kernel
theorem dX3_seekRound_6 : decode cX3_seekRound 6 = .ok (.invokevirtual 120, 3) := by decide +kernel
theorem dX3_seekRound_9 : decode cX3_seekRound 9 = .ok (.iconst 1, 1) := by decide +kernel
theorem dX3_seekRound_10 : decode cX3_seekRound 10 = .ok (.istore_n 1, 1) := by decide +kernel
theorem dX3_seekRound_11 : decode cX3_seekRound 11 = .ok (.iload_n 1, 1) := by decide +kernel
theorem dX3_seekRound_12 : decode cX3_seekRound 12 = .ok (.sipush 300, 3) := by decide +kernel
theorem dX3_seekRound_15 : decode cX3_seekRound 15 = .ok (.if_icmp .gt 47, 3) := by decide +kernel
theorem dX3_seekRound_18 : decode cX3_seekRound 18 = .ok (.aload_n 0, 1) := by decide +kernel
theorem dX3_seekRound_19 : decode cX3_seekRound 19 = .ok (.invokevirtual 123, 3) := by decide +kernel
theorem dX3_seekRound_22 : decode cX3_seekRound 22 = .ok (.aload_n 0, 1) := by decide +kernel
theorem dX3_seekRound_23 : decode cX3_seekRound 23 = .ok (.iload_n 1, 1) := by decide +kernel
theorem dX3_seekRound_24 : decode cX3_seekRound 24 = .ok (.invokevirtual 126, 3) := by decide +kernel
theorem dX3_seekRound_27 : decode cX3_seekRound 27 = .ok (.istore_n 2, 1) := by decide +kernel
theorem dX3_seekRound_28 : decode cX3_seekRound 28 = .ok (.iload_n 2, 1) := by decide +kernel
theorem dX3_seekRound_29 : decode cX3_seekRound 29 = .ok (.iconst (-1), 1) := by decide +kernel
theorem dX3_seekRound_30 : decode cX3_seekRound 30 = .ok (.if_icmp .eq 21, 3) := by decide +kernel
theorem dX3_seekRound_33 : decode cX3_seekRound 33 = .ok (.aload_n 0, 1) := by decide +kernel
theorem dX3_seekRound_34 : decode cX3_seekRound 34 = .ok (.iload_n 2, 1) := by decide +kernel
theorem dX3_seekRound_35 : decode cX3_seekRound 35 = .ok (.putfield 130, 3) := by decide +kernel
theorem dX3_seekRound_38 : decode cX3_seekRound 38 = .ok (.aload_n 0, 1) := by decide +kernel
theorem dX3_seekRound_39 : decode cX3_seekRound 39 = .ok (.iload_n 1, 1) := by decide +kernel
theorem dX3_seekRound_40 : decode cX3_seekRound 40 = .ok (.iload_n 2, 1) := by decide +kernel
theorem dX3_seekRound_41 : decode cX3_seekRound 41 = .ok (.isub, 1) := by decide +kernel
theorem dX3_seekRound_42 : decode cX3_seekRound 42 = .ok (.putfield 133, 3) := by decide +kernel
theorem dX3_seekRound_45 : decode cX3_seekRound 45 = .ok (.aload_n 0, 1) := by decide +kernel
theorem dX3_seekRound_46 : decode cX3_seekRound 46 = .ok (.invokevirtual 136, 3) := by decide +kernel
theorem dX3_seekRound_49 : decode cX3_seekRound 49 = .ok (.iconst 1, 1) := by decide +kernel
theorem dX3_seekRound_50 : decode cX3_seekRound 50 = .ok (.ireturn, 1) := by decide +kernel
theorem dX3_seekRound_51 : decode cX3_seekRound 51 = .ok (.aload_n 0, 1) := by decide +kernel
theorem dX3_seekRound_52 : decode cX3_seekRound 52 = .ok (.iload_n 1, 1) := by decide +kernel
theorem dX3_seekRound_53 : decode cX3_seekRound 53 = .ok (.invokevirtual 120, 3) := by decide +kernel
theorem dX3_seekRound_56 : decode cX3_seekRound 56 = .ok (.iinc 1 1, 3) := by decide +kernel
theorem dX3_seekRound_59 : decode cX3_seekRound 59 = .ok (.goto (-48), 3) := by decide +kernel
theorem dX3_seekRound_62 : decode cX3_seekRound 62 = .ok (.iconst 0, 1) := by decide +kernel
theorem dX3_seekRound_63 : decode cX3_seekRound 63 = .ok (.ireturn, 1) := by decide +kernel
theorem dX3_seenBefore_0 : decode cX3_seenBefore 0 = .ok (.iconst 0, 1) := by decide +kernel
theorem dX3_seenBefore_1 : decode cX3_seenBefore 1 = .ok (.istore_n 2, 1) := by decide +kernel
theorem dX3_seenBefore_2 : decode cX3_seenBefore 2 = .ok (.iload_n 2, 1) := by decide +kernel
theorem dX3_seenBefore_3 : decode cX3_seenBefore 3 = .ok (.iload_n 1, 1) := by decide +kernel
theorem dX3_seenBefore_4 : decode cX3_seenBefore 4 = .ok (.if_icmp .ge 68, 3) := by decide +kernel
theorem dX3_seenBefore_7 : decode cX3_seenBefore 7 = .ok (.iload_n 2, 1) := by decide +kernel
theorem dX3_seenBefore_8 : decode cX3_seenBefore 8 = .ok (.bipush 10, 2) := by decide +kernel
theorem dX3_seenBefore_10 : decode cX3_seenBefore 10 = .ok (.imul, 1) := by decide +kernel
theorem dX3_seenBefore_11 : decode cX3_seenBefore 11 = .ok (.istore_n 3, 1) := by decide +kernel
theorem dX3_seenBefore_12 : decode cX3_seenBefore 12 = .ok (.iconst 0, 1) := by decide +kernel
theorem dX3_seenBefore_13 : decode cX3_seenBefore 13 = .ok (.istore 4, 2) := by decide +kernel
theorem dX3_seenBefore_15 : decode cX3_seenBefore 15 = .ok (.iload 4, 2) := by decide +kernel
theorem dX3_seenBefore_17 : decode cX3_seenBefore 17 = .ok (.aload_n 0, 1) := by decide +kernel
theorem dX3_seenBefore_18 : decode cX3_seenBefore 18 = .ok (.getfield 21, 3) := by decide +kernel
theorem dX3_seenBefore_21 : decode cX3_seenBefore 21 = .ok (.getfield 112, 3) := by decide +kernel
theorem dX3_seenBefore_24 : decode cX3_seenBefore 24 = .ok (.if_icmp .ge 28, 3) := by decide +kernel
theorem dX3_seenBefore_27 : decode cX3_seenBefore 27 = .ok (.aload_n 0, 1) := by decide +kernel
theorem dX3_seenBefore_28 : decode cX3_seenBefore 28 = .ok (.getfield 15, 3) := by decide +kernel
theorem dX3_seenBefore_31 : decode cX3_seenBefore 31 = .ok (.iload_n 3, 1) := by decide +kernel
theorem dX3_seenBefore_32 : decode cX3_seenBefore 32 = .ok (.iload 4, 2) := by decide +kernel
theorem dX3_seenBefore_34 : decode cX3_seenBefore 34 = .ok (.iadd, 1) := by decide +kernel
theorem dX3_seenBefore_35 : decode cX3_seenBefore 35 = .ok (.iaload, 1) := by decide +kernel
theorem dX3_seenBefore_36 : decode cX3_seenBefore 36 = .ok (.aload_n 0, 1) := by decide +kernel
theorem dX3_seenBefore_37 : decode cX3_seenBefore 37 = .ok (.getfield 9, 3) := by decide +kernel
theorem dX3_seenBefore_40 : decode cX3_seenBefore 40 = .ok (.iload 4, 2) := by decide +kernel
theorem dX3_seenBefore_42 : decode cX3_seenBefore 42 = .ok (.iaload, 1) := by decide +kernel
theorem dX3_seenBefore_43 : decode cX3_seenBefore 43 = .ok (.if_icmp .ne 9, 3) := by decide +kernel
theorem dX3_seenBefore_46 : decode cX3_seenBefore 46 = .ok (.iinc 4 1, 3) := by decide +kernel
theorem dX3_seenBefore_49 : decode cX3_seenBefore 49 = .ok (.goto (-34), 3) := by decide +kernel
theorem dX3_seenBefore_52 : decode cX3_seenBefore 52 = .ok (.iload 4, 2) := by decide +kernel
theorem dX3_seenBefore_54 : decode cX3_seenBefore 54 = .ok (.aload_n 0, 1) := by decide +kernel
theorem dX3_seenBefore_55 : decode cX3_seenBefore 55 = .ok (.getfield 21, 3) := by decide +kernel
theorem dX3_seenBefore_58 : decode cX3_seenBefore 58 = .ok (.getfield 112, 3) := by decide +kernel
theorem dX3_seenBefore_61 : decode cX3_seenBefore 61 = .ok (.if_icmp .lt 5, 3) := by decide +kernel
theorem dX3_seenBefore_64 : decode cX3_seenBefore 64 = .ok (.iload_n 2, 1) := by decide +kernel
theorem dX3_seenBefore_65 : decode cX3_seenBefore 65 = .ok (.ireturn, 1) := by decide +kernel
theorem dX3_seenBefore_66 : decode cX3_seenBefore 66 = .ok (.iinc 2 1, 3) := by decide +kernel
theorem dX3_seenBefore_69 : decode cX3_seenBefore 69 = .ok (.goto (-67), 3) := by decide +kernel
theorem dX3_seenBefore_72 : decode cX3_seenBefore 72 = .ok (.iconst (-1), 1) := by decide +kernel
theorem dX3_seenBefore_73 : decode cX3_seenBefore 73 = .ok (.ireturn, 1) := by decide +kernel
theorem dX3_start_0 : decode cX3_start 0 = .ok (.aload_n 0, 1) := by decide +kernel
theorem dX3_start_1 : decode cX3_start 1 = .ok (.getfield 21, 3) := by decide +kernel
theorem dX3_start_4 : decode cX3_start 4 = .ok (.getfield 29, 3) := by decide +kernel
theorem dX3_start_7 : decode cX3_start 7 = .ok (.iconst 0, 1) := by decide +kernel
theorem dX3_start_8 : decode cX3_start 8 = .ok (.aload_n 0, 1) := by decide +kernel
theorem dX3_start_9 : decode cX3_start 9 = .ok (.getfield 9, 3) := by decide +kernel
theorem dX3_start_12 : decode cX3_start 12 = .ok (.iconst 0, 1) := by decide +kernel
theorem dX3_start_13 : decode cX3_start 13 = .ok (.bipush 10, 2) := by decide +kernel
theorem dX3_start_15 : decode cX3_start 15 = .ok (.invokestatic 32, 3) := by decide +kernel
theorem dX3_start_18 : decode cX3_start 18 = .ok (.aload_n 0, 1) := by decide +kernel
theorem dX3_start_19 : decode cX3_start 19 = .ok (.iconst 0, 1) := by decide +kernel
theorem dX3_start_20 : decode cX3_start 20 = .ok (.putfield 38, 3) := by decide +kernel
theorem dX3_start_23 : decode cX3_start 23 = .ok (.aload_n 0, 1) := by decide +kernel
theorem dX3_start_24 : decode cX3_start 24 = .ok (.iconst 0, 1) := by decide +kernel
theorem dX3_start_25 : decode cX3_start 25 = .ok (.putfield 42, 3) := by decide +kernel
theorem dX3_start_28 : decode cX3_start 28 = .ok (.aload_n 0, 1) := by decide +kernel
theorem dX3_start_29 : decode cX3_start 29 = .ok (.iconst 0, 1) := by decide +kernel
theorem dX3_start_30 : decode cX3_start 30 = .ok (.putfield 45, 3) := by decide +kernel
theorem dX3_start_33 : decode cX3_start 33 = .ok (.return_, 1) := by decide +kernel
theorem dX4_answered_0 : decode cX4_answered 0 = .ok (.ldc 100, 2) := by decide +kernel
theorem dX4_answered_2 : decode cX4_answered 2 = .ok (.istore 4, 2) := by decide +kernel
theorem dX4_answered_4 : decode cX4_answered 4 = .ok (.aload_n 0, 1) := by decide +kernel
theorem dX4_answered_5 : decode cX4_answered 5 = .ok (.getfield 13, 3) := by decide +kernel
theorem dX4_answered_8 : decode cX4_answered 8 = .ok (.iload_n 1, 1) := by decide +kernel
theorem dX4_answered_9 : decode cX4_answered 9 = .ok (.iconst 1, 1) := by decide +kernel
theorem dX4_answered_10 : decode cX4_answered 10 = .ok (.iadd, 1) := by decide +kernel
theorem dX4_answered_11 : decode cX4_answered 11 = .ok (.aaload, 1) := by decide +kernel
theorem dX4_answered_12 : decode cX4_answered 12 = .ok (.astore 5, 2) := by decide +kernel
theorem dX4_answered_14 : decode cX4_answered 14 = .ok (.iconst 0, 1) := by decide +kernel
theorem dX4_answered_15 : decode cX4_answered 15 = .ok (.istore 6, 2) := by decide +kernel
theorem dX4_answered_17 : decode cX4_answered 17 = .ok (.iload 6, 2) := by decide +kernel
theorem dX4_answered_19 : decode cX4_answered 19 = .ok (.getstatic 90, 3) := by decide +kernel
theorem dX4_answered_22 : decode cX4_answered 22 = .ok (.arraylength, 1) := by decide +kernel
theorem dX4_answered_23 : decode cX4_answered 23 = .ok (.if_icmp .ge 117, 3) := by decide +kernel
theorem dX4_answered_26 : decode cX4_answered 26 = .ok (.getstatic 90, 3) := by decide +kernel
theorem dX4_answered_29 : decode cX4_answered 29 = .ok (.iload 6, 2) := by decide +kernel
theorem dX4_answered_31 : decode cX4_answered 31 = .ok (.iaload, 1) := by decide +kernel
theorem dX4_answered_32 : decode cX4_answered 32 = .ok (.iconst 1, 1) := by decide +kernel
theorem dX4_answered_33 : decode cX4_answered 33 = .ok (.if_icmp .ne 10, 3) := by decide +kernel
theorem dX4_answered_36 : decode cX4_answered 36 = .ok (.aload_n 0, 1) := by decide +kernel
theorem dX4_answered_37 : decode cX4_answered 37 = .ok (.getfield 32, 3) := by decide +kernel
theorem dX4_answered_40 : decode cX4_answered 40 = .ok (.goto 4, 3) := by decide +kernel
theorem dX4_answered_43 : decode cX4_answered 43 = .ok (.iconst 0, 1) := by decide +kernel
theorem dX4_answered_44 : decode cX4_answered 44 = .ok (.istore 7, 2) := by decide +kernel
theorem dX4_answered_46 : decode cX4_answered 46 = .ok (.getstatic 90, 3) := by decide +kernel
theorem dX4_answered_49 : decode cX4_answered 49 = .ok (.iload 6, 2) := by decide +kernel
theorem dX4_answered_51 : decode cX4_answered 51 = .ok (.iaload, 1) := by decide +kernel
theorem dX4_answered_52 : decode cX4_answered 52 = .ok (.ifCond .ne 10, 3) := by decide +kernel
theorem dX4_answered_55 : decode cX4_answered 55 = .ok (.aload_n 0, 1) := by decide +kernel
theorem dX4_answered_56 : decode cX4_answered 56 = .ok (.getfield 32, 3) := by decide +kernel
theorem dX4_answered_59 : decode cX4_answered 59 = .ok (.goto 4, 3) := by decide +kernel
theorem dX4_answered_62 : decode cX4_answered 62 = .ok (.iconst 0, 1) := by decide +kernel
theorem dX4_answered_63 : decode cX4_answered 63 = .ok (.istore 8, 2) := by decide +kernel
theorem dX4_answered_65 : decode cX4_answered 65 = .ok (.aload_n 0, 1) := by decide +kernel
theorem dX4_answered_66 : decode cX4_answered 66 = .ok (.getfield 13, 3) := by decide +kernel
theorem dX4_answered_69 : decode cX4_answered 69 = .ok (.iload_n 1, 1) := by decide +kernel
theorem dX4_answered_70 : decode cX4_answered 70 = .ok (.aaload, 1) := by decide +kernel
theorem dX4_answered_71 : decode cX4_answered 71 = .ok (.iconst 0, 1) := by decide +kernel
theorem dX4_answered_72 : decode cX4_answered 72 = .ok (.aload 5, 2) := by decide +kernel
theorem dX4_answered_74 : decode cX4_answered 74 = .ok (.iconst 0, 1) := by decide +kernel
theorem dX4_answered_75 : decode cX4_answered 75 = .ok (.bipush 10, 2) := by decide +kernel
theorem dX4_answered_77 : decode cX4_answered 77 = .ok (.invokestatic 57, 3) := by decide +kernel
theorem dX4_answered_80 : decode cX4_answered 80 = .ok (.aload_n 0, 1) := by decide +kernel
theorem dX4_answered_81 : decode cX4_answered 81 = .ok (.getfield 24, 3) := by decide +kernel
theorem dX4_answered_84 : decode cX4_answered 84 = .ok (.aload 5, 2) := by decide +kernel
theorem dX4_answered_86 : decode cX4_answered 86 = .ok (.iload_n 2, 1) := by decide +kernel
theorem dX4_answered_87 : decode cX4_answered 87 = .ok (.iload 7, 2) := by decide +kernel
theorem dX4_answered_89 : decode cX4_answered 89 = .ok (.ior, 1) := by decide +kernel
theorem dX4_answered_90 : decode cX4_answered 90 = .ok (.iload_n 3, 1) := by decide +kernel
theorem dX4_answered_91 : decode cX4_answered 91 = .ok (.iload 8, 2) := by decide +kernel
theorem dX4_answered_93 : decode cX4_answered 93 = .ok (.ior, 1) := by decide +kernel
theorem dX4_answered_94 : decode cX4_answered 94 = .ok (.invokevirtual 101, 3) := by decide +kernel
theorem dX4_answered_97 : decode cX4_answered 97 = .ok (.istore 9, 2) := by decide +kernel
theorem dX4_answered_99 : decode cX4_answered 99 = .ok (.iload 9, 2) := by decide +kernel
theorem dX4_answered_101 : decode cX4_answered 101 = .ok (.iconst 1, 1) := by decide +kernel
theorem dX4_answered_102 : decode cX4_answered 102 = .ok (.if_icmp .ne 12, 3) := by decide +kernel
theorem dX4_answered_105 : decode cX4_answered 105 = .ok (.aload_n 0, 1) := by decide +kernel
theorem dX4_answered_106 : decode cX4_answered 106 = .ok (.getfield 16, 3) := by decide +kernel
theorem dX4_answered_109 : decode cX4_answered 109 = .ok (.iload_n 1, 1) := by decide +kernel
theorem dX4_answered_110 : decode cX4_answered 110 = .ok (.iaload, 1) := by decide +kernel
theorem dX4_answered_111 : decode cX4_answered 111 = .ok (.goto 4, 3) := by decide +kernel
theorem dX4_answered_114 : decode cX4_answered 114 = .ok (.iconst 0, 1) := by decide +kernel
theorem dX4_answered_115 : decode cX4_answered 115 = .ok (.istore 10, 2) := by decide +kernel
theorem dX4_answered_117 : decode cX4_answered 117 = .ok (.iload 4, 2) := by decide +kernel
theorem dX4_answered_119 : decode cX4_answered 119 = .ok (.iload 10, 2) := by decide +kernel
theorem dX4_answered_121 : decode cX4_answered 121 = .ok (.aload_n 0, 1) := by decide +kernel
theorem dX4_answered_122 : decode cX4_answered 122 = .ok (.iload_n 1, 1) := by decide +kernel
theorem dX4_answered_123 : decode cX4_answered 123 = .ok (.iconst 1, 1) := by decide +kernel
theorem dX4_answered_124 : decode cX4_answered 124 = .ok (.iadd, 1) := by decide +kernel
theorem dX4_answered_125 : decode cX4_answered 125 = .ok (.invokevirtual 63, 3) := by decide +kernel
theorem dX4_answered_128 : decode cX4_answered 128 = .ok (.iadd, 1) := by decide +kernel
theorem dX4_answered_129 : decode cX4_answered 129 = .ok (.invokestatic 40, 3) := by decide +kernel
theorem dX4_answered_132 : decode cX4_answered 132 = .ok (.istore 4, 2) := by decide +kernel
theorem dX4_answered_134 : decode cX4_answered 134 = .ok (.iinc 6 1, 3) := by decide +kernel
theorem dX4_answered_137 : decode cX4_answered 137 = .ok (.goto (-120), 3) := by decide +kernel
theorem dX4_answered_140 : decode cX4_answered 140 = .ok (.iload 4, 2) := by decide +kernel
theorem dX4_answered_142 : decode cX4_answered 142 = .ok (.ireturn, 1) := by decide +kernel
theorem dX4_fight_0 : decode cX4_fight 0 = .ok (.aload_n 0, 1) := by decide +kernel
theorem dX4_fight_1 : decode cX4_fight 1 = .ok (.iload_n 1, 1) := by decide +kernel
theorem dX4_fight_2 : decode cX4_fight 2 = .ok (.putfield 28, 3) := by decide +kernel
theorem dX4_fight_5 : decode cX4_fight 5 = .ok (.aload_n 0, 1) := by decide +kernel
theorem dX4_fight_6 : decode cX4_fight 6 = .ok (.iload_n 2, 1) := by decide +kernel
theorem dX4_fight_7 : decode cX4_fight 7 = .ok (.putfield 32, 3) := by decide +kernel
theorem dX4_fight_10 : decode cX4_fight 10 = .ok (.aload_n 0, 1) := by decide +kernel
theorem dX4_fight_11 : decode cX4_fight 11 = .ok (.aload_n 0, 1) := by decide +kernel
theorem dX4_fight_12 : decode cX4_fight 12 = .ok (.getfield 20, 3) := by decide +kernel
theorem dX4_fight_15 : decode cX4_fight 15 = .ok (.getfield 35, 3) := by decide +kernel
theorem dX4_fight_18 : decode cX4_fight 18 = .ok (.iconst 4, 1) := by decide +kernel
theorem dX4_fight_19 : decode cX4_fight 19 = .ok (.invokestatic 40, 3) := by decide +kernel
theorem dX4_fight_22 : decode cX4_fight 22 = .ok (.putfield 46, 3) := by decide +kernel
theorem dX4_fight_25 : decode cX4_fight 25 = .ok (.iconst 0, 1) := by decide +kernel
theorem dX4_fight_26 : decode cX4_fight 26 = .ok (.istore_n 3, 1) := by decide +kernel
theorem dX4_fight_27 : decode cX4_fight 27 = .ok (.iload_n 3, 1) := by decide +kernel
theorem dX4_fight_28 : decode cX4_fight 28 = .ok (.aload_n 0, 1) := by decide +kernel
theorem dX4_fight_29 : decode cX4_fight 29 = .ok (.getfield 46, 3) := by decide +kernel
theorem dX4_fight_32 : decode cX4_fight 32 = .ok (.if_icmp .ge 47, 3) := by decide +kernel
theorem dX4_fight_35 : decode cX4_fight 35 = .ok (.aload_n 0, 1) := by decide +kernel
theorem dX4_fight_36 : decode cX4_fight 36 = .ok (.getfield 20, 3) := by decide +kernel
theorem dX4_fight_39 : decode cX4_fight 39 = .ok (.getfield 49, 3) := by decide +kernel
theorem dX4_fight_42 : decode cX4_fight 42 = .ok (.iload_n 3, 1) := by decide +kernel
theorem dX4_fight_43 : decode cX4_fight 43 = .ok (.iaload, 1) := by decide +kernel
theorem dX4_fight_44 : decode cX4_fight 44 = .ok (.istore 4, 2) := by decide +kernel
theorem dX4_fight_46 : decode cX4_fight 46 = .ok (.aload_n 0, 1) := by decide +kernel
theorem dX4_fight_47 : decode cX4_fight 47 = .ok (.getfield 16, 3) := by decide +kernel
theorem dX4_fight_50 : decode cX4_fight 50 = .ok (.iload_n 3, 1) := by decide +kernel
theorem dX4_fight_51 : decode cX4_fight 51 = .ok (.aload_n 0, 1) := by decide +kernel
theorem dX4_fight_52 : decode cX4_fight 52 = .ok (.getfield 20, 3) := by decide +kernel
theorem dX4_fight_55 : decode cX4_fight 55 = .ok (.iload_n 1, 1) := by decide +kernel
theorem dX4_fight_56 : decode cX4_fight 56 = .ok (.iload 4, 2) := by decide +kernel
theorem dX4_fight_58 : decode cX4_fight 58 = .ok (.invokevirtual 52, 3) := by decide +kernel
theorem dX4_fight_61 : decode cX4_fight 61 = .ok (.aload_n 0, 1) := by decide +kernel
theorem dX4_fight_62 : decode cX4_fight 62 = .ok (.getfield 20, 3) := by decide +kernel
theorem dX4_fight_65 : decode cX4_fight 65 = .ok (.iload_n 2, 1) := by decide +kernel
theorem dX4_fight_66 : decode cX4_fight 66 = .ok (.iload 4, 2) := by decide +kernel
theorem dX4_fight_68 : decode cX4_fight 68 = .ok (.invokevirtual 52, 3) := by decide +kernel
theorem dX4_fight_71 : decode cX4_fight 71 = .ok (.isub, 1) := by decide +kernel
theorem dX4_fight_72 : decode cX4_fight 72 = .ok (.iastore, 1) := by decide +kernel
theorem dX4_fight_73 : decode cX4_fight 73 = .ok (.iinc 3 1, 3) := by decide +kernel
theorem dX4_fight_76 : decode cX4_fight 76 = .ok (.goto (-49), 3) := by decide +kernel
theorem dX4_fight_79 : decode cX4_fight 79 = .ok (.aload_n 0, 1) := by decide +kernel
theorem dX4_fight_80 : decode cX4_fight 80 = .ok (.getfield 20, 3) := by decide +kernel
theorem dX4_fight_83 : decode cX4_fight 83 = .ok (.getfield 55, 3) := by decide +kernel
theorem dX4_fight_86 : decode cX4_fight 86 = .ok (.iconst 0, 1) := by decide +kernel
theorem dX4_fight_87 : decode cX4_fight 87 = .ok (.aload_n 0, 1) := by decide +kernel
theorem dX4_fight_88 : decode cX4_fight 88 = .ok (.getfield 13, 3) := by decide +kernel
theorem dX4_fight_91 : decode cX4_fight 91 = .ok (.iconst 0, 1) := by decide +kernel
theorem dX4_fight_92 : decode cX4_fight 92 = .ok (.aaload, 1) := by decide +kernel
theorem dX4_fight_93 : decode cX4_fight 93 = .ok (.iconst 0, 1) := by decide +kernel
theorem dX4_fight_94 : decode cX4_fight 94 = .ok (.bipush 10, 2) := by decide +kernel
theorem dX4_fight_96 : decode cX4_fight 96 = .ok (.invokestatic 57, 3) := by decide +kernel
theorem dX4_fight_99 : decode cX4_fight 99 = .ok (.aload_n 0, 1) := by decide +kernel
theorem dX4_fight_100 : decode cX4_fight 100 = .ok (.iconst 0, 1) := by decide +kernel
theorem dX4_fight_101 : decode cX4_fight 101 = .ok (.invokevirtual 63, 3) := by decide +kernel
theorem dX4_fight_104 : decode cX4_fight 104 = .ok (.ireturn, 1) := by decide +kernel
theorem dX4_init_0 : decode cX4_init 0 = .ok (.aload_n 0, 1) := by decide +kernel
theorem dX4_init_1 : decode cX4_init 1 = .ok (.invokespecial 3, 3) := by decide +kernel
theorem dX4_init_4 : decode cX4_init 4 = .ok (.aload_n 0, 1) := by decide +kernel
theorem dX4_init_5 : decode cX4_init 5 = .ok (.iconst 5, 1) := by decide +kernel
theorem dX4_init_6 : decode cX4_init 6 = .ok (.bipush 10, 2) := by decide +kernel
theorem dX4_init_8 : decode cX4_init 8 = .ok (.multianewarray 11 2, 4) := by decide +kernel
theorem dX4_init_12 : decode cX4_init 12 = .ok (.putfield 13, 3) := by decide +kernel
theorem dX4_init_15 : decode cX4_init 15 = .ok (.aload_n 0, 1) := by decide +kernel
theorem dX4_init_16 : decode cX4_init 16 = .ok (.iconst 4, 1) := by decide +kernel
theorem dX4_init_17 : decode cX4_init 17 = .ok (.newarray .int, 2) := by decide +kernel
theorem dX4_init_19 : decode cX4_init 19 = .ok (.putfield 16, 3) := by decide +kernel
theorem dX4_init_22 : decode cX4_init 22 = .ok (.aload_n 0, 1) := by decide +kernel
theorem dX4_init_23 : decode cX4_init 23 = .ok (.aload_n 1, 1) := by decide +kernel
theorem dX4_init_24 : decode cX4_init 24 = .ok (.putfield 20, 3) := by decide +kernel
theorem dX4_init_27 : decode cX4_init 27 = .ok (.aload_n 0, 1) := by decide +kernel
theorem dX4_init_28 : decode cX4_init 28 = .ok (.aload_n 2, 1) := by decide +kernel
theorem dX4_init_29 : decode cX4_init 29 = .ok (.putfield 24, 3) := by decide +kernel
theorem dX4_init_32 : decode cX4_init 32 = .ok (.return_, 1) := by decide +kernel
theorem dX4_play_0 : decode cX4_play 0 = .ok (.iload_n 1, 1) := by decide +kernel
theorem dX4_play_1 : decode cX4_play 1 = .ok (.aload_n 0, 1) := by decide +kernel
theorem dX4_play_2 : decode cX4_play 2 = .ok (.getfield 46, 3) := by decide +kernel
theorem dX4_play_5 : decode cX4_play 5 = .ok (.if_icmp .lt 5, 3) := by decide +kernel
theorem dX4_play_8 : decode cX4_play 8 = .ok (.iconst 0, 1) := by decide +kernel
theorem dX4_play_9 : decode cX4_play 9 = .ok (.ireturn, 1) := by decide +kernel
theorem dX4_play_10 : decode cX4_play 10 = .ok (.aload_n 0, 1) := by decide +kernel
theorem dX4_play_11 : decode cX4_play 11 = .ok (.getfield 24, 3) := by decide +kernel
theorem dX4_play_14 : decode cX4_play 14 = .ok (.aload_n 0, 1) := by decide +kernel
theorem dX4_play_15 : decode cX4_play 15 = .ok (.getfield 20, 3) := by decide +kernel
theorem dX4_play_18 : decode cX4_play 18 = .ok (.getfield 49, 3) := by decide +kernel
theorem dX4_play_21 : decode cX4_play 21 = .ok (.iload_n 1, 1) := by decide +kernel
theorem dX4_play_22 : decode cX4_play 22 = .ok (.aload_n 0, 1) := by decide +kernel
theorem dX4_play_23 : decode cX4_play 23 = .ok (.getfield 20, 3) := by decide +kernel
theorem dX4_play_26 : decode cX4_play 26 = .ok (.getfield 35, 3) := by decide +kernel
theorem dX4_play_29 : decode cX4_play 29 = .ok (.aload_n 0, 1) := by decide +kernel
theorem dX4_play_30 : decode cX4_play 30 = .ok (.getfield 13, 3) := by decide +kernel
theorem dX4_play_33 : decode cX4_play 33 = .ok (.iload_n 1, 1) := by decide +kernel
theorem dX4_play_34 : decode cX4_play 34 = .ok (.aaload, 1) := by decide +kernel
theorem dX4_play_35 : decode cX4_play 35 = .ok (.aload_n 0, 1) := by decide +kernel
theorem dX4_play_36 : decode cX4_play 36 = .ok (.getfield 20, 3) := by decide +kernel
theorem dX4_play_39 : decode cX4_play 39 = .ok (.getfield 67, 3) := by decide +kernel
theorem dX4_play_42 : decode cX4_play 42 = .ok (.iload_n 1, 1) := by decide +kernel
theorem dX4_play_43 : decode cX4_play 43 = .ok (.iadd, 1) := by decide +kernel
theorem dX4_play_44 : decode cX4_play 44 = .ok (.invokevirtual 70, 3) := by decide +kernel
theorem dX4_play_47 : decode cX4_play 47 = .ok (.aload_n 0, 1) := by decide +kernel
theorem dX4_play_48 : decode cX4_play 48 = .ok (.getfield 24, 3) := by decide +kernel
theorem dX4_play_51 : decode cX4_play 51 = .ok (.aload_n 0, 1) := by decide +kernel
theorem dX4_play_52 : decode cX4_play 52 = .ok (.getfield 20, 3) := by decide +kernel
theorem dX4_play_55 : decode cX4_play 55 = .ok (.getfield 76, 3) := by decide +kernel
theorem dX4_play_58 : decode cX4_play 58 = .ok (.aload_n 0, 1) := by decide +kernel
theorem dX4_play_59 : decode cX4_play 59 = .ok (.getfield 28, 3) := by decide +kernel
theorem dX4_play_62 : decode cX4_play 62 = .ok (.iconst (-1), 1) := by decide +kernel
theorem dX4_play_63 : decode cX4_play 63 = .ok (.ixor, 1) := by decide +kernel
theorem dX4_play_64 : decode cX4_play 64 = .ok (.iand, 1) := by decide +kernel
theorem dX4_play_65 : decode cX4_play 65 = .ok (.aload_n 0, 1) := by decide +kernel
theorem dX4_play_66 : decode cX4_play 66 = .ok (.getfield 32, 3) := by decide +kernel
theorem dX4_play_69 : decode cX4_play 69 = .ok (.iconst (-1), 1) := by decide +kernel
theorem dX4_play_70 : decode cX4_play 70 = .ok (.ixor, 1) := by decide +kernel
theorem dX4_play_71 : decode cX4_play 71 = .ok (.iand, 1) := by decide +kernel
theorem dX4_play_72 : decode cX4_play 72 = .ok (.invokevirtual 79, 3) := by decide +kernel
theorem dX4_play_75 : decode cX4_play 75 = .ok (.aload_n 0, 1) := by decide +kernel
theorem dX4_play_76 : decode cX4_play 76 = .ok (.getfield 24, 3) := by decide +kernel
theorem dX4_play_79 : decode cX4_play 79 = .ok (.getfield 83, 3) := by decide +kernel
theorem dX4_play_82 : decode cX4_play 82 = .ok (.istore_n 2, 1) := by decide +kernel
theorem dX4_play_83 : decode cX4_play 83 = .ok (.aload_n 0, 1) := by decide +kernel
theorem dX4_play_84 : decode cX4_play 84 = .ok (.getfield 24, 3) := by decide +kernel
theorem dX4_play_87 : decode cX4_play 87 = .ok (.getfield 86, 3) := by decide +kernel
theorem dX4_play_90 : decode cX4_play 90 = .ok (.istore_n 3, 1) := by decide +kernel
theorem dX4_play_91 : decode cX4_play 91 = .ok (.ldc 89, 2) := by decide +kernel
theorem dX4_play_93 : decode cX4_play 93 = .ok (.istore 4, 2) := by decide +kernel
theorem dX4_play_95 : decode cX4_play 95 = .ok (.iconst 0, 1) := by decide +kernel
theorem dX4_play_96 : decode cX4_play 96 = .ok (.istore 5, 2) := by decide +kernel
theorem dX4_play_98 : decode cX4_play 98 = .ok (.iload 5, 2) := by decide +kernel
theorem dX4_play_100 : decode cX4_play 100 = .ok (.getstatic 90, 3) := by decide +kernel
theorem dX4_play_103 : decode cX4_play 103 = .ok (.arraylength, 1) := by decide +kernel
theorem dX4_play_104 : decode cX4_play 104 = .ok (.if_icmp .ge 88, 3) := by decide +kernel
theorem dX4_play_107 : decode cX4_play 107 = .ok (.getstatic 90, 3) := by decide +kernel
theorem dX4_play_110 : decode cX4_play 110 = .ok (.iload 5, 2) := by decide +kernel
theorem dX4_play_112 : decode cX4_play 112 = .ok (.iaload, 1) := by decide +kernel
theorem dX4_play_113 : decode cX4_play 113 = .ok (.iconst 1, 1) := by decide +kernel
theorem dX4_play_114 : decode cX4_play 114 = .ok (.if_icmp .ne 10, 3) := by decide +kernel
theorem dX4_play_117 : decode cX4_play 117 = .ok (.aload_n 0, 1) := by decide +kernel
theorem dX4_play_118 : decode cX4_play 118 = .ok (.getfield 28, 3) := by decide +kernel
theorem dX4_play_121 : decode cX4_play 121 = .ok (.goto 4, 3) := by decide +kernel
theorem dX4_play_124 : decode cX4_play 124 = .ok (.iconst 0, 1) := by decide +kernel
theorem dX4_play_125 : decode cX4_play 125 = .ok (.istore 6, 2) := by decide +kernel
theorem dX4_play_127 : decode cX4_play 127 = .ok (.getstatic 90, 3) := by decide +kernel
theorem dX4_play_130 : decode cX4_play 130 = .ok (.iload 5, 2) := by decide +kernel
theorem dX4_play_132 : decode cX4_play 132 = .ok (.iaload, 1) := by decide +kernel
theorem dX4_play_133 : decode cX4_play 133 = .ok (.ifCond .ne 10, 3) := by decide +kernel
theorem dX4_play_136 : decode cX4_play 136 = .ok (.aload_n 0, 1) := by decide +kernel
theorem dX4_play_137 : decode cX4_play 137 = .ok (.getfield 28, 3) := by decide +kernel
theorem dX4_play_140 : decode cX4_play 140 = .ok (.goto 4, 3) := by decide +kernel
theorem dX4_play_143 : decode cX4_play 143 = .ok (.iconst 0, 1) := by decide +kernel
theorem dX4_play_144 : decode cX4_play 144 = .ok (.istore 7, 2) := by decide +kernel
theorem dX4_play_146 : decode cX4_play 146 = .ok (.aload_n 0, 1) := by decide +kernel
theorem dX4_play_147 : decode cX4_play 147 = .ok (.iload_n 1, 1) := by decide +kernel
theorem dX4_play_148 : decode cX4_play 148 = .ok (.iload_n 2, 1) := by decide +kernel
theorem dX4_play_149 : decode cX4_play 149 = .ok (.iload 6, 2) := by decide +kernel
theorem dX4_play_151 : decode cX4_play 151 = .ok (.ior, 1) := by decide +kernel
theorem dX4_play_152 : decode cX4_play 152 = .ok (.iload_n 3, 1) := by decide +kernel
theorem dX4_play_153 : decode cX4_play 153 = .ok (.iload 7, 2) := by decide +kernel
theorem dX4_play_155 : decode cX4_play 155 = .ok (.ior, 1) := by decide +kernel
theorem dX4_play_156 : decode cX4_play 156 = .ok (.invokevirtual 93, 3) := by decide +kernel
theorem dX4_play_159 : decode cX4_play 159 = .ok (.istore 8, 2) := by decide +kernel
theorem dX4_play_161 : decode cX4_play 161 = .ok (.iload 8, 2) := by decide +kernel
theorem dX4_play_163 : decode cX4_play 163 = .ok (.iload 4, 2) := by decide +kernel
theorem dX4_play_165 : decode cX4_play 165 = .ok (.if_icmp .le 21, 3) := by decide +kernel
theorem dX4_play_168 : decode cX4_play 168 = .ok (.iload 8, 2) := by decide +kernel
theorem dX4_play_170 : decode cX4_play 170 = .ok (.istore 4, 2) := by decide +kernel
theorem dX4_play_172 : decode cX4_play 172 = .ok (.iload_n 1, 1) := by decide +kernel
theorem dX4_play_173 : decode cX4_play 173 = .ok (.ifCond .ne 13, 3) := by decide +kernel
theorem dX4_play_176 : decode cX4_play 176 = .ok (.aload_n 0, 1) := by decide +kernel
theorem dX4_play_177 : decode cX4_play 177 = .ok (.getstatic 90, 3) := by decide +kernel
theorem dX4_play_180 : decode cX4_play 180 = .ok (.iload 5, 2) := by decide +kernel
theorem dX4_play_182 : decode cX4_play 182 = .ok (.iaload, 1) := by decide +kernel
theorem dX4_play_183 : decode cX4_play 183 = .ok (.putfield 97, 3) := by decide +kernel
theorem dX4_play_186 : decode cX4_play 186 = .ok (.iinc 5 1, 3) := by decide +kernel
theorem dX4_play_189 : decode cX4_play 189 = .ok (.goto (-91), 3) := by decide +kernel
theorem dX4_play_192 : decode cX4_play 192 = .ok (.iload 4, 2) := by decide +kernel
theorem dX4_play_194 : decode cX4_play 194 = .ok (.ireturn, 1) := by decide +kernel
theorem dX5_ask_0 : decode cX5_ask 0 = .ok (.aload_n 0, 1) := by decide +kernel
theorem dX5_ask_1 : decode cX5_ask 1 = .ok (.iconst 0, 1) := by decide +kernel
theorem dX5_ask_2 : decode cX5_ask 2 = .ok (.putfield 47, 3) := by decide +kernel
theorem dX5_ask_5 : decode cX5_ask 5 = .ok (.aload_n 0, 1) := by decide +kernel
theorem dX5_ask_6 : decode cX5_ask 6 = .ok (.iconst 0, 1) := by decide +kernel
theorem dX5_ask_7 : decode cX5_ask 7 = .ok (.putfield 50, 3) := by decide +kernel
theorem dX5_ask_10 : decode cX5_ask 10 = .ok (.iconst 0, 1) := by decide +kernel
theorem dX5_ask_11 : decode cX5_ask 11 = .ok (.istore_n 2, 1) := by decide +kernel
theorem dX5_ask_12 : decode cX5_ask 12 = .ok (.iload_n 2, 1) := by decide +kernel
theorem dX5_ask_13 : decode cX5_ask 13 = .ok (.aload_n 0, 1) := by decide +kernel
theorem dX5_ask_14 : decode cX5_ask 14 = .ok (.getfield 9, 3) := by decide +kernel
theorem dX5_ask_17 : decode cX5_ask 17 = .ok (.getfield 53, 3) := by decide +kernel
theorem dX5_ask_20 : decode cX5_ask 20 = .ok (.if_icmp .ge 140, 3) := by decide +kernel
theorem dX5_ask_23 : decode cX5_ask 23 = .ok (.iload_n 1, 1) := by decide +kernel
theorem dX5_ask_24 : decode cX5_ask 24 = .ok (.iload_n 2, 1) := by decide +kernel
theorem dX5_ask_25 : decode cX5_ask 25 = .ok (.ishr, 1) := by decide +kernel
theorem dX5_ask_26 : decode cX5_ask 26 = .ok (.iconst 1, 1) := by decide +kernel
theorem dX5_ask_27 : decode cX5_ask 27 = .ok (.iand, 1) := by decide +kernel
theorem dX5_ask_28 : decode cX5_ask 28 = .ok (.iconst 1, 1) := by decide +kernel
theorem dX5_ask_29 : decode cX5_ask 29 = .ok (.if_icmp .ne 125, 3) := by decide +kernel
theorem dX5_ask_32 : decode cX5_ask 32 = .ok (.aload_n 0, 1) := by decide +kernel
theorem dX5_ask_33 : decode cX5_ask 33 = .ok (.getfield 9, 3) := by decide +kernel
theorem dX5_ask_36 : decode cX5_ask 36 = .ok (.getfield 56, 3) := by decide +kernel
theorem dX5_ask_39 : decode cX5_ask 39 = .ok (.iload_n 2, 1) := by decide +kernel
theorem dX5_ask_40 : decode cX5_ask 40 = .ok (.iaload, 1) := by decide +kernel
theorem dX5_ask_41 : decode cX5_ask 41 = .ok (.istore_n 3, 1) := by decide +kernel
theorem dX5_ask_42 : decode cX5_ask 42 = .ok (.iload_n 3, 1) := by decide +kernel
theorem dX5_ask_43 : decode cX5_ask 43 = .ok (.ifCond .lt 25, 3) := by decide +kernel
theorem dX5_ask_46 : decode cX5_ask 46 = .ok (.iload_n 3, 1) := by decide +kernel
theorem dX5_ask_47 : decode cX5_ask 47 = .ok (.aload_n 0, 1) := by decide +kernel
theorem dX5_ask_48 : decode cX5_ask 48 = .ok (.getfield 15, 3) := by decide +kernel
theorem dX5_ask_51 : decode cX5_ask 51 = .ok (.arraylength, 1) := by decide +kernel
theorem dX5_ask_52 : decode cX5_ask 52 = .ok (.if_icmp .ge 16, 3) := by decide +kernel
theorem dX5_ask_55 : decode cX5_ask 55 = .ok (.aload_n 0, 1) := by decide +kernel
theorem dX5_ask_56 : decode cX5_ask 56 = .ok (.getfield 15, 3) := by decide +kernel
theorem dX5_ask_59 : decode cX5_ask 59 = .ok (.iload_n 3, 1) := by decide +kernel
theorem dX5_ask_60 : decode cX5_ask 60 = .ok (.aaload, 1) := by decide +kernel
theorem dX5_ask_61 : decode cX5_ask 61 = .ok (.ifnull 7, 3) := by decide +kernel
theorem dX5_ask_64 : decode cX5_ask 64 = .ok (.iconst 1, 1) := by decide +kernel
theorem dX5_ask_65 : decode cX5_ask 65 = .ok (.goto 4, 3) := by decide +kernel
theorem dX5_ask_68 : decode cX5_ask 68 = .ok (.iconst 0, 1) := by decide +kernel
theorem dX5_ask_69 : decode cX5_ask 69 = .ok (.istore 4, 2) := by decide +kernel
theorem dX5_ask_71 : decode cX5_ask 71 = .ok (.iload 4, 2) := by decide +kernel
theorem dX5_ask_73 : decode cX5_ask 73 = .ok (.ifCond .eq 17, 3) := by decide +kernel
theorem dX5_ask_76 : decode cX5_ask 76 = .ok (.aload_n 0, 1) := by decide +kernel
theorem dX5_ask_77 : decode cX5_ask 77 = .ok (.getfield 15, 3) := by decide +kernel
theorem dX5_ask_80 : decode cX5_ask 80 = .ok (.iload_n 3, 1) := by decide +kernel
theorem dX5_ask_81 : decode cX5_ask 81 = .ok (.aaload, 1) := by decide +kernel
theorem dX5_ask_82 : decode cX5_ask 82 = .ok (.iload_n 2, 1) := by decide +kernel
theorem dX5_ask_83 : decode cX5_ask 83 = .ok (.aload_n 0, 1) := by decide +kernel
theorem dX5_ask_84 : decode cX5_ask 84 = .ok (.invokevirtual 59, 3) := by decide +kernel
theorem dX5_ask_87 : decode cX5_ask 87 = .ok (.goto 4, 3) := by decide +kernel
theorem dX5_ask_90 : decode cX5_ask 90 = .ok (.iconst (-1), 1) := by decide +kernel
theorem dX5_ask_91 : decode cX5_ask 91 = .ok (.istore 5, 2) := by decide +kernel
theorem dX5_ask_93 : decode cX5_ask 93 = .ok (.iload 5, 2) := by decide +kernel
theorem dX5_ask_95 : decode cX5_ask 95 = .ok (.iconst (-1), 1) := by decide +kernel
theorem dX5_ask_96 : decode cX5_ask 96 = .ok (.if_icmp .ne 20, 3) := by decide +kernel
theorem dX5_ask_99 : decode cX5_ask 99 = .ok (.aload_n 0, 1) := by decide +kernel
theorem dX5_ask_100 : decode cX5_ask 100 = .ok (.getfield 9, 3) := by decide +kernel
theorem dX5_ask_103 : decode cX5_ask 103 = .ok (.iload_n 2, 1) := by decide +kernel
theorem dX5_ask_104 : decode cX5_ask 104 = .ok (.aload_n 0, 1) := by decide +kernel
theorem dX5_ask_105 : decode cX5_ask 105 = .ok (.getfield 30, 3) := by decide +kernel
theorem dX5_ask_108 : decode cX5_ask 108 = .ok (.invokevirtual 65, 3) := by decide +kernel
theorem dX5_ask_111 : decode cX5_ask 111 = .ok (.invokestatic 69, 3) := by decide +kernel
theorem dX5_ask_114 : decode cX5_ask 114 = .ok (.istore 5, 2) := by decide +kernel
theorem dX5_ask_116 : decode cX5_ask 116 = .ok (.iload 5, 2) := by decide +kernel
theorem dX5_ask_118 : decode cX5_ask 118 = .ok (.iconst 1, 1) := by decide +kernel
theorem dX5_ask_119 : decode cX5_ask 119 = .ok (.if_icmp .ne 18, 3) := by decide +kernel
theorem dX5_ask_122 : decode cX5_ask 122 = .ok (.aload_n 0, 1) := by decide +kernel
theorem dX5_ask_123 : decode cX5_ask 123 = .ok (.dup, 1) := by decide +kernel
theorem dX5_ask_124 : decode cX5_ask 124 = .ok (.getfield 47, 3) := by decide +kernel
theorem dX5_ask_127 : decode cX5_ask 127 = .ok (.iconst 1, 1) := by decide +kernel
theorem dX5_ask_128 : decode cX5_ask 128 = .ok (.iload_n 2, 1) := by decide +kernel
theorem dX5_ask_129 : decode cX5_ask 129 = .ok (.ishl, 1) := by decide +kernel
theorem dX5_ask_130 : decode cX5_ask 130 = .ok (.ior, 1) := by decide +kernel
theorem dX5_ask_131 : decode cX5_ask 131 = .ok (.putfield 47, 3) := by decide +kernel
theorem dX5_ask_134 : decode cX5_ask 134 = .ok (.goto 20, 3) := by decide +kernel
theorem dX5_ask_137 : decode cX5_ask 137 = .ok (.iload 5, 2) := by decide +kernel
theorem dX5_ask_139 : decode cX5_ask 139 = .ok (.ifCond .ne 15, 3) := by decide +kernel
theorem dX5_ask_142 : decode cX5_ask 142 = .ok (.aload_n 0, 1) := by decide +kernel
theorem dX5_ask_143 : decode cX5_ask 143 = .ok (.dup, 1) := by decide +kernel
theorem dX5_ask_144 : decode cX5_ask 144 = .ok (.getfield 50, 3) := by decide +kernel
theorem dX5_ask_147 : decode cX5_ask 147 = .ok (.iconst 1, 1) := by decide +kernel
theorem dX5_ask_148 : decode cX5_ask 148 = .ok (.iload_n 2, 1) := by decide +kernel
theorem dX5_ask_149 : decode cX5_ask 149 = .ok (.ishl, 1) := by decide +kernel
theorem dX5_ask_150 : decode cX5_ask 150 = .ok (.ior, 1) := by decide +kernel
theorem dX5_ask_151 : decode cX5_ask 151 = .ok (.putfield 50, 3) := by decide +kernel
theorem dX5_ask_154 : decode cX5_ask 154 = .ok (.iinc 2 1, 3) := by decide +kernel
theorem dX5_ask_157 : decode cX5_ask 157 = .ok (.goto (-145), 3) := by decide +kernel
theorem dX5_ask_160 : decode cX5_ask 160 = .ok (.return_, 1) := by decide +kernel
theorem dX5_bring_0 : decode cX5_bring 0 = .ok (.aload_n 0, 1) := by decide +kernel
theorem dX5_bring_1 : decode cX5_bring 1 = .ok (.aload_n 1, 1) := by decide +kernel
theorem dX5_bring_2 : decode cX5_bring 2 = .ok (.iload_n 2, 1) := by decide +kernel
theorem dX5_bring_3 : decode cX5_bring 3 = .ok (.iaload, 1) := by decide +kernel
theorem dX5_bring_4 : decode cX5_bring 4 = .ok (.putfield 30, 3) := by decide +kernel
theorem dX5_bring_7 : decode cX5_bring 7 = .ok (.aload_n 0, 1) := by decide +kernel
theorem dX5_bring_8 : decode cX5_bring 8 = .ok (.aload 4, 2) := by decide +kernel
theorem dX5_bring_10 : decode cX5_bring 10 = .ok (.putfield 25, 3) := by decide +kernel
theorem dX5_bring_13 : decode cX5_bring 13 = .ok (.aload_n 0, 1) := by decide +kernel
theorem dX5_bring_14 : decode cX5_bring 14 = .ok (.iload 5, 2) := by decide +kernel
theorem dX5_bring_16 : decode cX5_bring 16 = .ok (.putfield 34, 3) := by decide +kernel
theorem dX5_bring_19 : decode cX5_bring 19 = .ok (.aload_n 0, 1) := by decide +kernel
theorem dX5_bring_20 : decode cX5_bring 20 = .ok (.aload_n 1, 1) := by decide +kernel
theorem dX5_bring_21 : decode cX5_bring 21 = .ok (.putfield 29, 3) := by decide +kernel
theorem dX5_bring_24 : decode cX5_bring 24 = .ok (.aload_n 0, 1) := by decide +kernel
theorem dX5_bring_25 : decode cX5_bring 25 = .ok (.iload_n 2, 1) := by decide +kernel
theorem dX5_bring_26 : decode cX5_bring 26 = .ok (.iconst 1, 1) := by decide +kernel
theorem dX5_bring_27 : decode cX5_bring 27 = .ok (.iadd, 1) := by decide +kernel
theorem dX5_bring_28 : decode cX5_bring 28 = .ok (.putfield 37, 3) := by decide +kernel
theorem dX5_bring_31 : decode cX5_bring 31 = .ok (.aload_n 0, 1) := by decide +kernel
theorem dX5_bring_32 : decode cX5_bring 32 = .ok (.iload_n 3, 1) := by decide +kernel
theorem dX5_bring_33 : decode cX5_bring 33 = .ok (.putfield 40, 3) := by decide +kernel
theorem dX5_bring_36 : decode cX5_bring 36 = .ok (.aload_n 0, 1) := by decide +kernel
theorem dX5_bring_37 : decode cX5_bring 37 = .ok (.iconst 0, 1) := by decide +kernel
theorem dX5_bring_38 : decode cX5_bring 38 = .ok (.putfield 43, 3) := by decide +kernel
theorem dX5_bring_41 : decode cX5_bring 41 = .ok (.return_, 1) := by decide +kernel
theorem dX5_bringAlone_0 : decode cX5_bringAlone 0 = .ok (.aload_n 0, 1) := by decide +kernel
theorem dX5_bringAlone_1 : decode cX5_bringAlone 1 = .ok (.iload_n 1, 1) := by decide +kernel
theorem dX5_bringAlone_2 : decode cX5_bringAlone 2 = .ok (.putfield 30, 3) := by decide +kernel
theorem dX5_bringAlone_5 : decode cX5_bringAlone 5 = .ok (.aload_n 0, 1) := by decide +kernel
theorem dX5_bringAlone_6 : decode cX5_bringAlone 6 = .ok (.aload_n 2, 1) := by decide +kernel
theorem dX5_bringAlone_7 : decode cX5_bringAlone 7 = .ok (.putfield 25, 3) := by decide +kernel
theorem dX5_bringAlone_10 : decode cX5_bringAlone 10 = .ok (.aload_n 0, 1) := by decide +kernel
theorem dX5_bringAlone_11 : decode cX5_bringAlone 11 = .ok (.iload_n 3, 1) := by decide +kernel
theorem dX5_bringAlone_12 : decode cX5_bringAlone 12 = .ok (.putfield 34, 3) := by decide +kernel
theorem dX5_bringAlone_15 : decode cX5_bringAlone 15 = .ok (.aload_n 0, 1) := by decide +kernel
theorem dX5_bringAlone_16 : decode cX5_bringAlone 16 = .ok (.iconst 0, 1) := by decide +kernel
theorem dX5_bringAlone_17 : decode cX5_bringAlone 17 = .ok (.putfield 37, 3) := by decide +kernel
theorem dX5_bringAlone_20 : decode cX5_bringAlone 20 = .ok (.aload_n 0, 1) := by decide +kernel
theorem dX5_bringAlone_21 : decode cX5_bringAlone 21 = .ok (.iconst 0, 1) := by decide +kernel
theorem dX5_bringAlone_22 : decode cX5_bringAlone 22 = .ok (.putfield 40, 3) := by decide +kernel
theorem dX5_bringAlone_25 : decode cX5_bringAlone 25 = .ok (.aload_n 0, 1) := by decide +kernel
theorem dX5_bringAlone_26 : decode cX5_bringAlone 26 = .ok (.iconst 0, 1) := by decide +kernel
theorem dX5_bringAlone_27 : decode cX5_bringAlone 27 = .ok (.putfield 43, 3) := by decide +kernel
theorem dX5_bringAlone_30 : decode cX5_bringAlone 30 = .ok (.return_, 1) := by decide +kernel
theorem dX5_countedVoices_0 : decode cX5_countedVoices 0 = .ok (.aload_n 0, 1) := by decide +kernel
theorem dX5_countedVoices_1 : decode cX5_countedVoices 1 = .ok (.getfield 43, 3) := by decide +kernel
theorem dX5_countedVoices_4 : decode cX5_countedVoices 4 = .ok (.ifCond .ne 136, 3) := by decide +kernel
theorem dX5_countedVoices_7 : decode cX5_countedVoices 7 = .ok (.aload_n 0, 1) := by decide +kernel
theorem dX5_countedVoices_8 : decode cX5_countedVoices 8 = .ok (.iconst 1, 1) := by decide +kernel
theorem dX5_countedVoices_9 : decode cX5_countedVoices 9 = .ok (.putfield 43, 3) := by decide +kernel
theorem dX5_countedVoices_12 : decode cX5_countedVoices 12 = .ok (.aload_n 0, 1) := by decide +kernel
theorem dX5_countedVoices_13 : decode cX5_countedVoices 13 = .ok (.iconst 0, 1) := by decide +kernel
theorem dX5_countedVoices_14 : decode cX5_countedVoices 14 = .ok (.putfield 79, 3) := by decide +kernel
theorem dX5_countedVoices_17 : decode cX5_countedVoices 17 = .ok (.aload_n 0, 1) := by decide +kernel
theorem dX5_countedVoices_18 : decode cX5_countedVoices 18 = .ok (.iconst 0, 1) := by decide +kernel
theorem dX5_countedVoices_19 : decode cX5_countedVoices 19 = .ok (.putfield 82, 3) := by decide +kernel
theorem dX5_countedVoices_22 : decode cX5_countedVoices 22 = .ok (.aload_n 0, 1) := by decide +kernel
theorem dX5_countedVoices_23 : decode cX5_countedVoices 23 = .ok (.iconst 0, 1) := by decide +kernel
theorem dX5_countedVoices_24 : decode cX5_countedVoices 24 = .ok (.putfield 85, 3) := by decide +kernel
theorem dX5_countedVoices_27 : decode cX5_countedVoices 27 = .ok (.iconst 0, 1) := by decide +kernel
theorem dX5_countedVoices_28 : decode cX5_countedVoices 28 = .ok (.istore_n 2, 1) := by decide +kernel
theorem dX5_countedVoices_29 : decode cX5_countedVoices 29 = .ok (.iload_n 2, 1) := by decide +kernel
theorem dX5_countedVoices_30 : decode cX5_countedVoices 30 = .ok (.aload_n 0, 1) := by decide +kernel
theorem dX5_countedVoices_31 : decode cX5_countedVoices 31 = .ok (.getfield 9, 3) := by decide +kernel
theorem dX5_countedVoices_34 : decode cX5_countedVoices 34 = .ok (.getfield 53, 3) := by decide +kernel
theorem dX5_countedVoices_37 : decode cX5_countedVoices 37 = .ok (.if_icmp .ge 103, 3) := by decide +kernel
theorem dX5_countedVoices_40 : decode cX5_countedVoices 40 = .ok (.aload_n 0, 1) := by decide +kernel
theorem dX5_countedVoices_41 : decode cX5_countedVoices 41 = .ok (.getfield 9, 3) := by decide +kernel
theorem dX5_countedVoices_44 : decode cX5_countedVoices 44 = .ok (.getfield 88, 3) := by decide +kernel
theorem dX5_countedVoices_47 : decode cX5_countedVoices 47 = .ok (.iload_n 2, 1) := by decide +kernel
theorem dX5_countedVoices_48 : decode cX5_countedVoices 48 = .ok (.ishr, 1) := by decide +kernel
theorem dX5_countedVoices_49 : decode cX5_countedVoices 49 = .ok (.iconst 1, 1) := by decide +kernel
theorem dX5_countedVoices_50 : decode cX5_countedVoices 50 = .ok (.iand, 1) := by decide +kernel
theorem dX5_countedVoices_51 : decode cX5_countedVoices 51 = .ok (.iconst 1, 1) := by decide +kernel
theorem dX5_countedVoices_52 : decode cX5_countedVoices 52 = .ok (.if_icmp .ne 82, 3) := by decide +kernel
theorem dX5_countedVoices_55 : decode cX5_countedVoices 55 = .ok (.aload_n 0, 1) := by decide +kernel
theorem dX5_countedVoices_56 : decode cX5_countedVoices 56 = .ok (.getfield 9, 3) := by decide +kernel
theorem dX5_countedVoices_59 : decode cX5_countedVoices 59 = .ok (.getfield 91, 3) := by decide +kernel
theorem dX5_countedVoices_62 : decode cX5_countedVoices 62 = .ok (.aload_n 0, 1) := by decide +kernel
theorem dX5_countedVoices_63 : decode cX5_countedVoices 63 = .ok (.getfield 30, 3) := by decide +kernel
theorem dX5_countedVoices_66 : decode cX5_countedVoices 66 = .ok (.bipush 10, 2) := by decide +kernel
theorem dX5_countedVoices_68 : decode cX5_countedVoices 68 = .ok (.imul, 1) := by decide +kernel
theorem dX5_countedVoices_69 : decode cX5_countedVoices 69 = .ok (.iload_n 2, 1) := by decide +kernel
theorem dX5_countedVoices_70 : decode cX5_countedVoices 70 = .ok (.iadd, 1) := by decide +kernel
theorem dX5_countedVoices_71 : decode cX5_countedVoices 71 = .ok (.iaload, 1) := by decide +kernel
theorem dX5_countedVoices_72 : decode cX5_countedVoices 72 = .ok (.istore_n 3, 1) := by decide +kernel
theorem dX5_countedVoices_73 : decode cX5_countedVoices 73 = .ok (.aload_n 0, 1) := by decide +kernel
theorem dX5_countedVoices_74 : decode cX5_countedVoices 74 = .ok (.dup, 1) := by decide +kernel
theorem dX5_countedVoices_75 : decode cX5_countedVoices 75 = .ok (.getfield 79, 3) := by decide +kernel
theorem dX5_countedVoices_78 : decode cX5_countedVoices 78 = .ok (.aload_n 0, 1) := by decide +kernel
theorem dX5_countedVoices_79 : decode cX5_countedVoices 79 = .ok (.getfield 25, 3) := by decide +kernel
theorem dX5_countedVoices_82 : decode cX5_countedVoices 82 = .ok (.iload_n 2, 1) := by decide +kernel
theorem dX5_countedVoices_83 : decode cX5_countedVoices 83 = .ok (.iaload, 1) := by decide +kernel
theorem dX5_countedVoices_84 : decode cX5_countedVoices 84 = .ok (.iadd, 1) := by decide +kernel
theorem dX5_countedVoices_85 : decode cX5_countedVoices 85 = .ok (.putfield 79, 3) := by decide +kernel
theorem dX5_countedVoices_88 : decode cX5_countedVoices 88 = .ok (.aload_n 0, 1) := by decide +kernel
theorem dX5_countedVoices_89 : decode cX5_countedVoices 89 = .ok (.dup, 1) := by decide +kernel
theorem dX5_countedVoices_90 : decode cX5_countedVoices 90 = .ok (.getfield 82, 3) := by decide +kernel
theorem dX5_countedVoices_93 : decode cX5_countedVoices 93 = .ok (.iload_n 3, 1) := by decide +kernel
theorem dX5_countedVoices_94 : decode cX5_countedVoices 94 = .ok (.ifCond .le 12, 3) := by decide +kernel
theorem dX5_countedVoices_97 : decode cX5_countedVoices 97 = .ok (.aload_n 0, 1) := by decide +kernel
theorem dX5_countedVoices_98 : decode cX5_countedVoices 98 = .ok (.getfield 25, 3) := by decide +kernel
theorem dX5_countedVoices_101 : decode cX5_countedVoices 101 = .ok (.iload_n 2, 1) := by decide +kernel
theorem dX5_countedVoices_102 : decode cX5_countedVoices 102 = .ok (.iaload, 1) := by decide +kernel
theorem dX5_countedVoices_103 : decode cX5_countedVoices 103 = .ok (.goto 4, 3) := by decide +kernel
theorem dX5_countedVoices_106 : decode cX5_countedVoices 106 = .ok (.iconst 0, 1) := by decide +kernel
theorem dX5_countedVoices_107 : decode cX5_countedVoices 107 = .ok (.iadd, 1) := by decide +kernel
theorem dX5_countedVoices_108 : decode cX5_countedVoices 108 = .ok (.putfield 82, 3) := by decide +kernel
theorem dX5_countedVoices_111 : decode cX5_countedVoices 111 = .ok (.aload_n 0, 1) := by decide +kernel
theorem dX5_countedVoices_112 : decode cX5_countedVoices 112 = .ok (.dup, 1) := by decide +kernel
theorem dX5_countedVoices_113 : decode cX5_countedVoices 113 = .ok (.getfield 85, 3) := by decide +kernel
theorem dX5_countedVoices_116 : decode cX5_countedVoices 116 = .ok (.iload_n 3, 1) := by decide +kernel
theorem dX5_countedVoices_117 : decode cX5_countedVoices 117 = .ok (.ifCond .ge 12, 3) := by decide +kernel
theorem dX5_countedVoices_120 : decode cX5_countedVoices 120 = .ok (.aload_n 0, 1) := by decide +kernel
theorem dX5_countedVoices_121 : decode cX5_countedVoices 121 = .ok (.getfield 25, 3) := by decide +kernel
theorem dX5_countedVoices_124 : decode cX5_countedVoices 124 = .ok (.iload_n 2, 1) := by decide +kernel
theorem dX5_countedVoices_125 : decode cX5_countedVoices 125 = .ok (.iaload, 1) := by decide +kernel
theorem dX5_countedVoices_126 : decode cX5_countedVoices 126 = .ok (.goto 4, 3) := by decide +kernel
theorem dX5_countedVoices_129 : decode cX5_countedVoices 129 = .ok (.iconst 0, 1) := by decide +kernel
theorem dX5_countedVoices_130 : decode cX5_countedVoices 130 = .ok (.iadd, 1) := by decide +kernel
theorem dX5_countedVoices_131 : decode cX5_countedVoices 131 = .ok (.putfield 85, 3) := by decide +kernel
theorem dX5_countedVoices_134 : decode cX5_countedVoices 134 = .ok (.iinc 2 1, 3) := by decide +kernel
theorem dX5_countedVoices_137 : decode cX5_countedVoices 137 = .ok (.goto (-108), 3) := by decide +kernel
theorem dX5_countedVoices_140 : decode cX5_countedVoices 140 = .ok (.iload_n 1, 1) := by decide +kernel
theorem dX5_countedVoices_141 : decode cX5_countedVoices 141 = .ok (.iconst 4, 1) := by decide +kernel
theorem dX5_countedVoices_142 : decode cX5_countedVoices 142 = .ok (.if_icmp .ne 10, 3) := by decide +kernel
theorem dX5_countedVoices_145 : decode cX5_countedVoices 145 = .ok (.aload_n 0, 1) := by decide +kernel
theorem dX5_countedVoices_146 : decode cX5_countedVoices 146 = .ok (.getfield 79, 3) := by decide +kernel
theorem dX5_countedVoices_149 : decode cX5_countedVoices 149 = .ok (.goto 19, 3) := by decide +kernel
theorem dX5_countedVoices_152 : decode cX5_countedVoices 152 = .ok (.iload_n 1, 1) := by decide +kernel
theorem dX5_countedVoices_153 : decode cX5_countedVoices 153 = .ok (.iconst 5, 1) := by decide +kernel
theorem dX5_countedVoices_154 : decode cX5_countedVoices 154 = .ok (.if_icmp .ne 10, 3) := by decide +kernel
theorem dX5_countedVoices_157 : decode cX5_countedVoices 157 = .ok (.aload_n 0, 1) := by decide +kernel
theorem dX5_countedVoices_158 : decode cX5_countedVoices 158 = .ok (.getfield 82, 3) := by decide +kernel
theorem dX5_countedVoices_161 : decode cX5_countedVoices 161 = .ok (.goto 7, 3) := by decide +kernel
theorem dX5_countedVoices_164 : decode cX5_countedVoices 164 = .ok (.aload_n 0, 1) := by decide +kernel
theorem dX5_countedVoices_165 : decode cX5_countedVoices 165 = .ok (.getfield 85, 3) := by decide +kernel
theorem dX5_countedVoices_168 : decode cX5_countedVoices 168 = .ok (.ireturn, 1) := by decide +kernel
theorem dX5_grow_0 : decode cX5_grow 0 = .ok (.iconst 0, 1) := by decide +kernel
theorem dX5_grow_1 : decode cX5_grow 1 = .ok (.istore 4, 2) := by decide +kernel
theorem dX5_grow_3 : decode cX5_grow 3 = .ok (.iload 4, 2) := by decide +kernel
theorem dX5_grow_5 : decode cX5_grow 5 = .ok (.aload_n 0, 1) := by decide +kernel
theorem dX5_grow_6 : decode cX5_grow 6 = .ok (.getfield 9, 3) := by decide +kernel
theorem dX5_grow_9 : decode cX5_grow 9 = .ok (.getfield 53, 3) := by decide +kernel
theorem dX5_grow_12 : decode cX5_grow 12 = .ok (.if_icmp .ge 105, 3) := by decide +kernel
theorem dX5_grow_15 : decode cX5_grow 15 = .ok (.iload_n 2, 1) := by decide +kernel
theorem dX5_grow_16 : decode cX5_grow 16 = .ok (.iload 4, 2) := by decide +kernel
theorem dX5_grow_18 : decode cX5_grow 18 = .ok (.ishr, 1) := by decide +kernel
theorem dX5_grow_19 : decode cX5_grow 19 = .ok (.iconst 1, 1) := by decide +kernel
theorem dX5_grow_20 : decode cX5_grow 20 = .ok (.iand, 1) := by decide +kernel
theorem dX5_grow_21 : decode cX5_grow 21 = .ok (.iconst 1, 1) := by decide +kernel
theorem dX5_grow_22 : decode cX5_grow 22 = .ok (.if_icmp .ne 35, 3) := by decide +kernel
theorem dX5_grow_25 : decode cX5_grow 25 = .ok (.aload_n 1, 1) := by decide +kernel
theorem dX5_grow_26 : decode cX5_grow 26 = .ok (.iload 4, 2) := by decide +kernel
theorem dX5_grow_28 : decode cX5_grow 28 = .ok (.aload_n 0, 1) := by decide +kernel
theorem dX5_grow_29 : decode cX5_grow 29 = .ok (.getfield 9, 3) := by decide +kernel
theorem dX5_grow_32 : decode cX5_grow 32 = .ok (.getfield 105, 3) := by decide +kernel
theorem dX5_grow_35 : decode cX5_grow 35 = .ok (.iconst 2, 1) := by decide +kernel
theorem dX5_grow_36 : decode cX5_grow 36 = .ok (.if_icmp .ne 16, 3) := by decide +kernel
theorem dX5_grow_39 : decode cX5_grow 39 = .ok (.iconst 1, 1) := by decide +kernel
theorem dX5_grow_40 : decode cX5_grow 40 = .ok (.aload_n 1, 1) := by decide +kernel
theorem dX5_grow_41 : decode cX5_grow 41 = .ok (.iload 4, 2) := by decide +kernel
theorem dX5_grow_43 : decode cX5_grow 43 = .ok (.iaload, 1) := by decide +kernel
theorem dX5_grow_44 : decode cX5_grow 44 = .ok (.iconst 2, 1) := by decide +kernel
theorem dX5_grow_45 : decode cX5_grow 45 = .ok (.idiv, 1) := by decide +kernel
theorem dX5_grow_46 : decode cX5_grow 46 = .ok (.invokestatic 108, 3) := by decide +kernel
theorem dX5_grow_49 : decode cX5_grow 49 = .ok (.goto 4, 3) := by decide +kernel
theorem dX5_grow_52 : decode cX5_grow 52 = .ok (.iconst 1, 1) := by decide +kernel
theorem dX5_grow_53 : decode cX5_grow 53 = .ok (.iastore, 1) := by decide +kernel
theorem dX5_grow_54 : decode cX5_grow 54 = .ok (.goto 57, 3) := by decide +kernel
theorem dX5_grow_57 : decode cX5_grow 57 = .ok (.iload_n 3, 1) := by decide +kernel
theorem dX5_grow_58 : decode cX5_grow 58 = .ok (.iload 4, 2) := by decide +kernel
theorem dX5_grow_60 : decode cX5_grow 60 = .ok (.ishr, 1) := by decide +kernel
theorem dX5_grow_61 : decode cX5_grow 61 = .ok (.iconst 1, 1) := by decide +kernel
theorem dX5_grow_62 : decode cX5_grow 62 = .ok (.iand, 1) := by decide +kernel
theorem dX5_grow_63 : decode cX5_grow 63 = .ok (.iconst 1, 1) := by decide +kernel
theorem dX5_grow_64 : decode cX5_grow 64 = .ok (.if_icmp .ne 47, 3) := by decide +kernel
theorem dX5_grow_67 : decode cX5_grow 67 = .ok (.aload_n 0, 1) := by decide +kernel
theorem dX5_grow_68 : decode cX5_grow 68 = .ok (.getfield 9, 3) := by decide +kernel
theorem dX5_grow_71 : decode cX5_grow 71 = .ok (.getfield 105, 3) := by decide +kernel
theorem dX5_grow_74 : decode cX5_grow 74 = .ok (.iconst 1, 1) := by decide +kernel
theorem dX5_grow_75 : decode cX5_grow 75 = .ok (.if_icmp .ne 12, 3) := by decide +kernel
theorem dX5_grow_78 : decode cX5_grow 78 = .ok (.iconst 2, 1) := by decide +kernel
theorem dX5_grow_79 : decode cX5_grow 79 = .ok (.aload_n 1, 1) := by decide +kernel
theorem dX5_grow_80 : decode cX5_grow 80 = .ok (.iload 4, 2) := by decide +kernel
theorem dX5_grow_82 : decode cX5_grow 82 = .ok (.iaload, 1) := by decide +kernel
theorem dX5_grow_83 : decode cX5_grow 83 = .ok (.imul, 1) := by decide +kernel
theorem dX5_grow_84 : decode cX5_grow 84 = .ok (.goto 9, 3) := by decide +kernel
theorem dX5_grow_87 : decode cX5_grow 87 = .ok (.aload_n 1, 1) := by decide +kernel
theorem dX5_grow_88 : decode cX5_grow 88 = .ok (.iload 4, 2) := by decide +kernel
theorem dX5_grow_90 : decode cX5_grow 90 = .ok (.iaload, 1) := by decide +kernel
theorem dX5_grow_91 : decode cX5_grow 91 = .ok (.iconst 1, 1) := by decide +kernel
theorem dX5_grow_92 : decode cX5_grow 92 = .ok (.iadd, 1) := by decide +kernel
theorem dX5_grow_93 : decode cX5_grow 93 = .ok (.istore 5, 2) := by decide +kernel
theorem dX5_grow_95 : decode cX5_grow 95 = .ok (.aload_n 1, 1) := by decide +kernel
theorem dX5_grow_96 : decode cX5_grow 96 = .ok (.iload 4, 2) := by decide +kernel
theorem dX5_grow_98 : decode cX5_grow 98 = .ok (.aload_n 0, 1) := by decide +kernel
theorem dX5_grow_99 : decode cX5_grow 99 = .ok (.getfield 9, 3) := by decide +kernel
theorem dX5_grow_102 : decode cX5_grow 102 = .ok (.getfield 113, 3) := by decide +kernel
theorem dX5_grow_105 : decode cX5_grow 105 = .ok (.iload 5, 2) := by decide +kernel
theorem dX5_grow_107 : decode cX5_grow 107 = .ok (.invokestatic 116, 3) := by decide +kernel
theorem dX5_grow_110 : decode cX5_grow 110 = .ok (.iastore, 1) := by decide +kernel
theorem dX5_grow_111 : decode cX5_grow 111 = .ok (.iinc 4 1, 3) := by decide +kernel
theorem dX5_grow_114 : decode cX5_grow 114 = .ok (.goto (-111), 3) := by decide +kernel
theorem dX5_grow_117 : decode cX5_grow 117 = .ok (.return_, 1) := by decide +kernel
theorem dX5_hold_0 : decode cX5_hold 0 = .ok (.aload_n 0, 1) := by decide +kernel
theorem dX5_hold_1 : decode cX5_hold 1 = .ok (.aload_n 1, 1) := by decide +kernel
theorem dX5_hold_2 : decode cX5_hold 2 = .ok (.iload_n 2, 1) := by decide +kernel
theorem dX5_hold_3 : decode cX5_hold 3 = .ok (.iload_n 3, 1) := by decide +kernel
theorem dX5_hold_4 : decode cX5_hold 4 = .ok (.invokevirtual 94, 3) := by decide +kernel
theorem dX5_hold_7 : decode cX5_hold 7 = .ok (.istore 4, 2) := by decide +kernel
theorem dX5_hold_9 : decode cX5_hold 9 = .ok (.aload_n 0, 1) := by decide +kernel
theorem dX5_hold_10 : decode cX5_hold 10 = .ok (.iload 4, 2) := by decide +kernel
theorem dX5_hold_12 : decode cX5_hold 12 = .ok (.ifCond .le 7, 3) := by decide +kernel
theorem dX5_hold_15 : decode cX5_hold 15 = .ok (.iload_n 2, 1) := by decide +kernel
theorem dX5_hold_16 : decode cX5_hold 16 = .ok (.goto 13, 3) := by decide +kernel
theorem dX5_hold_19 : decode cX5_hold 19 = .ok (.iload 4, 2) := by decide +kernel
theorem dX5_hold_21 : decode cX5_hold 21 = .ok (.ifCond .ge 7, 3) := by decide +kernel
theorem dX5_hold_24 : decode cX5_hold 24 = .ok (.iload_n 3, 1) := by decide +kernel
theorem dX5_hold_25 : decode cX5_hold 25 = .ok (.goto 4, 3) := by decide +kernel
theorem dX5_hold_28 : decode cX5_hold 28 = .ok (.iconst 0, 1) := by decide +kernel
theorem dX5_hold_29 : decode cX5_hold 29 = .ok (.putfield 98, 3) := by decide +kernel
theorem dX5_hold_32 : decode cX5_hold 32 = .ok (.aload_n 0, 1) := by decide +kernel
theorem dX5_hold_33 : decode cX5_hold 33 = .ok (.aload_n 1, 1) := by decide +kernel
theorem dX5_hold_34 : decode cX5_hold 34 = .ok (.aload_n 0, 1) := by decide +kernel
theorem dX5_hold_35 : decode cX5_hold 35 = .ok (.getfield 98, 3) := by decide +kernel
theorem dX5_hold_38 : decode cX5_hold 38 = .ok (.iload_n 2, 1) := by decide +kernel
theorem dX5_hold_39 : decode cX5_hold 39 = .ok (.iload_n 3, 1) := by decide +kernel
theorem dX5_hold_40 : decode cX5_hold 40 = .ok (.ior, 1) := by decide +kernel
theorem dX5_hold_41 : decode cX5_hold 41 = .ok (.aload_n 0, 1) := by decide +kernel
theorem dX5_hold_42 : decode cX5_hold 42 = .ok (.getfield 98, 3) := by decide +kernel
theorem dX5_hold_45 : decode cX5_hold 45 = .ok (.iconst (-1), 1) := by decide +kernel
theorem dX5_hold_46 : decode cX5_hold 46 = .ok (.ixor, 1) := by decide +kernel
theorem dX5_hold_47 : decode cX5_hold 47 = .ok (.iand, 1) := by decide +kernel
theorem dX5_hold_48 : decode cX5_hold 48 = .ok (.invokevirtual 101, 3) := by decide +kernel
theorem dX5_hold_51 : decode cX5_hold 51 = .ok (.iload 4, 2) := by decide +kernel
theorem dX5_hold_53 : decode cX5_hold 53 = .ok (.ifCond .le 7, 3) := by decide +kernel
theorem dX5_hold_56 : decode cX5_hold 56 = .ok (.iconst 1, 1) := by decide +kernel
theorem dX5_hold_57 : decode cX5_hold 57 = .ok (.goto 13, 3) := by decide +kernel
theorem dX5_hold_60 : decode cX5_hold 60 = .ok (.iload 4, 2) := by decide +kernel
theorem dX5_hold_62 : decode cX5_hold 62 = .ok (.ifCond .ge 7, 3) := by decide +kernel
theorem dX5_hold_65 : decode cX5_hold 65 = .ok (.iconst 0, 1) := by decide +kernel
theorem dX5_hold_66 : decode cX5_hold 66 = .ok (.goto 4, 3) := by decide +kernel
theorem dX5_hold_69 : decode cX5_hold 69 = .ok (.iconst 2, 1) := by decide +kernel
theorem dX5_hold_70 : decode cX5_hold 70 = .ok (.ireturn, 1) := by decide +kernel
theorem dX5_holdForGood_0 : decode cX5_holdForGood 0 = .ok (.aload_n 0, 1) := by decide +kernel
theorem dX5_holdForGood_1 : decode cX5_holdForGood 1 = .ok (.aload_n 0, 1) := by decide +kernel
theorem dX5_holdForGood_2 : decode cX5_holdForGood 2 = .ok (.getfield 9, 3) := by decide +kernel
theorem dX5_holdForGood_5 : decode cX5_holdForGood 5 = .ok (.getfield 19, 3) := by decide +kernel
theorem dX5_holdForGood_8 : decode cX5_holdForGood 8 = .ok (.iload_n 1, 1) := by decide +kernel
theorem dX5_holdForGood_9 : decode cX5_holdForGood 9 = .ok (.iload_n 2, 1) := by decide +kernel
theorem dX5_holdForGood_10 : decode cX5_holdForGood 10 = .ok (.invokevirtual 119, 3) := by decide +kernel
theorem dX5_holdForGood_13 : decode cX5_holdForGood 13 = .ok (.istore_n 3, 1) := by decide +kernel
theorem dX5_holdForGood_14 : decode cX5_holdForGood 14 = .ok (.iconst 0, 1) := by decide +kernel
theorem dX5_holdForGood_15 : decode cX5_holdForGood 15 = .ok (.istore 4, 2) := by decide +kernel
theorem dX5_holdForGood_17 : decode cX5_holdForGood 17 = .ok (.iload 4, 2) := by decide +kernel
theorem dX5_holdForGood_19 : decode cX5_holdForGood 19 = .ok (.aload_n 0, 1) := by decide +kernel
theorem dX5_holdForGood_20 : decode cX5_holdForGood 20 = .ok (.getfield 9, 3) := by decide +kernel
theorem dX5_holdForGood_23 : decode cX5_holdForGood 23 = .ok (.getfield 53, 3) := by decide +kernel
theorem dX5_holdForGood_26 : decode cX5_holdForGood 26 = .ok (.if_icmp .ge 65, 3) := by decide +kernel
theorem dX5_holdForGood_29 : decode cX5_holdForGood 29 = .ok (.aload_n 0, 1) := by decide +kernel
theorem dX5_holdForGood_30 : decode cX5_holdForGood 30 = .ok (.getfield 98, 3) := by decide +kernel
theorem dX5_holdForGood_33 : decode cX5_holdForGood 33 = .ok (.iload 4, 2) := by decide +kernel
theorem dX5_holdForGood_35 : decode cX5_holdForGood 35 = .ok (.ishr, 1) := by decide +kernel
theorem dX5_holdForGood_36 : decode cX5_holdForGood 36 = .ok (.iconst 1, 1) := by decide +kernel
theorem dX5_holdForGood_37 : decode cX5_holdForGood 37 = .ok (.iand, 1) := by decide +kernel
theorem dX5_holdForGood_38 : decode cX5_holdForGood 38 = .ok (.iconst 1, 1) := by decide +kernel
theorem dX5_holdForGood_39 : decode cX5_holdForGood 39 = .ok (.if_icmp .ne 20, 3) := by decide +kernel
theorem dX5_holdForGood_42 : decode cX5_holdForGood 42 = .ok (.aload_n 0, 1) := by decide +kernel
theorem dX5_holdForGood_43 : decode cX5_holdForGood 43 = .ok (.getfield 9, 3) := by decide +kernel
theorem dX5_holdForGood_46 : decode cX5_holdForGood 46 = .ok (.getfield 122, 3) := by decide +kernel
theorem dX5_holdForGood_49 : decode cX5_holdForGood 49 = .ok (.iload 4, 2) := by decide +kernel
theorem dX5_holdForGood_51 : decode cX5_holdForGood 51 = .ok (.dup2, 1) := by decide +kernel
theorem dX5_holdForGood_52 : decode cX5_holdForGood 52 = .ok (.iaload, 1) := by decide +kernel
theorem dX5_holdForGood_53 : decode cX5_holdForGood 53 = .ok (.iconst 1, 1) := by decide +kernel
theorem dX5_holdForGood_54 : decode cX5_holdForGood 54 = .ok (.iadd, 1) := by decide +kernel
theorem dX5_holdForGood_55 : decode cX5_holdForGood 55 = .ok (.iastore, 1) := by decide +kernel
theorem dX5_holdForGood_56 : decode cX5_holdForGood 56 = .ok (.goto 29, 3) := by decide +kernel
theorem dX5_holdForGood_59 : decode cX5_holdForGood 59 = .ok (.iload_n 1, 1) := by decide +kernel
theorem dX5_holdForGood_60 : decode cX5_holdForGood 60 = .ok (.iload_n 2, 1) := by decide +kernel
theorem dX5_holdForGood_61 : decode cX5_holdForGood 61 = .ok (.ior, 1) := by decide +kernel
theorem dX5_holdForGood_62 : decode cX5_holdForGood 62 = .ok (.iload 4, 2) := by decide +kernel
theorem dX5_holdForGood_64 : decode cX5_holdForGood 64 = .ok (.ishr, 1) := by decide +kernel
theorem dX5_holdForGood_65 : decode cX5_holdForGood 65 = .ok (.iconst 1, 1) := by decide +kernel
theorem dX5_holdForGood_66 : decode cX5_holdForGood 66 = .ok (.iand, 1) := by decide +kernel
theorem dX5_holdForGood_67 : decode cX5_holdForGood 67 = .ok (.iconst 1, 1) := by decide +kernel
theorem dX5_holdForGood_68 : decode cX5_holdForGood 68 = .ok (.if_icmp .ne 17, 3) := by decide +kernel
theorem dX5_holdForGood_71 : decode cX5_holdForGood 71 = .ok (.aload_n 0, 1) := by decide +kernel
theorem dX5_holdForGood_72 : decode cX5_holdForGood 72 = .ok (.getfield 9, 3) := by decide +kernel
theorem dX5_holdForGood_75 : decode cX5_holdForGood 75 = .ok (.getfield 125, 3) := by decide +kernel
theorem dX5_holdForGood_78 : decode cX5_holdForGood 78 = .ok (.iload 4, 2) := by decide +kernel
theorem dX5_holdForGood_80 : decode cX5_holdForGood 80 = .ok (.dup2, 1) := by decide +kernel
theorem dX5_holdForGood_81 : decode cX5_holdForGood 81 = .ok (.iaload, 1) := by decide +kernel
theorem dX5_holdForGood_82 : decode cX5_holdForGood 82 = .ok (.iconst 1, 1) := by decide +kernel
theorem dX5_holdForGood_83 : decode cX5_holdForGood 83 = .ok (.iadd, 1) := by decide +kernel
theorem dX5_holdForGood_84 : decode cX5_holdForGood 84 = .ok (.iastore, 1) := by decide +kernel
theorem dX5_holdForGood_85 : decode cX5_holdForGood 85 = .ok (.iinc 4 1, 3) := by decide +kernel
theorem dX5_holdForGood_88 : decode cX5_holdForGood 88 = .ok (.goto (-71), 3) := by decide +kernel
theorem dX5_holdForGood_91 : decode cX5_holdForGood 91 = .ok (.aload_n 0, 1) := by decide +kernel
theorem dX5_holdForGood_92 : decode cX5_holdForGood 92 = .ok (.getfield 9, 3) := by decide +kernel
theorem dX5_holdForGood_95 : decode cX5_holdForGood 95 = .ok (.dup, 1) := by decide +kernel
theorem dX5_holdForGood_96 : decode cX5_holdForGood 96 = .ok (.getfield 128, 3) := by decide +kernel
theorem dX5_holdForGood_99 : decode cX5_holdForGood 99 = .ok (.iconst 1, 1) := by decide +kernel
theorem dX5_holdForGood_100 : decode cX5_holdForGood 100 = .ok (.iadd, 1) := by decide +kernel
theorem dX5_holdForGood_101 : decode cX5_holdForGood 101 = .ok (.putfield 128, 3) := by decide +kernel
theorem dX5_holdForGood_104 : decode cX5_holdForGood 104 = .ok (.iload_n 3, 1) := by decide +kernel
theorem dX5_holdForGood_105 : decode cX5_holdForGood 105 = .ok (.ireturn, 1) := by decide +kernel
theorem dX5_init_0 : decode cX5_init 0 = .ok (.aload_n 0, 1) := by decide +kernel
theorem dX5_init_1 : decode cX5_init 1 = .ok (.invokespecial 3, 3) := by decide +kernel
theorem dX5_init_4 : decode cX5_init 4 = .ok (.aload_n 0, 1) := by decide +kernel
theorem dX5_init_5 : decode cX5_init 5 = .ok (.aload_n 1, 1) := by decide +kernel
theorem dX5_init_6 : decode cX5_init 6 = .ok (.putfield 9, 3) := by decide +kernel
theorem dX5_init_9 : decode cX5_init 9 = .ok (.aload_n 0, 1) := by decide +kernel
theorem dX5_init_10 : decode cX5_init 10 = .ok (.aload_n 2, 1) := by decide +kernel
theorem dX5_init_11 : decode cX5_init 11 = .ok (.putfield 15, 3) := by decide +kernel
theorem dX5_init_14 : decode cX5_init 14 = .ok (.aload_n 0, 1) := by decide +kernel
theorem dX5_init_15 : decode cX5_init 15 = .ok (.aload_n 1, 1) := by decide +kernel
theorem dX5_init_16 : decode cX5_init 16 = .ok (.getfield 19, 3) := by decide +kernel
theorem dX5_init_19 : decode cX5_init 19 = .ok (.putfield 25, 3) := by decide +kernel
theorem dX5_init_22 : decode cX5_init 22 = .ok (.aload_n 0, 1) := by decide +kernel
theorem dX5_init_23 : decode cX5_init 23 = .ok (.aload_n 1, 1) := by decide +kernel
theorem dX5_init_24 : decode cX5_init 24 = .ok (.getfield 26, 3) := by decide +kernel
theorem dX5_init_27 : decode cX5_init 27 = .ok (.putfield 29, 3) := by decide +kernel
theorem dX5_init_30 : decode cX5_init 30 = .ok (.return_, 1) := by decide +kernel
theorem dX5_lead_0 : decode cX5_lead 0 = .ok (.iconst 0, 1) := by decide +kernel
theorem dX5_lead_1 : decode cX5_lead 1 = .ok (.istore 4, 2) := by decide +kernel
theorem dX5_lead_3 : decode cX5_lead 3 = .ok (.iconst 0, 1) := by decide +kernel
theorem dX5_lead_4 : decode cX5_lead 4 = .ok (.istore 5, 2) := by decide +kernel
theorem dX5_lead_6 : decode cX5_lead 6 = .ok (.iload 5, 2) := by decide +kernel
theorem dX5_lead_8 : decode cX5_lead 8 = .ok (.aload_n 0, 1) := by decide +kernel
theorem dX5_lead_9 : decode cX5_lead 9 = .ok (.getfield 9, 3) := by decide +kernel
theorem dX5_lead_12 : decode cX5_lead 12 = .ok (.getfield 53, 3) := by decide +kernel
theorem dX5_lead_15 : decode cX5_lead 15 = .ok (.if_icmp .ge 50, 3) := by decide +kernel
theorem dX5_lead_18 : decode cX5_lead 18 = .ok (.iload_n 2, 1) := by decide +kernel
theorem dX5_lead_19 : decode cX5_lead 19 = .ok (.iload 5, 2) := by decide +kernel
theorem dX5_lead_21 : decode cX5_lead 21 = .ok (.ishr, 1) := by decide +kernel
theorem dX5_lead_22 : decode cX5_lead 22 = .ok (.iconst 1, 1) := by decide +kernel
theorem dX5_lead_23 : decode cX5_lead 23 = .ok (.iand, 1) := by decide +kernel
theorem dX5_lead_24 : decode cX5_lead 24 = .ok (.iconst 1, 1) := by decide +kernel
theorem dX5_lead_25 : decode cX5_lead 25 = .ok (.if_icmp .ne 15, 3) := by decide +kernel
theorem dX5_lead_28 : decode cX5_lead 28 = .ok (.iload 4, 2) := by decide +kernel
theorem dX5_lead_30 : decode cX5_lead 30 = .ok (.aload_n 1, 1) := by decide +kernel
theorem dX5_lead_31 : decode cX5_lead 31 = .ok (.iload 5, 2) := by decide +kernel
theorem dX5_lead_33 : decode cX5_lead 33 = .ok (.iaload, 1) := by decide +kernel
theorem dX5_lead_34 : decode cX5_lead 34 = .ok (.iadd, 1) := by decide +kernel
theorem dX5_lead_35 : decode cX5_lead 35 = .ok (.istore 4, 2) := by decide +kernel
theorem dX5_lead_37 : decode cX5_lead 37 = .ok (.goto 22, 3) := by decide +kernel
theorem dX5_lead_40 : decode cX5_lead 40 = .ok (.iload_n 3, 1) := by decide +kernel
theorem dX5_lead_41 : decode cX5_lead 41 = .ok (.iload 5, 2) := by decide +kernel
theorem dX5_lead_43 : decode cX5_lead 43 = .ok (.ishr, 1) := by decide +kernel
theorem dX5_lead_44 : decode cX5_lead 44 = .ok (.iconst 1, 1) := by decide +kernel
theorem dX5_lead_45 : decode cX5_lead 45 = .ok (.iand, 1) := by decide +kernel
theorem dX5_lead_46 : decode cX5_lead 46 = .ok (.iconst 1, 1) := by decide +kernel
theorem dX5_lead_47 : decode cX5_lead 47 = .ok (.if_icmp .ne 12, 3) := by decide +kernel
theorem dX5_lead_50 : decode cX5_lead 50 = .ok (.iload 4, 2) := by decide +kernel
theorem dX5_lead_52 : decode cX5_lead 52 = .ok (.aload_n 1, 1) := by decide +kernel
theorem dX5_lead_53 : decode cX5_lead 53 = .ok (.iload 5, 2) := by decide +kernel
theorem dX5_lead_55 : decode cX5_lead 55 = .ok (.iaload, 1) := by decide +kernel
theorem dX5_lead_56 : decode cX5_lead 56 = .ok (.isub, 1) := by decide +kernel
theorem dX5_lead_57 : decode cX5_lead 57 = .ok (.istore 4, 2) := by decide +kernel
theorem dX5_lead_59 : decode cX5_lead 59 = .ok (.iinc 5 1, 3) := by decide +kernel
theorem dX5_lead_62 : decode cX5_lead 62 = .ok (.goto (-56), 3) := by decide +kernel
theorem dX5_lead_65 : decode cX5_lead 65 = .ok (.iload 4, 2) := by decide +kernel
theorem dX5_lead_67 : decode cX5_lead 67 = .ok (.ireturn, 1) := by decide +kernel
theorem dX5_mostBehind_0 : decode cX5_mostBehind 0 = .ok (.iconst 0, 1) := by decide +kernel
theorem dX5_mostBehind_1 : decode cX5_mostBehind 1 = .ok (.istore_n 2, 1) := by decide +kernel
theorem dX5_mostBehind_2 : decode cX5_mostBehind 2 = .ok (.aload_n 0, 1) := by decide +kernel
theorem dX5_mostBehind_3 : decode cX5_mostBehind 3 = .ok (.getfield 37, 3) := by decide +kernel
theorem dX5_mostBehind_6 : decode cX5_mostBehind 6 = .ok (.istore_n 3, 1) := by decide +kernel
theorem dX5_mostBehind_7 : decode cX5_mostBehind 7 = .ok (.iload_n 3, 1) := by decide +kernel
theorem dX5_mostBehind_8 : decode cX5_mostBehind 8 = .ok (.aload_n 0, 1) := by decide +kernel
theorem dX5_mostBehind_9 : decode cX5_mostBehind 9 = .ok (.getfield 40, 3) := by decide +kernel
theorem dX5_mostBehind_12 : decode cX5_mostBehind 12 = .ok (.if_icmp .ge 58, 3) := by decide +kernel
theorem dX5_mostBehind_15 : decode cX5_mostBehind 15 = .ok (.aload_n 0, 1) := by decide +kernel
theorem dX5_mostBehind_16 : decode cX5_mostBehind 16 = .ok (.getfield 9, 3) := by decide +kernel
theorem dX5_mostBehind_19 : decode cX5_mostBehind 19 = .ok (.getfield 91, 3) := by decide +kernel
theorem dX5_mostBehind_22 : decode cX5_mostBehind 22 = .ok (.aload_n 0, 1) := by decide +kernel
theorem dX5_mostBehind_23 : decode cX5_mostBehind 23 = .ok (.getfield 29, 3) := by decide +kernel
theorem dX5_mostBehind_26 : decode cX5_mostBehind 26 = .ok (.iload_n 3, 1) := by decide +kernel
theorem dX5_mostBehind_27 : decode cX5_mostBehind 27 = .ok (.iaload, 1) := by decide +kernel
theorem dX5_mostBehind_28 : decode cX5_mostBehind 28 = .ok (.bipush 10, 2) := by decide +kernel
theorem dX5_mostBehind_30 : decode cX5_mostBehind 30 = .ok (.imul, 1) := by decide +kernel
theorem dX5_mostBehind_31 : decode cX5_mostBehind 31 = .ok (.iload_n 1, 1) := by decide +kernel
theorem dX5_mostBehind_32 : decode cX5_mostBehind 32 = .ok (.iadd, 1) := by decide +kernel
theorem dX5_mostBehind_33 : decode cX5_mostBehind 33 = .ok (.iaload, 1) := by decide +kernel
theorem dX5_mostBehind_34 : decode cX5_mostBehind 34 = .ok (.istore 4, 2) := by decide +kernel
theorem dX5_mostBehind_36 : decode cX5_mostBehind 36 = .ok (.iload 4, 2) := by decide +kernel
theorem dX5_mostBehind_38 : decode cX5_mostBehind 38 = .ok (.ifCond .ge 9, 3) := by decide +kernel
theorem dX5_mostBehind_41 : decode cX5_mostBehind 41 = .ok (.iload 4, 2) := by decide +kernel
theorem dX5_mostBehind_43 : decode cX5_mostBehind 43 = .ok (.ineg, 1) := by decide +kernel
theorem dX5_mostBehind_44 : decode cX5_mostBehind 44 = .ok (.goto 5, 3) := by decide +kernel
theorem dX5_mostBehind_47 : decode cX5_mostBehind 47 = .ok (.iload 4, 2) := by decide +kernel
theorem dX5_mostBehind_49 : decode cX5_mostBehind 49 = .ok (.istore 5, 2) := by decide +kernel
theorem dX5_mostBehind_51 : decode cX5_mostBehind 51 = .ok (.iload 5, 2) := by decide +kernel
theorem dX5_mostBehind_53 : decode cX5_mostBehind 53 = .ok (.iload_n 2, 1) := by decide +kernel
theorem dX5_mostBehind_54 : decode cX5_mostBehind 54 = .ok (.if_icmp .le 8, 3) := by decide +kernel
theorem dX5_mostBehind_57 : decode cX5_mostBehind 57 = .ok (.iload 5, 2) := by decide +kernel
theorem dX5_mostBehind_59 : decode cX5_mostBehind 59 = .ok (.goto 4, 3) := by decide +kernel
theorem dX5_mostBehind_62 : decode cX5_mostBehind 62 = .ok (.iload_n 2, 1) := by decide +kernel
theorem dX5_mostBehind_63 : decode cX5_mostBehind 63 = .ok (.istore_n 2, 1) := by decide +kernel
theorem dX5_mostBehind_64 : decode cX5_mostBehind 64 = .ok (.iinc 3 1, 3) := by decide +kernel
theorem dX5_mostBehind_67 : decode cX5_mostBehind 67 = .ok (.goto (-60), 3) := by decide +kernel
theorem dX5_mostBehind_70 : decode cX5_mostBehind 70 = .ok (.iload_n 2, 1) := by decide +kernel
theorem dX5_mostBehind_71 : decode cX5_mostBehind 71 = .ok (.ireturn, 1) := by decide +kernel
theorem dX5_trueSaying_0 : decode cX5_trueSaying 0 = .ok (.iload_n 0, 1) := by decide +kernel
theorem dX5_trueSaying_1 : decode cX5_trueSaying 1 = .ok (.ifCond .le 7, 3) := by decide +kernel
theorem dX5_trueSaying_4 : decode cX5_trueSaying 4 = .ok (.iconst 1, 1) := by decide +kernel
theorem dX5_trueSaying_5 : decode cX5_trueSaying 5 = .ok (.goto 12, 3) := by decide +kernel
theorem dX5_trueSaying_8 : decode cX5_trueSaying 8 = .ok (.iload_n 0, 1) := by decide +kernel
theorem dX5_trueSaying_9 : decode cX5_trueSaying 9 = .ok (.ifCond .ge 7, 3) := by decide +kernel
theorem dX5_trueSaying_12 : decode cX5_trueSaying 12 = .ok (.iconst 0, 1) := by decide +kernel
theorem dX5_trueSaying_13 : decode cX5_trueSaying 13 = .ok (.goto 4, 3) := by decide +kernel
theorem dX5_trueSaying_16 : decode cX5_trueSaying 16 = .ok (.iconst 2, 1) := by decide +kernel
theorem dX5_trueSaying_17 : decode cX5_trueSaying 17 = .ok (.ireturn, 1) := by decide +kernel
theorem dX5_wordOf_0 : decode cX5_wordOf 0 = .ok (.iload_n 1, 1) := by decide +kernel
theorem dX5_wordOf_1 : decode cX5_wordOf 1 = .ok (.tableswitch 122 0 8 #[51, 54, 60, 74, 82, 82, 82, 89, 96], 51) := by decide +kernel
theorem dX5_wordOf_52 : decode cX5_wordOf 52 = .ok (.iload_n 2, 1) := by decide +kernel
theorem dX5_wordOf_53 : decode cX5_wordOf 53 = .ok (.i2l, 1) := by decide +kernel
theorem dX5_wordOf_54 : decode cX5_wordOf 54 = .ok (.lreturn, 1) := by decide +kernel
theorem dX5_wordOf_55 : decode cX5_wordOf 55 = .ok (.aload_n 0, 1) := by decide +kernel
theorem dX5_wordOf_56 : decode cX5_wordOf 56 = .ok (.getfield 30, 3) := by decide +kernel
theorem dX5_wordOf_59 : decode cX5_wordOf 59 = .ok (.i2l, 1) := by decide +kernel
theorem dX5_wordOf_60 : decode cX5_wordOf 60 = .ok (.lreturn, 1) := by decide +kernel
theorem dX5_wordOf_61 : decode cX5_wordOf 61 = .ok (.aload_n 0, 1) := by decide +kernel
theorem dX5_wordOf_62 : decode cX5_wordOf 62 = .ok (.getfield 9, 3) := by decide +kernel
theorem dX5_wordOf_65 : decode cX5_wordOf 65 = .ok (.iload_n 2, 1) := by decide +kernel
theorem dX5_wordOf_66 : decode cX5_wordOf 66 = .ok (.aload_n 0, 1) := by decide +kernel
theorem dX5_wordOf_67 : decode cX5_wordOf 67 = .ok (.getfield 30, 3) := by decide +kernel
theorem dX5_wordOf_70 : decode cX5_wordOf 70 = .ok (.invokevirtual 65, 3) := by decide +kernel
theorem dX5_wordOf_73 : decode cX5_wordOf 73 = .ok (.i2l, 1) := by decide +kernel
theorem dX5_wordOf_74 : decode cX5_wordOf 74 = .ok (.lreturn, 1) := by decide +kernel
theorem dX5_wordOf_75 : decode cX5_wordOf 75 = .ok (.aload_n 0, 1) := by decide +kernel
theorem dX5_wordOf_76 : decode cX5_wordOf 76 = .ok (.getfield 25, 3) := by decide +kernel
theorem dX5_wordOf_79 : decode cX5_wordOf 79 = .ok (.iload_n 2, 1) := by decide +kernel
theorem dX5_wordOf_80 : decode cX5_wordOf 80 = .ok (.iaload, 1) := by decide +kernel
theorem dX5_wordOf_81 : decode cX5_wordOf 81 = .ok (.i2l, 1) := by decide +kernel
theorem dX5_wordOf_82 : decode cX5_wordOf 82 = .ok (.lreturn, 1) := by decide +kernel
theorem dX5_wordOf_83 : decode cX5_wordOf 83 = .ok (.aload_n 0, 1) := by decide +kernel
theorem dX5_wordOf_84 : decode cX5_wordOf 84 = .ok (.iload_n 1, 1) := by decide +kernel
theorem dX5_wordOf_85 : decode cX5_wordOf 85 = .ok (.invokevirtual 73, 3) := by decide +kernel
theorem dX5_wordOf_88 : decode cX5_wordOf 88 = .ok (.i2l, 1) := by decide +kernel
theorem dX5_wordOf_89 : decode cX5_wordOf 89 = .ok (.lreturn, 1) := by decide +kernel
theorem dX5_wordOf_90 : decode cX5_wordOf 90 = .ok (.aload_n 0, 1) := by decide +kernel
theorem dX5_wordOf_91 : decode cX5_wordOf 91 = .ok (.iload_n 2, 1) := by decide +kernel
theorem dX5_wordOf_92 : decode cX5_wordOf 92 = .ok (.invokevirtual 76, 3) := by decide +kernel
theorem dX5_wordOf_95 : decode cX5_wordOf 95 = .ok (.i2l, 1) := by decide +kernel
theorem dX5_wordOf_96 : decode cX5_wordOf 96 = .ok (.lreturn, 1) := by decide +kernel
theorem dX5_wordOf_97 : decode cX5_wordOf 97 = .ok (.aload_n 0, 1) := by decide +kernel
theorem dX5_wordOf_98 : decode cX5_wordOf 98 = .ok (.getfield 40, 3) := by decide +kernel
theorem dX5_wordOf_101 : decode cX5_wordOf 101 = .ok (.aload_n 0, 1) := by decide +kernel
theorem dX5_wordOf_102 : decode cX5_wordOf 102 = .ok (.getfield 37, 3) := by decide +kernel
theorem dX5_wordOf_105 : decode cX5_wordOf 105 = .ok (.if_icmp .le 16, 3) := by decide +kernel
theorem dX5_wordOf_108 : decode cX5_wordOf 108 = .ok (.aload_n 0, 1) := by decide +kernel
theorem dX5_wordOf_109 : decode cX5_wordOf 109 = .ok (.getfield 40, 3) := by decide +kernel
theorem dX5_wordOf_112 : decode cX5_wordOf 112 = .ok (.aload_n 0, 1) := by decide +kernel
theorem dX5_wordOf_113 : decode cX5_wordOf 113 = .ok (.getfield 37, 3) := by decide +kernel
theorem dX5_wordOf_116 : decode cX5_wordOf 116 = .ok (.isub, 1) := by decide +kernel
theorem dX5_wordOf_117 : decode cX5_wordOf 117 = .ok (.i2l, 1) := by decide +kernel
theorem dX5_wordOf_118 : decode cX5_wordOf 118 = .ok (.goto 4, 3) := by decide +kernel
theorem dX5_wordOf_121 : decode cX5_wordOf 121 = .ok (.lconst 0, 1) := by decide +kernel
theorem dX5_wordOf_122 : decode cX5_wordOf 122 = .ok (.lreturn, 1) := by decide +kernel
theorem dX5_wordOf_123 : decode cX5_wordOf 123 = .ok (.aload_n 0, 1) := by decide +kernel
theorem dX5_wordOf_124 : decode cX5_wordOf 124 = .ok (.getfield 34, 3) := by decide +kernel
theorem dX5_wordOf_127 : decode cX5_wordOf 127 = .ok (.i2l, 1) := by decide +kernel
theorem dX5_wordOf_128 : decode cX5_wordOf 128 = .ok (.lreturn, 1) := by decide +kernel
theorem dX6_addToChoices_0 : decode cX6_addToChoices 0 = .ok (.iconst 0, 1) := by decide +kernel
theorem dX6_addToChoices_1 : decode cX6_addToChoices 1 = .ok (.istore_n 2, 1) := by decide +kernel
theorem dX6_addToChoices_2 : decode cX6_addToChoices 2 = .ok (.iload_n 2, 1) := by decide +kernel
theorem dX6_addToChoices_3 : decode cX6_addToChoices 3 = .ok (.aload_n 0, 1) := by decide +kernel
theorem dX6_addToChoices_4 : decode cX6_addToChoices 4 = .ok (.getfield 90, 3) := by decide +kernel
theorem dX6_addToChoices_7 : decode cX6_addToChoices 7 = .ok (.if_icmp .ge 93, 3) := by decide +kernel
theorem dX6_addToChoices_10 : decode cX6_addToChoices 10 = .ok (.aload_n 0, 1) := by decide +kernel
theorem dX6_addToChoices_11 : decode cX6_addToChoices 11 = .ok (.getfield 16, 3) := by decide +kernel
theorem dX6_addToChoices_14 : decode cX6_addToChoices 14 = .ok (.aload_n 0, 1) := by decide +kernel
theorem dX6_addToChoices_15 : decode cX6_addToChoices 15 = .ok (.getfield 90, 3) := by decide +kernel
theorem dX6_addToChoices_18 : decode cX6_addToChoices 18 = .ok (.iload_n 2, 1) := by decide +kernel
theorem dX6_addToChoices_19 : decode cX6_addToChoices 19 = .ok (.iadd, 1) := by decide +kernel
theorem dX6_addToChoices_20 : decode cX6_addToChoices 20 = .ok (.aload_n 0, 1) := by decide +kernel
theorem dX6_addToChoices_21 : decode cX6_addToChoices 21 = .ok (.getfield 16, 3) := by decide +kernel
theorem dX6_addToChoices_24 : decode cX6_addToChoices 24 = .ok (.iload_n 2, 1) := by decide +kernel
theorem dX6_addToChoices_25 : decode cX6_addToChoices 25 = .ok (.iaload, 1) := by decide +kernel
theorem dX6_addToChoices_26 : decode cX6_addToChoices 26 = .ok (.iastore, 1) := by decide +kernel
theorem dX6_addToChoices_27 : decode cX6_addToChoices 27 = .ok (.aload_n 0, 1) := by decide +kernel
theorem dX6_addToChoices_28 : decode cX6_addToChoices 28 = .ok (.getfield 20, 3) := by decide +kernel
theorem dX6_addToChoices_31 : decode cX6_addToChoices 31 = .ok (.aload_n 0, 1) := by decide +kernel
theorem dX6_addToChoices_32 : decode cX6_addToChoices 32 = .ok (.getfield 90, 3) := by decide +kernel
theorem dX6_addToChoices_35 : decode cX6_addToChoices 35 = .ok (.iload_n 2, 1) := by decide +kernel
theorem dX6_addToChoices_36 : decode cX6_addToChoices 36 = .ok (.iadd, 1) := by decide +kernel
theorem dX6_addToChoices_37 : decode cX6_addToChoices 37 = .ok (.aload_n 0, 1) := by decide +kernel
theorem dX6_addToChoices_38 : decode cX6_addToChoices 38 = .ok (.getfield 20, 3) := by decide +kernel
theorem dX6_addToChoices_41 : decode cX6_addToChoices 41 = .ok (.iload_n 2, 1) := by decide +kernel
theorem dX6_addToChoices_42 : decode cX6_addToChoices 42 = .ok (.iaload, 1) := by decide +kernel
theorem dX6_addToChoices_43 : decode cX6_addToChoices 43 = .ok (.iload_n 1, 1) := by decide +kernel
theorem dX6_addToChoices_44 : decode cX6_addToChoices 44 = .ok (.ior, 1) := by decide +kernel
theorem dX6_addToChoices_45 : decode cX6_addToChoices 45 = .ok (.iastore, 1) := by decide +kernel
theorem dX6_addToChoices_46 : decode cX6_addToChoices 46 = .ok (.aload_n 0, 1) := by decide +kernel
theorem dX6_addToChoices_47 : decode cX6_addToChoices 47 = .ok (.getfield 16, 3) := by decide +kernel
theorem dX6_addToChoices_50 : decode cX6_addToChoices 50 = .ok (.iconst 2, 1) := by decide +kernel
theorem dX6_addToChoices_51 : decode cX6_addToChoices 51 = .ok (.aload_n 0, 1) := by decide +kernel
theorem dX6_addToChoices_52 : decode cX6_addToChoices 52 = .ok (.getfield 90, 3) := by decide +kernel
theorem dX6_addToChoices_55 : decode cX6_addToChoices 55 = .ok (.imul, 1) := by decide +kernel
theorem dX6_addToChoices_56 : decode cX6_addToChoices 56 = .ok (.iload_n 2, 1) := by decide +kernel
theorem dX6_addToChoices_57 : decode cX6_addToChoices 57 = .ok (.iadd, 1) := by decide +kernel
theorem dX6_addToChoices_58 : decode cX6_addToChoices 58 = .ok (.aload_n 0, 1) := by decide +kernel
theorem dX6_addToChoices_59 : decode cX6_addToChoices 59 = .ok (.getfield 16, 3) := by decide +kernel
theorem dX6_addToChoices_62 : decode cX6_addToChoices 62 = .ok (.iload_n 2, 1) := by decide +kernel
theorem dX6_addToChoices_63 : decode cX6_addToChoices 63 = .ok (.iaload, 1) := by decide +kernel
theorem dX6_addToChoices_64 : decode cX6_addToChoices 64 = .ok (.iastore, 1) := by decide +kernel
theorem dX6_addToChoices_65 : decode cX6_addToChoices 65 = .ok (.aload_n 0, 1) := by decide +kernel
theorem dX6_addToChoices_66 : decode cX6_addToChoices 66 = .ok (.getfield 20, 3) := by decide +kernel
theorem dX6_addToChoices_69 : decode cX6_addToChoices 69 = .ok (.iconst 2, 1) := by decide +kernel
theorem dX6_addToChoices_70 : decode cX6_addToChoices 70 = .ok (.aload_n 0, 1) := by decide +kernel
theorem dX6_addToChoices_71 : decode cX6_addToChoices 71 = .ok (.getfield 90, 3) := by decide +kernel
theorem dX6_addToChoices_74 : decode cX6_addToChoices 74 = .ok (.imul, 1) := by decide +kernel
theorem dX6_addToChoices_75 : decode cX6_addToChoices 75 = .ok (.iload_n 2, 1) := by decide +kernel
theorem dX6_addToChoices_76 : decode cX6_addToChoices 76 = .ok (.iadd, 1) := by decide +kernel
theorem dX6_addToChoices_77 : decode cX6_addToChoices 77 = .ok (.aload_n 0, 1) := by decide +kernel
theorem dX6_addToChoices_78 : decode cX6_addToChoices 78 = .ok (.getfield 20, 3) := by decide +kernel
theorem dX6_addToChoices_81 : decode cX6_addToChoices 81 = .ok (.iload_n 2, 1) := by decide +kernel
theorem dX6_addToChoices_82 : decode cX6_addToChoices 82 = .ok (.iaload, 1) := by decide +kernel
theorem dX6_addToChoices_83 : decode cX6_addToChoices 83 = .ok (.iastore, 1) := by decide +kernel
theorem dX6_addToChoices_84 : decode cX6_addToChoices 84 = .ok (.aload_n 0, 1) := by decide +kernel
theorem dX6_addToChoices_85 : decode cX6_addToChoices 85 = .ok (.getfield 16, 3) := by decide +kernel
theorem dX6_addToChoices_88 : decode cX6_addToChoices 88 = .ok (.iload_n 2, 1) := by decide +kernel
theorem dX6_addToChoices_89 : decode cX6_addToChoices 89 = .ok (.dup2, 1) := by decide +kernel
theorem dX6_addToChoices_90 : decode cX6_addToChoices 90 = .ok (.iaload, 1) := by decide +kernel
theorem dX6_addToChoices_91 : decode cX6_addToChoices 91 = .ok (.iload_n 1, 1) := by decide +kernel
theorem dX6_addToChoices_92 : decode cX6_addToChoices 92 = .ok (.ior, 1) := by decide +kernel
theorem dX6_addToChoices_93 : decode cX6_addToChoices 93 = .ok (.iastore, 1) := by decide +kernel
theorem dX6_addToChoices_94 : decode cX6_addToChoices 94 = .ok (.iinc 2 1, 3) := by decide +kernel
theorem dX6_addToChoices_97 : decode cX6_addToChoices 97 = .ok (.goto (-95), 3) := by decide +kernel
theorem dX6_addToChoices_100 : decode cX6_addToChoices 100 = .ok (.aload_n 0, 1) := by decide +kernel
theorem dX6_addToChoices_101 : decode cX6_addToChoices 101 = .ok (.dup, 1) := by decide +kernel
theorem dX6_addToChoices_102 : decode cX6_addToChoices 102 = .ok (.getfield 90, 3) := by decide +kernel
theorem dX6_addToChoices_105 : decode cX6_addToChoices 105 = .ok (.iconst 3, 1) := by decide +kernel
theorem dX6_addToChoices_106 : decode cX6_addToChoices 106 = .ok (.imul, 1) := by decide +kernel
theorem dX6_addToChoices_107 : decode cX6_addToChoices 107 = .ok (.putfield 90, 3) := by decide +kernel
theorem dX6_addToChoices_110 : decode cX6_addToChoices 110 = .ok (.return_, 1) := by decide +kernel
theorem dX6_canSpoil_0 : decode cX6_canSpoil 0 = .ok (.aload_n 0, 1) := by decide +kernel
theorem dX6_canSpoil_1 : decode cX6_canSpoil 1 = .ok (.getfield 13, 3) := by decide +kernel
theorem dX6_canSpoil_4 : decode cX6_canSpoil 4 = .ok (.iload_n 1, 1) := by decide +kernel
theorem dX6_canSpoil_5 : decode cX6_canSpoil 5 = .ok (.aaload, 1) := by decide +kernel
