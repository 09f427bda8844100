theorem dX11_voice_0 : decode cX11_voice 0 = .ok (.aload_n 0, 1) := by decide +kernel
theorem dX11_voice_1 : decode cX11_voice 1 = .ok (.getfield 31, 3) := by decide +kernel
theorem dX11_voice_4 : decode cX11_voice 4 = .ok (.iload_n 1, 1) := by decide +kernel
theorem dX11_voice_5 : decode cX11_voice 5 = .ok (.invokevirtual 132, 3) := by decide +kernel
theorem dX11_voice_8 : decode cX11_voice 8 = .ok (.ifCond .ne 5, 3) := by decide +kernel
theorem dX11_voice_11 : decode cX11_voice 11 = .ok (.iconst (-1), 1) := by decide +kernel
theorem dX11_voice_12 : decode cX11_voice 12 = .ok (.ireturn, 1) := by decide +kernel
theorem dX11_voice_13 : decode cX11_voice 13 = .ok (.iload_n 2, 1) := by decide +kernel
theorem dX11_voice_14 : decode cX11_voice 14 = .ok (.tableswitch 86 0 4 #[34, 44, 54, 66, 76], 34) := by decide +kernel
theorem dX11_voice_48 : decode cX11_voice 48 = .ok (.aload_n 0, 1) := by decide +kernel
theorem dX11_voice_49 : decode cX11_voice 49 = .ok (.getfield 31, 3) := by decide +kernel
theorem dX11_voice_52 : decode cX11_voice 52 = .ok (.getfield 136, 3) := by decide +kernel
theorem dX11_voice_55 : decode cX11_voice 55 = .ok (.iload_n 1, 1) := by decide +kernel
theorem dX11_voice_56 : decode cX11_voice 56 = .ok (.iaload, 1) := by decide +kernel
theorem dX11_voice_57 : decode cX11_voice 57 = .ok (.ireturn, 1) := by decide +kernel
theorem dX11_voice_58 : decode cX11_voice 58 = .ok (.aload_n 0, 1) := by decide +kernel
theorem dX11_voice_59 : decode cX11_voice 59 = .ok (.getfield 31, 3) := by decide +kernel
theorem dX11_voice_62 : decode cX11_voice 62 = .ok (.getfield 139, 3) := by decide +kernel
theorem dX11_voice_65 : decode cX11_voice 65 = .ok (.iload_n 1, 1) := by decide +kernel
theorem dX11_voice_66 : decode cX11_voice 66 = .ok (.iaload, 1) := by decide +kernel
theorem dX11_voice_67 : decode cX11_voice 67 = .ok (.ireturn, 1) := by decide +kernel
theorem dX11_voice_68 : decode cX11_voice 68 = .ok (.aload_n 0, 1) := by decide +kernel
theorem dX11_voice_69 : decode cX11_voice 69 = .ok (.getfield 31, 3) := by decide +kernel
theorem dX11_voice_72 : decode cX11_voice 72 = .ok (.getfield 142, 3) := by decide +kernel
theorem dX11_voice_75 : decode cX11_voice 75 = .ok (.iload_n 1, 1) := by decide +kernel
theorem dX11_voice_76 : decode cX11_voice 76 = .ok (.ishr, 1) := by decide +kernel
theorem dX11_voice_77 : decode cX11_voice 77 = .ok (.iconst 1, 1) := by decide +kernel
theorem dX11_voice_78 : decode cX11_voice 78 = .ok (.iand, 1) := by decide +kernel
theorem dX11_voice_79 : decode cX11_voice 79 = .ok (.ireturn, 1) := by decide +kernel
theorem dX11_voice_80 : decode cX11_voice 80 = .ok (.aload_n 0, 1) := by decide +kernel
theorem dX11_voice_81 : decode cX11_voice 81 = .ok (.getfield 31, 3) := by decide +kernel
theorem dX11_voice_84 : decode cX11_voice 84 = .ok (.getfield 145, 3) := by decide +kernel
theorem dX11_voice_87 : decode cX11_voice 87 = .ok (.iload_n 1, 1) := by decide +kernel
theorem dX11_voice_88 : decode cX11_voice 88 = .ok (.iaload, 1) := by decide +kernel
theorem dX11_voice_89 : decode cX11_voice 89 = .ok (.ireturn, 1) := by decide +kernel
theorem dX11_voice_90 : decode cX11_voice 90 = .ok (.aload_n 0, 1) := by decide +kernel
theorem dX11_voice_91 : decode cX11_voice 91 = .ok (.getfield 31, 3) := by decide +kernel
theorem dX11_voice_94 : decode cX11_voice 94 = .ok (.getfield 148, 3) := by decide +kernel
theorem dX11_voice_97 : decode cX11_voice 97 = .ok (.iload_n 1, 1) := by decide +kernel
theorem dX11_voice_98 : decode cX11_voice 98 = .ok (.iaload, 1) := by decide +kernel
theorem dX11_voice_99 : decode cX11_voice 99 = .ok (.ireturn, 1) := by decide +kernel
theorem dX11_voice_100 : decode cX11_voice 100 = .ok (.iconst (-1), 1) := by decide +kernel
theorem dX11_voice_101 : decode cX11_voice 101 = .ok (.ireturn, 1) := by decide +kernel
theorem dX9_hasMember_0 : decode cX9_hasMember 0 = .ok (.iload_n 1, 1) := by decide +kernel
theorem dX9_hasMember_1 : decode cX9_hasMember 1 = .ok (.ifCond .lt 15, 3) := by decide +kernel
theorem dX9_hasMember_4 : decode cX9_hasMember 4 = .ok (.iload_n 1, 1) := by decide +kernel
theorem dX9_hasMember_5 : decode cX9_hasMember 5 = .ok (.aload_n 0, 1) := by decide +kernel
theorem dX9_hasMember_6 : decode cX9_hasMember 6 = .ok (.getfield 33, 3) := by decide +kernel
theorem dX9_hasMember_9 : decode cX9_hasMember 9 = .ok (.if_icmp .ge 7, 3) := by decide +kernel
theorem dX9_hasMember_12 : decode cX9_hasMember 12 = .ok (.iconst 1, 1) := by decide +kernel
theorem dX9_hasMember_13 : decode cX9_hasMember 13 = .ok (.goto 4, 3) := by decide +kernel
theorem dX9_hasMember_16 : decode cX9_hasMember 16 = .ok (.iconst 0, 1) := by decide +kernel
theorem dX9_hasMember_17 : decode cX9_hasMember 17 = .ok (.ireturn, 1) := by decide +kernel
theorem dX9_hasPoint_0 : decode cX9_hasPoint 0 = .ok (.iload_n 1, 1) := by decide +kernel
theorem dX9_hasPoint_1 : decode cX9_hasPoint 1 = .ok (.ifCond .lt 15, 3) := by decide +kernel
theorem dX9_hasPoint_4 : decode cX9_hasPoint 4 = .ok (.iload_n 1, 1) := by decide +kernel
theorem dX9_hasPoint_5 : decode cX9_hasPoint 5 = .ok (.aload_n 0, 1) := by decide +kernel
theorem dX9_hasPoint_6 : decode cX9_hasPoint 6 = .ok (.getfield 37, 3) := by decide +kernel
theorem dX9_hasPoint_9 : decode cX9_hasPoint 9 = .ok (.if_icmp .ge 7, 3) := by decide +kernel
theorem dX9_hasPoint_12 : decode cX9_hasPoint 12 = .ok (.iconst 1, 1) := by decide +kernel
theorem dX9_hasPoint_13 : decode cX9_hasPoint 13 = .ok (.goto 4, 3) := by decide +kernel
theorem dX9_hasPoint_16 : decode cX9_hasPoint 16 = .ok (.iconst 0, 1) := by decide +kernel
theorem dX9_hasPoint_17 : decode cX9_hasPoint 17 = .ok (.ireturn, 1) := by decide +kernel
theorem dX9_makeFresh_0 : decode cX9_makeFresh 0 = .ok (.aload_n 0, 1) := by decide +kernel
theorem dX9_makeFresh_1 : decode cX9_makeFresh 1 = .ok (.iconst 0, 1) := by decide +kernel
theorem dX9_makeFresh_2 : decode cX9_makeFresh 2 = .ok (.putfield 33, 3) := by decide +kernel
theorem dX9_makeFresh_5 : decode cX9_makeFresh 5 = .ok (.aload_n 0, 1) := by decide +kernel
theorem dX9_makeFresh_6 : decode cX9_makeFresh 6 = .ok (.iconst 0, 1) := by decide +kernel
theorem dX9_makeFresh_7 : decode cX9_makeFresh 7 = .ok (.putfield 37, 3) := by decide +kernel
theorem dX9_makeFresh_10 : decode cX9_makeFresh 10 = .ok (.aload_n 0, 1) := by decide +kernel
theorem dX9_makeFresh_11 : decode cX9_makeFresh 11 = .ok (.iconst 0, 1) := by decide +kernel
theorem dX9_makeFresh_12 : decode cX9_makeFresh 12 = .ok (.putfield 40, 3) := by decide +kernel
theorem dX9_makeFresh_15 : decode cX9_makeFresh 15 = .ok (.aload_n 0, 1) := by decide +kernel
theorem dX9_makeFresh_16 : decode cX9_makeFresh 16 = .ok (.iconst 0, 1) := by decide +kernel
theorem dX9_makeFresh_17 : decode cX9_makeFresh 17 = .ok (.putfield 43, 3) := by decide +kernel
theorem dX9_makeFresh_20 : decode cX9_makeFresh 20 = .ok (.aload_n 0, 1) := by decide +kernel
theorem dX9_makeFresh_21 : decode cX9_makeFresh 21 = .ok (.iconst 0, 1) := by decide +kernel
theorem dX9_makeFresh_22 : decode cX9_makeFresh 22 = .ok (.putfield 46, 3) := by decide +kernel
theorem dX9_makeFresh_25 : decode cX9_makeFresh 25 = .ok (.aload_n 0, 1) := by decide +kernel
theorem dX9_makeFresh_26 : decode cX9_makeFresh 26 = .ok (.sipush 9999, 3) := by decide +kernel
theorem dX9_makeFresh_29 : decode cX9_makeFresh 29 = .ok (.putfield 49, 3) := by decide +kernel
theorem dX9_makeFresh_32 : decode cX9_makeFresh 32 = .ok (.aload_n 0, 1) := by decide +kernel
theorem dX9_makeFresh_33 : decode cX9_makeFresh 33 = .ok (.iconst 0, 1) := by decide +kernel
theorem dX9_makeFresh_34 : decode cX9_makeFresh 34 = .ok (.putfield 52, 3) := by decide +kernel
theorem dX9_makeFresh_37 : decode cX9_makeFresh 37 = .ok (.aload_n 0, 1) := by decide +kernel
theorem dX9_makeFresh_38 : decode cX9_makeFresh 38 = .ok (.iconst 0, 1) := by decide +kernel
theorem dX9_makeFresh_39 : decode cX9_makeFresh 39 = .ok (.putfield 55, 3) := by decide +kernel
theorem dX9_makeFresh_42 : decode cX9_makeFresh 42 = .ok (.iconst 0, 1) := by decide +kernel
theorem dX9_makeFresh_43 : decode cX9_makeFresh 43 = .ok (.istore_n 1, 1) := by decide +kernel
theorem dX9_makeFresh_44 : decode cX9_makeFresh 44 = .ok (.iload_n 1, 1) := by decide +kernel
theorem dX9_makeFresh_45 : decode cX9_makeFresh 45 = .ok (.bipush 10, 2) := by decide +kernel
theorem dX9_makeFresh_47 : decode cX9_makeFresh 47 = .ok (.if_icmp .ge 37, 3) := by decide +kernel
theorem dX9_makeFresh_50 : decode cX9_makeFresh 50 = .ok (.aload_n 0, 1) := by decide +kernel
theorem dX9_makeFresh_51 : decode cX9_makeFresh 51 = .ok (.getfield 15, 3) := by decide +kernel
theorem dX9_makeFresh_54 : decode cX9_makeFresh 54 = .ok (.iload_n 1, 1) := by decide +kernel
theorem dX9_makeFresh_55 : decode cX9_makeFresh 55 = .ok (.iconst 1, 1) := by decide +kernel
theorem dX9_makeFresh_56 : decode cX9_makeFresh 56 = .ok (.iastore, 1) := by decide +kernel
theorem dX9_makeFresh_57 : decode cX9_makeFresh 57 = .ok (.aload_n 0, 1) := by decide +kernel
theorem dX9_makeFresh_58 : decode cX9_makeFresh 58 = .ok (.getfield 18, 3) := by decide +kernel
theorem dX9_makeFresh_61 : decode cX9_makeFresh 61 = .ok (.iload_n 1, 1) := by decide +kernel
theorem dX9_makeFresh_62 : decode cX9_makeFresh 62 = .ok (.iconst (-1), 1) := by decide +kernel
theorem dX9_makeFresh_63 : decode cX9_makeFresh 63 = .ok (.iastore, 1) := by decide +kernel
theorem dX9_makeFresh_64 : decode cX9_makeFresh 64 = .ok (.aload_n 0, 1) := by decide +kernel
theorem dX9_makeFresh_65 : decode cX9_makeFresh 65 = .ok (.getfield 21, 3) := by decide +kernel
theorem dX9_makeFresh_68 : decode cX9_makeFresh 68 = .ok (.iload_n 1, 1) := by decide +kernel
theorem dX9_makeFresh_69 : decode cX9_makeFresh 69 = .ok (.iconst 0, 1) := by decide +kernel
theorem dX9_makeFresh_70 : decode cX9_makeFresh 70 = .ok (.iastore, 1) := by decide +kernel
theorem dX9_makeFresh_71 : decode cX9_makeFresh 71 = .ok (.aload_n 0, 1) := by decide +kernel
theorem dX9_makeFresh_72 : decode cX9_makeFresh 72 = .ok (.getfield 24, 3) := by decide +kernel
theorem dX9_makeFresh_75 : decode cX9_makeFresh 75 = .ok (.iload_n 1, 1) := by decide +kernel
theorem dX9_makeFresh_76 : decode cX9_makeFresh 76 = .ok (.iconst 0, 1) := by decide +kernel
theorem dX9_makeFresh_77 : decode cX9_makeFresh 77 = .ok (.iastore, 1) := by decide +kernel
theorem dX9_makeFresh_78 : decode cX9_makeFresh 78 = .ok (.iinc 1 1, 3) := by decide +kernel
theorem dX9_makeFresh_81 : decode cX9_makeFresh 81 = .ok (.goto (-37), 3) := by decide +kernel
theorem dX9_makeFresh_84 : decode cX9_makeFresh 84 = .ok (.return_, 1) := by decide +kernel
theorem dX9_sumOf_0 : decode cX9_sumOf 0 = .ok (.iconst 0, 1) := by decide +kernel
theorem dX9_sumOf_1 : decode cX9_sumOf 1 = .ok (.istore_n 3, 1) := by decide +kernel
theorem dX9_sumOf_2 : decode cX9_sumOf 2 = .ok (.iconst 0, 1) := by decide +kernel
theorem dX9_sumOf_3 : decode cX9_sumOf 3 = .ok (.istore 4, 2) := by decide +kernel
theorem dX9_sumOf_5 : decode cX9_sumOf 5 = .ok (.iload 4, 2) := by decide +kernel
theorem dX9_sumOf_7 : decode cX9_sumOf 7 = .ok (.aload_n 0, 1) := by decide +kernel
theorem dX9_sumOf_8 : decode cX9_sumOf 8 = .ok (.getfield 33, 3) := by decide +kernel
theorem dX9_sumOf_11 : decode cX9_sumOf 11 = .ok (.if_icmp .ge 26, 3) := by decide +kernel
theorem dX9_sumOf_14 : decode cX9_sumOf 14 = .ok (.iload_n 2, 1) := by decide +kernel
theorem dX9_sumOf_15 : decode cX9_sumOf 15 = .ok (.iload 4, 2) := by decide +kernel
theorem dX9_sumOf_17 : decode cX9_sumOf 17 = .ok (.ishr, 1) := by decide +kernel
theorem dX9_sumOf_18 : decode cX9_sumOf 18 = .ok (.iconst 1, 1) := by decide +kernel
theorem dX9_sumOf_19 : decode cX9_sumOf 19 = .ok (.iand, 1) := by decide +kernel
theorem dX9_sumOf_20 : decode cX9_sumOf 20 = .ok (.iconst 1, 1) := by decide +kernel
theorem dX9_sumOf_21 : decode cX9_sumOf 21 = .ok (.if_icmp .ne 10, 3) := by decide +kernel
theorem dX9_sumOf_24 : decode cX9_sumOf 24 = .ok (.iload_n 3, 1) := by decide +kernel
theorem dX9_sumOf_25 : decode cX9_sumOf 25 = .ok (.aload_n 1, 1) := by decide +kernel
theorem dX9_sumOf_26 : decode cX9_sumOf 26 = .ok (.iload 4, 2) := by decide +kernel
theorem dX9_sumOf_28 : decode cX9_sumOf 28 = .ok (.iaload, 1) := by decide +kernel
theorem dX9_sumOf_29 : decode cX9_sumOf 29 = .ok (.iadd, 1) := by decide +kernel
theorem dX9_sumOf_30 : decode cX9_sumOf 30 = .ok (.istore_n 3, 1) := by decide +kernel
theorem dX9_sumOf_31 : decode cX9_sumOf 31 = .ok (.iinc 4 1, 3) := by decide +kernel
theorem dX9_sumOf_34 : decode cX9_sumOf 34 = .ok (.goto (-29), 3) := by decide +kernel
theorem dX9_sumOf_37 : decode cX9_sumOf 37 = .ok (.iload_n 3, 1) := by decide +kernel
theorem dX9_sumOf_38 : decode cX9_sumOf 38 = .ok (.ireturn, 1) := by decide +kernel
theorem dX9_takeFrom_0 : decode cX9_takeFrom 0 = .ok (.aload_n 0, 1) := by decide +kernel
theorem dX9_takeFrom_1 : decode cX9_takeFrom 1 = .ok (.aload_n 1, 1) := by decide +kernel
theorem dX9_takeFrom_2 : decode cX9_takeFrom 2 = .ok (.getfield 33, 3) := by decide +kernel
theorem dX9_takeFrom_5 : decode cX9_takeFrom 5 = .ok (.putfield 33, 3) := by decide +kernel
theorem dX9_takeFrom_8 : decode cX9_takeFrom 8 = .ok (.aload_n 0, 1) := by decide +kernel
theorem dX9_takeFrom_9 : decode cX9_takeFrom 9 = .ok (.aload_n 1, 1) := by decide +kernel
theorem dX9_takeFrom_10 : decode cX9_takeFrom 10 = .ok (.getfield 37, 3) := by decide +kernel
theorem dX9_takeFrom_13 : decode cX9_takeFrom 13 = .ok (.putfield 37, 3) := by decide +kernel
theorem dX9_takeFrom_16 : decode cX9_takeFrom 16 = .ok (.aload_n 0, 1) := by decide +kernel
theorem dX9_takeFrom_17 : decode cX9_takeFrom 17 = .ok (.aload_n 1, 1) := by decide +kernel
theorem dX9_takeFrom_18 : decode cX9_takeFrom 18 = .ok (.getfield 40, 3) := by decide +kernel
theorem dX9_takeFrom_21 : decode cX9_takeFrom 21 = .ok (.putfield 40, 3) := by decide +kernel
theorem dX9_takeFrom_24 : decode cX9_takeFrom 24 = .ok (.aload_n 0, 1) := by decide +kernel
theorem dX9_takeFrom_25 : decode cX9_takeFrom 25 = .ok (.aload_n 1, 1) := by decide +kernel
theorem dX9_takeFrom_26 : decode cX9_takeFrom 26 = .ok (.getfield 43, 3) := by decide +kernel
theorem dX9_takeFrom_29 : decode cX9_takeFrom 29 = .ok (.putfield 43, 3) := by decide +kernel
theorem dX9_takeFrom_32 : decode cX9_takeFrom 32 = .ok (.aload_n 0, 1) := by decide +kernel
theorem dX9_takeFrom_33 : decode cX9_takeFrom 33 = .ok (.aload_n 1, 1) := by decide +kernel
theorem dX9_takeFrom_34 : decode cX9_takeFrom 34 = .ok (.getfield 46, 3) := by decide +kernel
theorem dX9_takeFrom_37 : decode cX9_takeFrom 37 = .ok (.putfield 46, 3) := by decide +kernel
theorem dX9_takeFrom_40 : decode cX9_takeFrom 40 = .ok (.aload_n 0, 1) := by decide +kernel
theorem dX9_takeFrom_41 : decode cX9_takeFrom 41 = .ok (.aload_n 1, 1) := by decide +kernel
theorem dX9_takeFrom_42 : decode cX9_takeFrom 42 = .ok (.getfield 49, 3) := by decide +kernel
theorem dX9_takeFrom_45 : decode cX9_takeFrom 45 = .ok (.putfield 49, 3) := by decide +kernel
theorem dX9_takeFrom_48 : decode cX9_takeFrom 48 = .ok (.aload_n 0, 1) := by decide +kernel
theorem dX9_takeFrom_49 : decode cX9_takeFrom 49 = .ok (.aload_n 1, 1) := by decide +kernel
theorem dX9_takeFrom_50 : decode cX9_takeFrom 50 = .ok (.getfield 58, 3) := by decide +kernel
theorem dX9_takeFrom_53 : decode cX9_takeFrom 53 = .ok (.putfield 58, 3) := by decide +kernel
theorem dX9_takeFrom_56 : decode cX9_takeFrom 56 = .ok (.aload_n 0, 1) := by decide +kernel
theorem dX9_takeFrom_57 : decode cX9_takeFrom 57 = .ok (.aload_n 1, 1) := by decide +kernel
theorem dX9_takeFrom_58 : decode cX9_takeFrom 58 = .ok (.getfield 52, 3) := by decide +kernel
theorem dX9_takeFrom_61 : decode cX9_takeFrom 61 = .ok (.putfield 52, 3) := by decide +kernel
theorem dX9_takeFrom_64 : decode cX9_takeFrom 64 = .ok (.aload_n 0, 1) := by decide +kernel
theorem dX9_takeFrom_65 : decode cX9_takeFrom 65 = .ok (.aload_n 1, 1) := by decide +kernel
theorem dX9_takeFrom_66 : decode cX9_takeFrom 66 = .ok (.getfield 55, 3) := by decide +kernel
theorem dX9_takeFrom_69 : decode cX9_takeFrom 69 = .ok (.putfield 55, 3) := by decide +kernel
theorem dX9_takeFrom_72 : decode cX9_takeFrom 72 = .ok (.aload_n 1, 1) := by decide +kernel
theorem dX9_takeFrom_73 : decode cX9_takeFrom 73 = .ok (.getfield 9, 3) := by decide +kernel
theorem dX9_takeFrom_76 : decode cX9_takeFrom 76 = .ok (.iconst 0, 1) := by decide +kernel
theorem dX9_takeFrom_77 : decode cX9_takeFrom 77 = .ok (.aload_n 0, 1) := by decide +kernel
theorem dX9_takeFrom_78 : decode cX9_takeFrom 78 = .ok (.getfield 9, 3) := by decide +kernel
theorem dX9_takeFrom_81 : decode cX9_takeFrom 81 = .ok (.iconst 0, 1) := by decide +kernel
theorem dX9_takeFrom_82 : decode cX9_takeFrom 82 = .ok (.aload_n 0, 1) := by decide +kernel
theorem dX9_takeFrom_83 : decode cX9_takeFrom 83 = .ok (.getfield 9, 3) := by decide +kernel
theorem dX9_takeFrom_86 : decode cX9_takeFrom 86 = .ok (.arraylength, 1) := by decide +kernel
theorem dX9_takeFrom_87 : decode cX9_takeFrom 87 = .ok (.invokestatic 61, 3) := by decide +kernel
theorem dX9_takeFrom_90 : decode cX9_takeFrom 90 = .ok (.aload_n 1, 1) := by decide +kernel
theorem dX9_takeFrom_91 : decode cX9_takeFrom 91 = .ok (.getfield 15, 3) := by decide +kernel
theorem dX9_takeFrom_94 : decode cX9_takeFrom 94 = .ok (.iconst 0, 1) := by decide +kernel
theorem dX9_takeFrom_95 : decode cX9_takeFrom 95 = .ok (.aload_n 0, 1) := by decide +kernel
theorem dX9_takeFrom_96 : decode cX9_takeFrom 96 = .ok (.getfield 15, 3) := by decide +kernel
theorem dX9_takeFrom_99 : decode cX9_takeFrom 99 = .ok (.iconst 0, 1) := by decide +kernel
theorem dX9_takeFrom_100 : decode cX9_takeFrom 100 = .ok (.bipush 10, 2) := by decide +kernel
theorem dX9_takeFrom_102 : decode cX9_takeFrom 102 = .ok (.invokestatic 61, 3) := by decide +kernel
theorem dX9_takeFrom_105 : decode cX9_takeFrom 105 = .ok (.aload_n 1, 1) := by decide +kernel
theorem dX9_takeFrom_106 : decode cX9_takeFrom 106 = .ok (.getfield 18, 3) := by decide +kernel
theorem dX9_takeFrom_109 : decode cX9_takeFrom 109 = .ok (.iconst 0, 1) := by decide +kernel
theorem dX9_takeFrom_110 : decode cX9_takeFrom 110 = .ok (.aload_n 0, 1) := by decide +kernel
theorem dX9_takeFrom_111 : decode cX9_takeFrom 111 = .ok (.getfield 18, 3) := by decide +kernel
theorem dX9_takeFrom_114 : decode cX9_takeFrom 114 = .ok (.iconst 0, 1) := by decide +kernel
theorem dX9_takeFrom_115 : decode cX9_takeFrom 115 = .ok (.bipush 10, 2) := by decide +kernel
theorem dX9_takeFrom_117 : decode cX9_takeFrom 117 = .ok (.invokestatic 61, 3) := by decide +kernel
theorem dX9_takeFrom_120 : decode cX9_takeFrom 120 = .ok (.aload_n 1, 1) := by decide +kernel
theorem dX9_takeFrom_121 : decode cX9_takeFrom 121 = .ok (.getfield 21, 3) := by decide +kernel
theorem dX9_takeFrom_124 : decode cX9_takeFrom 124 = .ok (.iconst 0, 1) := by decide +kernel
theorem dX9_takeFrom_125 : decode cX9_takeFrom 125 = .ok (.aload_n 0, 1) := by decide +kernel
theorem dX9_takeFrom_126 : decode cX9_takeFrom 126 = .ok (.getfield 21, 3) := by decide +kernel
theorem dX9_takeFrom_129 : decode cX9_takeFrom 129 = .ok (.iconst 0, 1) := by decide +kernel
theorem dX9_takeFrom_130 : decode cX9_takeFrom 130 = .ok (.bipush 10, 2) := by decide +kernel
theorem dX9_takeFrom_132 : decode cX9_takeFrom 132 = .ok (.invokestatic 61, 3) := by decide +kernel
theorem dX9_takeFrom_135 : decode cX9_takeFrom 135 = .ok (.aload_n 1, 1) := by decide +kernel
theorem dX9_takeFrom_136 : decode cX9_takeFrom 136 = .ok (.getfield 24, 3) := by decide +kernel
theorem dX9_takeFrom_139 : decode cX9_takeFrom 139 = .ok (.iconst 0, 1) := by decide +kernel
theorem dX9_takeFrom_140 : decode cX9_takeFrom 140 = .ok (.aload_n 0, 1) := by decide +kernel
theorem dX9_takeFrom_141 : decode cX9_takeFrom 141 = .ok (.getfield 24, 3) := by decide +kernel
theorem dX9_takeFrom_144 : decode cX9_takeFrom 144 = .ok (.iconst 0, 1) := by decide +kernel
theorem dX9_takeFrom_145 : decode cX9_takeFrom 145 = .ok (.bipush 10, 2) := by decide +kernel
theorem dX9_takeFrom_147 : decode cX9_takeFrom 147 = .ok (.invokestatic 61, 3) := by decide +kernel
theorem dX9_takeFrom_150 : decode cX9_takeFrom 150 = .ok (.aload_n 1, 1) := by decide +kernel
theorem dX9_takeFrom_151 : decode cX9_takeFrom 151 = .ok (.getfield 27, 3) := by decide +kernel
theorem dX9_takeFrom_154 : decode cX9_takeFrom 154 = .ok (.iconst 0, 1) := by decide +kernel
theorem dX9_takeFrom_155 : decode cX9_takeFrom 155 = .ok (.aload_n 0, 1) := by decide +kernel
theorem dX9_takeFrom_156 : decode cX9_takeFrom 156 = .ok (.getfield 27, 3) := by decide +kernel
theorem dX9_takeFrom_159 : decode cX9_takeFrom 159 = .ok (.iconst 0, 1) := by decide +kernel
theorem dX9_takeFrom_160 : decode cX9_takeFrom 160 = .ok (.bipush 8, 2) := by decide +kernel
theorem dX9_takeFrom_162 : decode cX9_takeFrom 162 = .ok (.invokestatic 61, 3) := by decide +kernel
theorem dX9_takeFrom_165 : decode cX9_takeFrom 165 = .ok (.aload_n 1, 1) := by decide +kernel
theorem dX9_takeFrom_166 : decode cX9_takeFrom 166 = .ok (.getfield 30, 3) := by decide +kernel
theorem dX9_takeFrom_169 : decode cX9_takeFrom 169 = .ok (.iconst 0, 1) := by decide +kernel
theorem dX9_takeFrom_170 : decode cX9_takeFrom 170 = .ok (.aload_n 0, 1) := by decide +kernel
theorem dX9_takeFrom_171 : decode cX9_takeFrom 171 = .ok (.getfield 30, 3) := by decide +kernel
theorem dX9_takeFrom_174 : decode cX9_takeFrom 174 = .ok (.iconst 0, 1) := by decide +kernel
theorem dX9_takeFrom_175 : decode cX9_takeFrom 175 = .ok (.aload_n 0, 1) := by decide +kernel
theorem dX9_takeFrom_176 : decode cX9_takeFrom 176 = .ok (.getfield 30, 3) := by decide +kernel
theorem dX9_takeFrom_179 : decode cX9_takeFrom 179 = .ok (.arraylength, 1) := by decide +kernel
theorem dX9_takeFrom_180 : decode cX9_takeFrom 180 = .ok (.invokestatic 61, 3) := by decide +kernel
theorem dX9_takeFrom_183 : decode cX9_takeFrom 183 = .ok (.return_, 1) := by decide +kernel
theorem dX9_worthOf_0 : decode cX9_worthOf 0 = .ok (.aload_n 0, 1) := by decide +kernel
theorem dX9_worthOf_1 : decode cX9_worthOf 1 = .ok (.getfield 9, 3) := by decide +kernel
theorem dX9_worthOf_4 : decode cX9_worthOf 4 = .ok (.iload_n 2, 1) := by decide +kernel
theorem dX9_worthOf_5 : decode cX9_worthOf 5 = .ok (.bipush 10, 2) := by decide +kernel
theorem dX9_worthOf_7 : decode cX9_worthOf 7 = .ok (.imul, 1) := by decide +kernel
theorem dX9_worthOf_8 : decode cX9_worthOf 8 = .ok (.iload_n 1, 1) := by decide +kernel
theorem dX9_worthOf_9 : decode cX9_worthOf 9 = .ok (.iadd, 1) := by decide +kernel
theorem dX9_worthOf_10 : decode cX9_worthOf 10 = .ok (.iaload, 1) := by decide +kernel
theorem dX9_worthOf_11 : decode cX9_worthOf 11 = .ok (.ireturn, 1) := by decide +kernel
theorem dX9_worthOfSet_0 : decode cX9_worthOfSet 0 = .ok (.iconst 0, 1) := by decide +kernel
theorem dX9_worthOfSet_1 : decode cX9_worthOfSet 1 = .ok (.istore_n 3, 1) := by decide +kernel
theorem dX9_worthOfSet_2 : decode cX9_worthOfSet 2 = .ok (.iconst 0, 1) := by decide +kernel
theorem dX9_worthOfSet_3 : decode cX9_worthOfSet 3 = .ok (.istore 4, 2) := by decide +kernel
theorem dX9_worthOfSet_5 : decode cX9_worthOfSet 5 = .ok (.iload 4, 2) := by decide +kernel
theorem dX9_worthOfSet_7 : decode cX9_worthOfSet 7 = .ok (.aload_n 0, 1) := by decide +kernel
theorem dX9_worthOfSet_8 : decode cX9_worthOfSet 8 = .ok (.getfield 33, 3) := by decide +kernel
theorem dX9_worthOfSet_11 : decode cX9_worthOfSet 11 = .ok (.if_icmp .ge 29, 3) := by decide +kernel
theorem dX9_worthOfSet_14 : decode cX9_worthOfSet 14 = .ok (.iload_n 1, 1) := by decide +kernel
theorem dX9_worthOfSet_15 : decode cX9_worthOfSet 15 = .ok (.iload 4, 2) := by decide +kernel
theorem dX9_worthOfSet_17 : decode cX9_worthOfSet 17 = .ok (.ishr, 1) := by decide +kernel
theorem dX9_worthOfSet_18 : decode cX9_worthOfSet 18 = .ok (.iconst 1, 1) := by decide +kernel
theorem dX9_worthOfSet_19 : decode cX9_worthOfSet 19 = .ok (.iand, 1) := by decide +kernel
theorem dX9_worthOfSet_20 : decode cX9_worthOfSet 20 = .ok (.iconst 1, 1) := by decide +kernel
theorem dX9_worthOfSet_21 : decode cX9_worthOfSet 21 = .ok (.if_icmp .ne 13, 3) := by decide +kernel
theorem dX9_worthOfSet_24 : decode cX9_worthOfSet 24 = .ok (.iload_n 3, 1) := by decide +kernel
theorem dX9_worthOfSet_25 : decode cX9_worthOfSet 25 = .ok (.aload_n 0, 1) := by decide +kernel
theorem dX9_worthOfSet_26 : decode cX9_worthOfSet 26 = .ok (.iload 4, 2) := by decide +kernel
theorem dX9_worthOfSet_28 : decode cX9_worthOfSet 28 = .ok (.iload_n 2, 1) := by decide +kernel
theorem dX9_worthOfSet_29 : decode cX9_worthOfSet 29 = .ok (.invokevirtual 71, 3) := by decide +kernel
theorem dX9_worthOfSet_32 : decode cX9_worthOfSet 32 = .ok (.iadd, 1) := by decide +kernel
theorem dX9_worthOfSet_33 : decode cX9_worthOfSet 33 = .ok (.istore_n 3, 1) := by decide +kernel
theorem dX9_worthOfSet_34 : decode cX9_worthOfSet 34 = .ok (.iinc 4 1, 3) := by decide +kernel
theorem dX9_worthOfSet_37 : decode cX9_worthOfSet 37 = .ok (.goto (-32), 3) := by decide +kernel
theorem dX9_worthOfSet_40 : decode cX9_worthOfSet 40 = .ok (.iload_n 3, 1) := by decide +kernel
theorem dX9_worthOfSet_41 : decode cX9_worthOfSet 41 = .ok (.ireturn, 1) := by decide +kernel
