theorem dX8_value_58 : decode cX8_value 58 = .ok (.aload_n 0, 1) := by decide +kernel
theorem dX8_value_59 : decode cX8_value 59 = .ok (.iconst 1, 1) := by decide +kernel
theorem dX8_value_60 : decode cX8_value 60 = .ok (.iload_n 2, 1) := by decide +kernel
theorem dX8_value_61 : decode cX8_value 61 = .ok (.invokevirtual 54, 3) := by decide +kernel
theorem dX8_value_64 : decode cX8_value 64 = .ok (.pop, 1) := by decide +kernel
theorem dX8_value_65 : decode cX8_value 65 = .ok (.aload_n 0, 1) := by decide +kernel
theorem dX8_value_66 : decode cX8_value 66 = .ok (.iload_n 1, 1) := by decide +kernel
theorem dX8_value_67 : decode cX8_value 67 = .ok (.invokevirtual 88, 3) := by decide +kernel
theorem dX8_value_70 : decode cX8_value 70 = .ok (.return_, 1) := by decide +kernel
theorem dX8_weigh_0 : decode cX8_weigh 0 = .ok (.aload_n 0, 1) := by decide +kernel
theorem dX8_weigh_1 : decode cX8_weigh 1 = .ok (.dup, 1) := by decide +kernel
theorem dX8_weigh_2 : decode cX8_weigh 2 = .ok (.getfield 23, 3) := by decide +kernel
theorem dX8_weigh_5 : decode cX8_weigh 5 = .ok (.iconst 1, 1) := by decide +kernel
theorem dX8_weigh_6 : decode cX8_weigh 6 = .ok (.iadd, 1) := by decide +kernel
theorem dX8_weigh_7 : decode cX8_weigh 7 = .ok (.putfield 23, 3) := by decide +kernel
theorem dX8_weigh_10 : decode cX8_weigh 10 = .ok (.aload_n 0, 1) := by decide +kernel
theorem dX8_weigh_11 : decode cX8_weigh 11 = .ok (.getfield 23, 3) := by decide +kernel
theorem dX8_weigh_14 : decode cX8_weigh 14 = .ok (.bipush 60, 2) := by decide +kernel
theorem dX8_weigh_16 : decode cX8_weigh 16 = .ok (.if_icmp .le 9, 3) := by decide +kernel
theorem dX8_weigh_19 : decode cX8_weigh 19 = .ok (.aload_n 0, 1) := by decide +kernel
theorem dX8_weigh_20 : decode cX8_weigh 20 = .ok (.iload_n 1, 1) := by decide +kernel
theorem dX8_weigh_21 : decode cX8_weigh 21 = .ok (.iconst 3, 1) := by decide +kernel
theorem dX8_weigh_22 : decode cX8_weigh 22 = .ok (.invokevirtual 39, 3) := by decide +kernel
theorem dX8_weigh_25 : decode cX8_weigh 25 = .ok (.return_, 1) := by decide +kernel
theorem dX9_hasCouncil_0 : decode cX9_hasCouncil 0 = .ok (.aload_n 0, 1) := by decide +kernel
theorem dX9_hasCouncil_1 : decode cX9_hasCouncil 1 = .ok (.getfield 33, 3) := by decide +kernel
theorem dX9_hasCouncil_4 : decode cX9_hasCouncil 4 = .ok (.ifCond .le 7, 3) := by decide +kernel
theorem dX9_hasCouncil_7 : decode cX9_hasCouncil 7 = .ok (.iconst 1, 1) := by decide +kernel
theorem dX9_hasCouncil_8 : decode cX9_hasCouncil 8 = .ok (.goto 4, 3) := by decide +kernel
theorem dX9_hasCouncil_11 : decode cX9_hasCouncil 11 = .ok (.iconst 0, 1) := by decide +kernel
theorem dX9_hasCouncil_12 : decode cX9_hasCouncil 12 = .ok (.ireturn, 1) := by decide +kernel
theorem dX9_hasMember_0 : decode cX9_hasMember 0 = .ok (.iload_n 1, 1) := by decide +kernel
theorem dX9_hasMember_1 : decode cX9_hasMember 1 = .ok (.ifCond .lt 15, 3) := by decide +kernel
theorem dX9_hasMember_4 : decode cX9_hasMember 4 = .ok (.iload_n 1, 1) := by decide +kernel
theorem dX9_hasMember_5 : decode cX9_hasMember 5 = .ok (.aload_n 0, 1) := by decide +kernel
theorem dX9_hasMember_6 : decode cX9_hasMember 6 = .ok (.getfield 33, 3) := by decide +kernel
theorem dX9_hasMember_9 : decode cX9_hasMember 9 = .ok (.if_icmp .ge 7, 3) := by decide +kernel
theorem dX9_hasMember_12 : decode cX9_hasMember 12 = .ok (.iconst 1, 1) := by decide +kernel
theorem dX9_hasMember_13 : decode cX9_hasMember 13 = .ok (.goto 4, 3) := by decide +kernel
theorem dX9_hasMember_16 : decode cX9_hasMember 16 = .ok (.iconst 0, 1) := by decide +kernel
theorem dX9_hasMember_17 : decode cX9_hasMember 17 = .ok (.ireturn, 1) := by decide +kernel
theorem dX9_hasPlace_0 : decode cX9_hasPlace 0 = .ok (.iload_n 1, 1) := by decide +kernel
theorem dX9_hasPlace_1 : decode cX9_hasPlace 1 = .ok (.ifCond .lt 15, 3) := by decide +kernel
theorem dX9_hasPlace_4 : decode cX9_hasPlace 4 = .ok (.iload_n 1, 1) := by decide +kernel
theorem dX9_hasPlace_5 : decode cX9_hasPlace 5 = .ok (.aload_n 0, 1) := by decide +kernel
theorem dX9_hasPlace_6 : decode cX9_hasPlace 6 = .ok (.getfield 52, 3) := by decide +kernel
theorem dX9_hasPlace_9 : decode cX9_hasPlace 9 = .ok (.if_icmp .ge 7, 3) := by decide +kernel
theorem dX9_hasPlace_12 : decode cX9_hasPlace 12 = .ok (.iconst 1, 1) := by decide +kernel
theorem dX9_hasPlace_13 : decode cX9_hasPlace 13 = .ok (.goto 4, 3) := by decide +kernel
theorem dX9_hasPlace_16 : decode cX9_hasPlace 16 = .ok (.iconst 0, 1) := by decide +kernel
theorem dX9_hasPlace_17 : decode cX9_hasPlace 17 = .ok (.ireturn, 1) := by decide +kernel
theorem dX9_hasPoint_0 : decode cX9_hasPoint 0 = .ok (.iload_n 1, 1) := by decide +kernel
theorem dX9_hasPoint_1 : decode cX9_hasPoint 1 = .ok (.ifCond .lt 15, 3) := by decide +kernel
theorem dX9_hasPoint_4 : decode cX9_hasPoint 4 = .ok (.iload_n 1, 1) := by decide +kernel
theorem dX9_hasPoint_5 : decode cX9_hasPoint 5 = .ok (.aload_n 0, 1) := by decide +kernel
theorem dX9_hasPoint_6 : decode cX9_hasPoint 6 = .ok (.getfield 37, 3) := by decide +kernel
theorem dX9_hasPoint_9 : decode cX9_hasPoint 9 = .ok (.if_icmp .ge 7, 3) := by decide +kernel
theorem dX9_hasPoint_12 : decode cX9_hasPoint 12 = .ok (.iconst 1, 1) := by decide +kernel
theorem dX9_hasPoint_13 : decode cX9_hasPoint 13 = .ok (.goto 4, 3) := by decide +kernel
theorem dX9_hasPoint_16 : decode cX9_hasPoint 16 = .ok (.iconst 0, 1) := by decide +kernel
theorem dX9_hasPoint_17 : decode cX9_hasPoint 17 = .ok (.ireturn, 1) := by decide +kernel
theorem dX9_hasSet_0 : decode cX9_hasSet 0 = .ok (.aload_n 0, 1) := by decide +kernel
theorem dX9_hasSet_1 : decode cX9_hasSet 1 = .ok (.getfield 33, 3) := by decide +kernel
theorem dX9_hasSet_4 : decode cX9_hasSet 4 = .ok (.ifCond .le 21, 3) := by decide +kernel
theorem dX9_hasSet_7 : decode cX9_hasSet 7 = .ok (.iload_n 1, 1) := by decide +kernel
theorem dX9_hasSet_8 : decode cX9_hasSet 8 = .ok (.ifCond .lt 17, 3) := by decide +kernel
theorem dX9_hasSet_11 : decode cX9_hasSet 11 = .ok (.iload_n 1, 1) := by decide +kernel
theorem dX9_hasSet_12 : decode cX9_hasSet 12 = .ok (.iconst 1, 1) := by decide +kernel
theorem dX9_hasSet_13 : decode cX9_hasSet 13 = .ok (.aload_n 0, 1) := by decide +kernel
theorem dX9_hasSet_14 : decode cX9_hasSet 14 = .ok (.getfield 33, 3) := by decide +kernel
theorem dX9_hasSet_17 : decode cX9_hasSet 17 = .ok (.ishl, 1) := by decide +kernel
theorem dX9_hasSet_18 : decode cX9_hasSet 18 = .ok (.if_icmp .ge 7, 3) := by decide +kernel
theorem dX9_hasSet_21 : decode cX9_hasSet 21 = .ok (.iconst 1, 1) := by decide +kernel
theorem dX9_hasSet_22 : decode cX9_hasSet 22 = .ok (.goto 4, 3) := by decide +kernel
theorem dX9_hasSet_25 : decode cX9_hasSet 25 = .ok (.iconst 0, 1) := by decide +kernel
theorem dX9_hasSet_26 : decode cX9_hasSet 26 = .ok (.ireturn, 1) := by decide +kernel
theorem dX9_init_0 : decode cX9_init 0 = .ok (.aload_n 0, 1) := by decide +kernel
theorem dX9_init_1 : decode cX9_init 1 = .ok (.invokespecial 3, 3) := by decide +kernel
theorem dX9_init_4 : decode cX9_init 4 = .ok (.aload_n 0, 1) := by decide +kernel
theorem dX9_init_5 : decode cX9_init 5 = .ok (.bipush 120, 2) := by decide +kernel
theorem dX9_init_7 : decode cX9_init 7 = .ok (.newarray .int, 2) := by decide +kernel
theorem dX9_init_9 : decode cX9_init 9 = .ok (.putfield 9, 3) := by decide +kernel
theorem dX9_init_12 : decode cX9_init 12 = .ok (.aload_n 0, 1) := by decide +kernel
theorem dX9_init_13 : decode cX9_init 13 = .ok (.bipush 10, 2) := by decide +kernel
theorem dX9_init_15 : decode cX9_init 15 = .ok (.newarray .int, 2) := by decide +kernel
theorem dX9_init_17 : decode cX9_init 17 = .ok (.putfield 15, 3) := by decide +kernel
theorem dX9_init_20 : decode cX9_init 20 = .ok (.aload_n 0, 1) := by decide +kernel
theorem dX9_init_21 : decode cX9_init 21 = .ok (.bipush 10, 2) := by decide +kernel
theorem dX9_init_23 : decode cX9_init 23 = .ok (.newarray .int, 2) := by decide +kernel
theorem dX9_init_25 : decode cX9_init 25 = .ok (.putfield 18, 3) := by decide +kernel
theorem dX9_init_28 : decode cX9_init 28 = .ok (.aload_n 0, 1) := by decide +kernel
theorem dX9_init_29 : decode cX9_init 29 = .ok (.bipush 10, 2) := by decide +kernel
theorem dX9_init_31 : decode cX9_init 31 = .ok (.newarray .int, 2) := by decide +kernel
theorem dX9_init_33 : decode cX9_init 33 = .ok (.putfield 21, 3) := by decide +kernel
theorem dX9_init_36 : decode cX9_init 36 = .ok (.aload_n 0, 1) := by decide +kernel
theorem dX9_init_37 : decode cX9_init 37 = .ok (.bipush 10, 2) := by decide +kernel
theorem dX9_init_39 : decode cX9_init 39 = .ok (.newarray .int, 2) := by decide +kernel
theorem dX9_init_41 : decode cX9_init 41 = .ok (.putfield 24, 3) := by decide +kernel
theorem dX9_init_44 : decode cX9_init 44 = .ok (.aload_n 0, 1) := by decide +kernel
theorem dX9_init_45 : decode cX9_init 45 = .ok (.bipush 8, 2) := by decide +kernel
theorem dX9_init_47 : decode cX9_init 47 = .ok (.newarray .int, 2) := by decide +kernel
theorem dX9_init_49 : decode cX9_init 49 = .ok (.putfield 27, 3) := by decide +kernel
theorem dX9_init_52 : decode cX9_init 52 = .ok (.aload_n 0, 1) := by decide +kernel
theorem dX9_init_53 : decode cX9_init 53 = .ok (.bipush 48, 2) := by decide +kernel
theorem dX9_init_55 : decode cX9_init 55 = .ok (.newarray .int, 2) := by decide +kernel
theorem dX9_init_57 : decode cX9_init 57 = .ok (.putfield 30, 3) := by decide +kernel
theorem dX9_init_60 : decode cX9_init 60 = .ok (.return_, 1) := by decide +kernel
theorem dX9_isPresent_0 : decode cX9_isPresent 0 = .ok (.aload_n 0, 1) := by decide +kernel
theorem dX9_isPresent_1 : decode cX9_isPresent 1 = .ok (.getfield 40, 3) := by decide +kernel
theorem dX9_isPresent_4 : decode cX9_isPresent 4 = .ok (.iload_n 1, 1) := by decide +kernel
theorem dX9_isPresent_5 : decode cX9_isPresent 5 = .ok (.ishr, 1) := by decide +kernel
theorem dX9_isPresent_6 : decode cX9_isPresent 6 = .ok (.iconst 1, 1) := by decide +kernel
theorem dX9_isPresent_7 : decode cX9_isPresent 7 = .ok (.iand, 1) := by decide +kernel
theorem dX9_isPresent_8 : decode cX9_isPresent 8 = .ok (.iconst 1, 1) := by decide +kernel
theorem dX9_isPresent_9 : decode cX9_isPresent 9 = .ok (.if_icmp .ne 7, 3) := by decide +kernel
theorem dX9_isPresent_12 : decode cX9_isPresent 12 = .ok (.iconst 1, 1) := by decide +kernel
theorem dX9_isPresent_13 : decode cX9_isPresent 13 = .ok (.goto 4, 3) := by decide +kernel
theorem dX9_isPresent_16 : decode cX9_isPresent 16 = .ok (.iconst 0, 1) := by decide +kernel
theorem dX9_isPresent_17 : decode cX9_isPresent 17 = .ok (.ireturn, 1) := by decide +kernel
theorem dX9_isShortDay_0 : decode cX9_isShortDay 0 = .ok (.aload_n 0, 1) := by decide +kernel
theorem dX9_isShortDay_1 : decode cX9_isShortDay 1 = .ok (.getfield 52, 3) := by decide +kernel
theorem dX9_isShortDay_4 : decode cX9_isShortDay 4 = .ok (.iconst 1, 1) := by decide +kernel
theorem dX9_isShortDay_5 : decode cX9_isShortDay 5 = .ok (.if_icmp .lt 15, 3) := by decide +kernel
theorem dX9_isShortDay_8 : decode cX9_isShortDay 8 = .ok (.aload_n 0, 1) := by decide +kernel
theorem dX9_isShortDay_9 : decode cX9_isShortDay 9 = .ok (.getfield 52, 3) := by decide +kernel
theorem dX9_isShortDay_12 : decode cX9_isShortDay 12 = .ok (.iconst 4, 1) := by decide +kernel
theorem dX9_isShortDay_13 : decode cX9_isShortDay 13 = .ok (.if_icmp .gt 7, 3) := by decide +kernel
theorem dX9_isShortDay_16 : decode cX9_isShortDay 16 = .ok (.iconst 1, 1) := by decide +kernel
theorem dX9_isShortDay_17 : decode cX9_isShortDay 17 = .ok (.goto 4, 3) := by decide +kernel
theorem dX9_isShortDay_20 : decode cX9_isShortDay 20 = .ok (.iconst 0, 1) := by decide +kernel
theorem dX9_isShortDay_21 : decode cX9_isShortDay 21 = .ok (.ireturn, 1) := by decide +kernel
theorem dX9_isSide_0 : decode cX9_isSide 0 = .ok (.iload_n 1, 1) := by decide +kernel
theorem dX9_isSide_1 : decode cX9_isSide 1 = .ok (.ifCond .le 26, 3) := by decide +kernel
theorem dX9_isSide_4 : decode cX9_isSide 4 = .ok (.aload_n 0, 1) := by decide +kernel
theorem dX9_isSide_5 : decode cX9_isSide 5 = .ok (.iload_n 1, 1) := by decide +kernel
theorem dX9_isSide_6 : decode cX9_isSide 6 = .ok (.invokevirtual 67, 3) := by decide +kernel
theorem dX9_isSide_9 : decode cX9_isSide 9 = .ok (.ifCond .eq 18, 3) := by decide +kernel
theorem dX9_isSide_12 : decode cX9_isSide 12 = .ok (.iload_n 1, 1) := by decide +kernel
theorem dX9_isSide_13 : decode cX9_isSide 13 = .ok (.aload_n 0, 1) := by decide +kernel
theorem dX9_isSide_14 : decode cX9_isSide 14 = .ok (.getfield 40, 3) := by decide +kernel
theorem dX9_isSide_17 : decode cX9_isSide 17 = .ok (.iconst (-1), 1) := by decide +kernel
theorem dX9_isSide_18 : decode cX9_isSide 18 = .ok (.ixor, 1) := by decide +kernel
theorem dX9_isSide_19 : decode cX9_isSide 19 = .ok (.iand, 1) := by decide +kernel
theorem dX9_isSide_20 : decode cX9_isSide 20 = .ok (.ifCond .ne 7, 3) := by decide +kernel
theorem dX9_isSide_23 : decode cX9_isSide 23 = .ok (.iconst 1, 1) := by decide +kernel
theorem dX9_isSide_24 : decode cX9_isSide 24 = .ok (.goto 4, 3) := by decide +kernel
theorem dX9_isSide_27 : decode cX9_isSide 27 = .ok (.iconst 0, 1) := by decide +kernel
theorem dX9_isSide_28 : decode cX9_isSide 28 = .ok (.ireturn, 1) := by decide +kernel
theorem dX9_makeFresh_0 : decode cX9_makeFresh 0 = .ok (.aload_n 0, 1) := by decide +kernel
theorem dX9_makeFresh_1 : decode cX9_makeFresh 1 = .ok (.iconst 0, 1) := by decide +kernel
theorem dX9_makeFresh_2 : decode cX9_makeFresh 2 = .ok (.putfield 33, 3) := by decide +kernel
theorem dX9_makeFresh_5 : decode cX9_makeFresh 5 = .ok (.aload_n 0, 1) := by decide +kernel
theorem dX9_makeFresh_6 : decode cX9_makeFresh 6 = .ok (.iconst 0, 1) := by decide +kernel
theorem dX9_makeFresh_7 : decode cX9_makeFresh 7 = .ok (.putfield 37, 3) := by decide +kernel
theorem dX9_makeFresh_10 : decode cX9_makeFresh 10 = .ok (.aload_n 0, 1) := by decide +kernel
theorem dX9_makeFresh_11 : decode cX9_makeFresh 11 = .ok (.iconst 0, 1) := by decide +kernel
theorem dX9_makeFresh_12 : decode cX9_makeFresh 12 = .ok (.putfield 40, 3) := by decide +kernel
theorem dX9_makeFresh_15 : decode cX9_makeFresh 15 = .ok (.aload_n 0, 1) := by decide +kernel
theorem dX9_makeFresh_16 : decode cX9_makeFresh 16 = .ok (.iconst 0, 1) := by decide +kernel
theorem dX9_makeFresh_17 : decode cX9_makeFresh 17 = .ok (.putfield 43, 3) := by decide +kernel
theorem dX9_makeFresh_20 : decode cX9_makeFresh 20 = .ok (.aload_n 0, 1) := by decide +kernel
theorem dX9_makeFresh_21 : decode cX9_makeFresh 21 = .ok (.iconst 0, 1) := by decide +kernel
theorem dX9_makeFresh_22 : decode cX9_makeFresh 22 = .ok (.putfield 46, 3) := by decide +kernel
theorem dX9_makeFresh_25 : decode cX9_makeFresh 25 = .ok (.aload_n 0, 1) := by decide +kernel
theorem dX9_makeFresh_26 : decode cX9_makeFresh 26 = .ok (.sipush 9999, 3) := by decide +kernel
theorem dX9_makeFresh_29 : decode cX9_makeFresh 29 = .ok (.putfield 49, 3) := by decide +kernel
theorem dX9_makeFresh_32 : decode cX9_makeFresh 32 = .ok (.aload_n 0, 1) := by decide +kernel
theorem dX9_makeFresh_33 : decode cX9_makeFresh 33 = .ok (.iconst 0, 1) := by decide +kernel
theorem dX9_makeFresh_34 : decode cX9_makeFresh 34 = .ok (.putfield 52, 3) := by decide +kernel
theorem dX9_makeFresh_37 : decode cX9_makeFresh 37 = .ok (.aload_n 0, 1) := by decide +kernel
theorem dX9_makeFresh_38 : decode cX9_makeFresh 38 = .ok (.iconst 0, 1) := by decide +kernel
theorem dX9_makeFresh_39 : decode cX9_makeFresh 39 = .ok (.putfield 55, 3) := by decide +kernel
theorem dX9_makeFresh_42 : decode cX9_makeFresh 42 = .ok (.iconst 0, 1) := by decide +kernel
theorem dX9_makeFresh_43 : decode cX9_makeFresh 43 = .ok (.istore_n 1, 1) := by decide +kernel
theorem dX9_makeFresh_44 : decode cX9_makeFresh 44 = .ok (.iload_n 1, 1) := by decide +kernel
theorem dX9_makeFresh_45 : decode cX9_makeFresh 45 = .ok (.bipush 10, 2) := by decide +kernel
theorem dX9_makeFresh_47 : decode cX9_makeFresh 47 = .ok (.if_icmp .ge 37, 3) := by decide +kernel
theorem dX9_makeFresh_50 : decode cX9_makeFresh 50 = .ok (.aload_n 0, 1) := by decide +kernel
theorem dX9_makeFresh_51 : decode cX9_makeFresh 51 = .ok (.getfield 15, 3) := by decide +kernel
theorem dX9_makeFresh_54 : decode cX9_makeFresh 54 = .ok (.iload_n 1, 1) := by decide +kernel
theorem dX9_makeFresh_55 : decode cX9_makeFresh 55 = .ok (.iconst 1, 1) := by decide +kernel
theorem dX9_makeFresh_56 : decode cX9_makeFresh 56 = .ok (.iastore, 1) := by decide +kernel
theorem dX9_makeFresh_57 : decode cX9_makeFresh 57 = .ok (.aload_n 0, 1) := by decide +kernel
theorem dX9_makeFresh_58 : decode cX9_makeFresh 58 = .ok (.getfield 18, 3) := by decide +kernel
theorem dX9_makeFresh_61 : decode cX9_makeFresh 61 = .ok (.iload_n 1, 1) := by decide +kernel
theorem dX9_makeFresh_62 : decode cX9_makeFresh 62 = .ok (.iconst (-1), 1) := by decide +kernel
theorem dX9_makeFresh_63 : decode cX9_makeFresh 63 = .ok (.iastore, 1) := by decide +kernel
theorem dX9_makeFresh_64 : decode cX9_makeFresh 64 = .ok (.aload_n 0, 1) := by decide +kernel
theorem dX9_makeFresh_65 : decode cX9_makeFresh 65 = .ok (.getfield 21, 3) := by decide +kernel
theorem dX9_makeFresh_68 : decode cX9_makeFresh 68 = .ok (.iload_n 1, 1) := by decide +kernel
theorem dX9_makeFresh_69 : decode cX9_makeFresh 69 = .ok (.iconst 0, 1) := by decide +kernel
theorem dX9_makeFresh_70 : decode cX9_makeFresh 70 = .ok (.iastore, 1) := by decide +kernel
theorem dX9_makeFresh_71 : decode cX9_makeFresh 71 = .ok (.aload_n 0, 1) := by decide +kernel
theorem dX9_makeFresh_72 : decode cX9_makeFresh 72 = .ok (.getfield 24, 3) := by decide +kernel
theorem dX9_makeFresh_75 : decode cX9_makeFresh 75 = .ok (.iload_n 1, 1) := by decide +kernel
theorem dX9_makeFresh_76 : decode cX9_makeFresh 76 = .ok (.iconst 0, 1) := by decide +kernel
theorem dX9_makeFresh_77 : decode cX9_makeFresh 77 = .ok (.iastore, 1) := by decide +kernel
theorem dX9_makeFresh_78 : decode cX9_makeFresh 78 = .ok (.iinc 1 1, 3) := by decide +kernel
theorem dX9_makeFresh_81 : decode cX9_makeFresh 81 = .ok (.goto (-37), 3) := by decide +kernel
theorem dX9_makeFresh_84 : decode cX9_makeFresh 84 = .ok (.return_, 1) := by decide +kernel
theorem dX9_sumOf_0 : decode cX9_sumOf 0 = .ok (.iconst 0, 1) := by decide +kernel
theorem dX9_sumOf_1 : decode cX9_sumOf 1 = .ok (.istore_n 3, 1) := by decide +kernel
theorem dX9_sumOf_2 : decode cX9_sumOf 2 = .ok (.iconst 0, 1) := by decide +kernel
theorem dX9_sumOf_3 : decode cX9_sumOf 3 = .ok (.istore 4, 2) := by decide +kernel
theorem dX9_sumOf_5 : decode cX9_sumOf 5 = .ok (.iload 4, 2) := by decide +kernel
theorem dX9_sumOf_7 : decode cX9_sumOf 7 = .ok (.aload_n 0, 1) := by decide +kernel
theorem dX9_sumOf_8 : decode cX9_sumOf 8 = .ok (.getfield 33, 3) := by decide +kernel
theorem dX9_sumOf_11 : decode cX9_sumOf 11 = .ok (.if_icmp .ge 26, 3) := by decide +kernel
theorem dX9_sumOf_14 : decode cX9_sumOf 14 = .ok (.iload_n 2, 1) := by decide +kernel
theorem dX9_sumOf_15 : decode cX9_sumOf 15 = .ok (.iload 4, 2) := by decide +kernel
theorem dX9_sumOf_17 : decode cX9_sumOf 17 = .ok (.ishr, 1) := by decide +kernel
theorem dX9_sumOf_18 : decode cX9_sumOf 18 = .ok (.iconst 1, 1) := by decide +kernel
theorem dX9_sumOf_19 : decode cX9_sumOf 19 = .ok (.iand, 1) := by decide +kernel
theorem dX9_sumOf_20 : decode cX9_sumOf 20 = .ok (.iconst 1, 1) := by decide +kernel
theorem dX9_sumOf_21 : decode cX9_sumOf 21 = .ok (.if_icmp .ne 10, 3) := by decide +kernel
theorem dX9_sumOf_24 : decode cX9_sumOf 24 = .ok (.iload_n 3, 1) := by decide +kernel
theorem dX9_sumOf_25 : decode cX9_sumOf 25 = .ok (.aload_n 1, 1) := by decide +kernel
theorem dX9_sumOf_26 : decode cX9_sumOf 26 = .ok (.iload 4, 2) := by decide +kernel
theorem dX9_sumOf_28 : decode cX9_sumOf 28 = .ok (.iaload, 1) := by decide +kernel
theorem dX9_sumOf_29 : decode cX9_sumOf 29 = .ok (.iadd, 1) := by decide +kernel
theorem dX9_sumOf_30 : decode cX9_sumOf 30 = .ok (.istore_n 3, 1) := by decide +kernel
theorem dX9_sumOf_31 : decode cX9_sumOf 31 = .ok (.iinc 4 1, 3) := by decide +kernel
theorem dX9_sumOf_34 : decode cX9_sumOf 34 = .ok (.goto (-29), 3) := by decide +kernel
theorem dX9_sumOf_37 : decode cX9_sumOf 37 = .ok (.iload_n 3, 1) := by decide +kernel
theorem dX9_sumOf_38 : decode cX9_sumOf 38 = .ok (.ireturn, 1) := by decide +kernel
theorem dX9_takeFrom_0 : decode cX9_takeFrom 0 = .ok (.aload_n 0, 1) := by decide +kernel
theorem dX9_takeFrom_1 : decode cX9_takeFrom 1 = .ok (.aload_n 1, 1) := by decide +kernel
theorem dX9_takeFrom_2 : decode cX9_takeFrom 2 = .ok (.getfield 33, 3) := by decide +kernel
theorem dX9_takeFrom_5 : decode cX9_takeFrom 5 = .ok (.putfield 33, 3) := by decide +kernel
theorem dX9_takeFrom_8 : decode cX9_takeFrom 8 = .ok (.aload_n 0, 1) := by decide +kernel
theorem dX9_takeFrom_9 : decode cX9_takeFrom 9 = .ok (.aload_n 1, 1) := by decide +kernel
theorem dX9_takeFrom_10 : decode cX9_takeFrom 10 = .ok (.getfield 37, 3) := by decide +kernel
theorem dX9_takeFrom_13 : decode cX9_takeFrom 13 = .ok (.putfield 37, 3) := by decide +kernel
theorem dX9_takeFrom_16 : decode cX9_takeFrom 16 = .ok (.aload_n 0, 1) := by decide +kernel
theorem dX9_takeFrom_17 : decode cX9_takeFrom 17 = .ok (.aload_n 1, 1) := by decide +kernel
theorem dX9_takeFrom_18 : decode cX9_takeFrom 18 = .ok (.getfield 40, 3) := by decide +kernel
theorem dX9_takeFrom_21 : decode cX9_takeFrom 21 = .ok (.putfield 40, 3) := by decide +kernel
theorem dX9_takeFrom_24 : decode cX9_takeFrom 24 = .ok (.aload_n 0, 1) := by decide +kernel
theorem dX9_takeFrom_25 : decode cX9_takeFrom 25 = .ok (.aload_n 1, 1) := by decide +kernel
theorem dX9_takeFrom_26 : decode cX9_takeFrom 26 = .ok (.getfield 43, 3) := by decide +kernel
theorem dX9_takeFrom_29 : decode cX9_takeFrom 29 = .ok (.putfield 43, 3) := by decide +kernel
theorem dX9_takeFrom_32 : decode cX9_takeFrom 32 = .ok (.aload_n 0, 1) := by decide +kernel
theorem dX9_takeFrom_33 : decode cX9_takeFrom 33 = .ok (.aload_n 1, 1) := by decide +kernel
theorem dX9_takeFrom_34 : decode cX9_takeFrom 34 = .ok (.getfield 46, 3) := by decide +kernel
theorem dX9_takeFrom_37 : decode cX9_takeFrom 37 = .ok (.putfield 46, 3) := by decide +kernel
theorem dX9_takeFrom_40 : decode cX9_takeFrom 40 = .ok (.aload_n 0, 1) := by decide +kernel
theorem dX9_takeFrom_41 : decode cX9_takeFrom 41 = .ok (.aload_n 1, 1) := by decide +kernel
theorem dX9_takeFrom_42 : decode cX9_takeFrom 42 = .ok (.getfield 49, 3) := by decide +kernel
theorem dX9_takeFrom_45 : decode cX9_takeFrom 45 = .ok (.putfield 49, 3) := by decide +kernel
theorem dX9_takeFrom_48 : decode cX9_takeFrom 48 = .ok (.aload_n 0, 1) := by decide +kernel
theorem dX9_takeFrom_49 : decode cX9_takeFrom 49 = .ok (.aload_n 1, 1) := by decide +kernel
theorem dX9_takeFrom_50 : decode cX9_takeFrom 50 = .ok (.getfield 58, 3) := by decide +kernel
theorem dX9_takeFrom_53 : decode cX9_takeFrom 53 = .ok (.putfield 58, 3) := by decide +kernel
theorem dX9_takeFrom_56 : decode cX9_takeFrom 56 = .ok (.aload_n 0, 1) := by decide +kernel
theorem dX9_takeFrom_57 : decode cX9_takeFrom 57 = .ok (.aload_n 1, 1) := by decide +kernel
theorem dX9_takeFrom_58 : decode cX9_takeFrom 58 = .ok (.getfield 52, 3) := by decide +kernel
theorem dX9_takeFrom_61 : decode cX9_takeFrom 61 = .ok (.putfield 52, 3) := by decide +kernel
theorem dX9_takeFrom_64 : decode cX9_takeFrom 64 = .ok (.aload_n 0, 1) := by decide +kernel
theorem dX9_takeFrom_65 : decode cX9_takeFrom 65 = .ok (.aload_n 1, 1) := by decide +kernel
theorem dX9_takeFrom_66 : decode cX9_takeFrom 66 = .ok (.getfield 55, 3) := by decide +kernel
theorem dX9_takeFrom_69 : decode cX9_takeFrom 69 = .ok (.putfield 55, 3) := by decide +kernel
theorem dX9_takeFrom_72 : decode cX9_takeFrom 72 = .ok (.aload_n 1, 1) := by decide +kernel
theorem dX9_takeFrom_73 : decode cX9_takeFrom 73 = .ok (.getfield 9, 3) := by decide +kernel
theorem dX9_takeFrom_76 : decode cX9_takeFrom 76 = .ok (.iconst 0, 1) := by decide +kernel
theorem dX9_takeFrom_77 : decode cX9_takeFrom 77 = .ok (.aload_n 0, 1) := by decide +kernel
theorem dX9_takeFrom_78 : decode cX9_takeFrom 78 = .ok (.getfield 9, 3) := by decide +kernel
theorem dX9_takeFrom_81 : decode cX9_takeFrom 81 = .ok (.iconst 0, 1) := by decide +kernel
theorem dX9_takeFrom_82 : decode cX9_takeFrom 82 = .ok (.aload_n 0, 1) := by decide +kernel
theorem dX9_takeFrom_83 : decode cX9_takeFrom 83 = .ok (.getfield 9, 3) := by decide +kernel
theorem dX9_takeFrom_86 : decode cX9_takeFrom 86 = .ok (.arraylength, 1) := by decide +kernel
theorem dX9_takeFrom_87 : decode cX9_takeFrom 87 = .ok (.invokestatic 61, 3) := by decide +kernel
theorem dX9_takeFrom_90 : decode cX9_takeFrom 90 = .ok (.aload_n 1, 1) := by decide +kernel
theorem dX9_takeFrom_91 : decode cX9_takeFrom 91 = .ok (.getfield 15, 3) := by decide +kernel
theorem dX9_takeFrom_94 : decode cX9_takeFrom 94 = .ok (.iconst 0, 1) := by decide +kernel
theorem dX9_takeFrom_95 : decode cX9_takeFrom 95 = .ok (.aload_n 0, 1) := by decide +kernel
theorem dX9_takeFrom_96 : decode cX9_takeFrom 96 = .ok (.getfield 15, 3) := by decide +kernel
theorem dX9_takeFrom_99 : decode cX9_takeFrom 99 = .ok (.iconst 0, 1) := by decide +kernel
theorem dX9_takeFrom_100 : decode cX9_takeFrom 100 = .ok (.bipush 10, 2) := by decide +kernel
theorem dX9_takeFrom_102 : decode cX9_takeFrom 102 = .ok (.invokestatic 61, 3) := by decide +kernel
theorem dX9_takeFrom_105 : decode cX9_takeFrom 105 = .ok (.aload_n 1, 1) := by decide +kernel
theorem dX9_takeFrom_106 : decode cX9_takeFrom 106 = .ok (.getfield 18, 3) := by decide +kernel
theorem dX9_takeFrom_109 : decode cX9_takeFrom 109 = .ok (.iconst 0, 1) := by decide +kernel
theorem dX9_takeFrom_110 : decode cX9_takeFrom 110 = .ok (.aload_n 0, 1) := by decide +kernel
theorem dX9_takeFrom_111 : decode cX9_takeFrom 111 = .ok (.getfield 18, 3) := by decide +kernel
theorem dX9_takeFrom_114 : decode cX9_takeFrom 114 = .ok (.iconst 0, 1) := by decide +kernel
theorem dX9_takeFrom_115 : decode cX9_takeFrom 115 = .ok (.bipush 10, 2) := by decide +kernel
theorem dX9_takeFrom_117 : decode cX9_takeFrom 117 = .ok (.invokestatic 61, 3) := by decide +kernel
theorem dX9_takeFrom_120 : decode cX9_takeFrom 120 = .ok (.aload_n 1, 1) := by decide +kernel
theorem dX9_takeFrom_121 : decode cX9_takeFrom 121 = .ok (.getfield 21, 3) := by decide +kernel
theorem dX9_takeFrom_124 : decode cX9_takeFrom 124 = .ok (.iconst 0, 1) := by decide +kernel
theorem dX9_takeFrom_125 : decode cX9_takeFrom 125 = .ok (.aload_n 0, 1) := by decide +kernel
theorem dX9_takeFrom_126 : decode cX9_takeFrom 126 = .ok (.getfield 21, 3) := by decide +kernel
theorem dX9_takeFrom_129 : decode cX9_takeFrom 129 = .ok (.iconst 0, 1) := by decide +kernel
theorem dX9_takeFrom_130 : decode cX9_takeFrom 130 = .ok (.bipush 10, 2) := by decide +kernel
theorem dX9_takeFrom_132 : decode cX9_takeFrom 132 = .ok (.invokestatic 61, 3) := by decide +kernel
theorem dX9_takeFrom_135 : decode cX9_takeFrom 135 = .ok (.aload_n 1, 1) := by decide +kernel
theorem dX9_takeFrom_136 : decode cX9_takeFrom 136 = .ok (.getfield 24, 3) := by decide +kernel
theorem dX9_takeFrom_139 : decode cX9_takeFrom 139 = .ok (.iconst 0, 1) := by decide +kernel
theorem dX9_takeFrom_140 : decode cX9_takeFrom 140 = .ok (.aload_n 0, 1) := by decide +kernel
theorem dX9_takeFrom_141 : decode cX9_takeFrom 141 = .ok (.getfield 24, 3) := by decide +kernel
theorem dX9_takeFrom_144 : decode cX9_takeFrom 144 = .ok (.iconst 0, 1) := by decide +kernel
theorem dX9_takeFrom_145 : decode cX9_takeFrom 145 = .ok (.bipush 10, 2) := by decide +kernel
theorem dX9_takeFrom_147 : decode cX9_takeFrom 147 = .ok (.invokestatic 61, 3) := by decide +kernel
theorem dX9_takeFrom_150 : decode cX9_takeFrom 150 = .ok (.aload_n 1, 1) := by decide +kernel
theorem dX9_takeFrom_151 : decode cX9_takeFrom 151 = .ok (.getfield 27, 3) := by decide +kernel
theorem dX9_takeFrom_154 : decode cX9_takeFrom 154 = .ok (.iconst 0, 1) := by decide +kernel
theorem dX9_takeFrom_155 : decode cX9_takeFrom 155 = .ok (.aload_n 0, 1) := by decide +kernel
theorem dX9_takeFrom_156 : decode cX9_takeFrom 156 = .ok (.getfield 27, 3) := by decide +kernel
theorem dX9_takeFrom_159 : decode cX9_takeFrom 159 = .ok (.iconst 0, 1) := by decide +kernel
theorem dX9_takeFrom_160 : decode cX9_takeFrom 160 = .ok (.bipush 8, 2) := by decide +kernel
theorem dX9_takeFrom_162 : decode cX9_takeFrom 162 = .ok (.invokestatic 61, 3) := by decide +kernel
theorem dX9_takeFrom_165 : decode cX9_takeFrom 165 = .ok (.aload_n 1, 1) := by decide +kernel
theorem dX9_takeFrom_166 : decode cX9_takeFrom 166 = .ok (.getfield 30, 3) := by decide +kernel
theorem dX9_takeFrom_169 : decode cX9_takeFrom 169 = .ok (.iconst 0, 1) := by decide +kernel
theorem dX9_takeFrom_170 : decode cX9_takeFrom 170 = .ok (.aload_n 0, 1) := by decide +kernel
theorem dX9_takeFrom_171 : decode cX9_takeFrom 171 = .ok (.getfield 30, 3) := by decide +kernel
theorem dX9_takeFrom_174 : decode cX9_takeFrom 174 = .ok (.iconst 0, 1) := by decide +kernel
theorem dX9_takeFrom_175 : decode cX9_takeFrom 175 = .ok (.aload_n 0, 1) := by decide +kernel
theorem dX9_takeFrom_176 : decode cX9_takeFrom 176 = .ok (.getfield 30, 3) := by decide +kernel
theorem dX9_takeFrom_179 : decode cX9_takeFrom 179 = .ok (.arraylength, 1) := by decide +kernel
theorem dX9_takeFrom_180 : decode cX9_takeFrom 180 = .ok (.invokestatic 61, 3) := by decide +kernel
theorem dX9_takeFrom_183 : decode cX9_takeFrom 183 = .ok (.return_, 1) := by decide +kernel
theorem dX9_worthOf_0 : decode cX9_worthOf 0 = .ok (.aload_n 0, 1) := by decide +kernel
theorem dX9_worthOf_1 : decode cX9_worthOf 1 = .ok (.getfield 9, 3) := by decide +kernel
theorem dX9_worthOf_4 : decode cX9_worthOf 4 = .ok (.iload_n 2, 1) := by decide +kernel
theorem dX9_worthOf_5 : decode cX9_worthOf 5 = .ok (.bipush 10, 2) := by decide +kernel
theorem dX9_worthOf_7 : decode cX9_worthOf 7 = .ok (.imul, 1) := by decide +kernel
theorem dX9_worthOf_8 : decode cX9_worthOf 8 = .ok (.iload_n 1, 1) := by decide +kernel
theorem dX9_worthOf_9 : decode cX9_worthOf 9 = .ok (.iadd, 1) := by decide +kernel
theorem dX9_worthOf_10 : decode cX9_worthOf 10 = .ok (.iaload, 1) := by decide +kernel
theorem dX9_worthOf_11 : decode cX9_worthOf 11 = .ok (.ireturn, 1) := by decide +kernel
theorem dX9_worthOfSet_0 : decode cX9_worthOfSet 0 = .ok (.iconst 0, 1) := by decide +kernel
theorem dX9_worthOfSet_1 : decode cX9_worthOfSet 1 = .ok (.istore_n 3, 1) := by decide +kernel
theorem dX9_worthOfSet_2 : decode cX9_worthOfSet 2 = .ok (.iconst 0, 1) := by decide +kernel
theorem dX9_worthOfSet_3 : decode cX9_worthOfSet 3 = .ok (.istore 4, 2) := by decide +kernel
theorem dX9_worthOfSet_5 : decode cX9_worthOfSet 5 = .ok (.iload 4, 2) := by decide +kernel
theorem dX9_worthOfSet_7 : decode cX9_worthOfSet 7 = .ok (.aload_n 0, 1) := by decide +kernel
theorem dX9_worthOfSet_8 : decode cX9_worthOfSet 8 = .ok (.getfield 33, 3) := by decide +kernel
theorem dX9_worthOfSet_11 : decode cX9_worthOfSet 11 = .ok (.if_icmp .ge 29, 3) := by decide +kernel
theorem dX9_worthOfSet_14 : decode cX9_worthOfSet 14 = .ok (.iload_n 1, 1) := by decide +kernel
theorem dX9_worthOfSet_15 : decode cX9_worthOfSet 15 = .ok (.iload 4, 2) := by decide +kernel
theorem dX9_worthOfSet_17 : decode cX9_worthOfSet 17 = .ok (.ishr, 1) := by decide +kernel
theorem dX9_worthOfSet_18 : decode cX9_worthOfSet 18 = .ok (.iconst 1, 1) := by decide +kernel
theorem dX9_worthOfSet_19 : decode cX9_worthOfSet 19 = .ok (.iand, 1) := by decide +kernel
theorem dX9_worthOfSet_20 : decode cX9_worthOfSet 20 = .ok (.iconst 1, 1) := by decide +kernel
theorem dX9_worthOfSet_21 : decode cX9_worthOfSet 21 = .ok (.if_icmp .ne 13, 3) := by decide +kernel
theorem dX9_worthOfSet_24 : decode cX9_worthOfSet 24 = .ok (.iload_n 3, 1) := by decide +kernel
theorem dX9_worthOfSet_25 : decode cX9_worthOfSet 25 = .ok (.aload_n 0, 1) := by decide +kernel
theorem dX9_worthOfSet_26 : decode cX9_worthOfSet 26 = .ok (.iload 4, 2) := by decide +kernel
theorem dX9_worthOfSet_28 : decode cX9_worthOfSet 28 = .ok (.iload_n 2, 1) := by decide +kernel
theorem dX9_worthOfSet_29 : decode cX9_worthOfSet 29 = .ok (.invokevirtual 71, 3) := by decide +kernel
theorem dX9_worthOfSet_32 : decode cX9_worthOfSet 32 = .ok (.iadd, 1) := by decide +kernel
theorem dX9_worthOfSet_33 : decode cX9_worthOfSet 33 = .ok (.istore_n 3, 1) := by decide +kernel
theorem dX9_worthOfSet_34 : decode cX9_worthOfSet 34 = .ok (.iinc 4 1, 3) := by decide +kernel
theorem dX9_worthOfSet_37 : decode cX9_worthOfSet 37 = .ok (.goto (-32), 3) := by decide +kernel
theorem dX9_worthOfSet_40 : decode cX9_worthOfSet 40 = .ok (.iload_n 3, 1) := by decide +kernel
theorem dX9_worthOfSet_41 : decode cX9_worthOfSet 41 = .ok (.ireturn, 1) := by decide +kernel
theorem dX9_write_0 : decode cX9_write 0 = .ok (.aload_n 0, 1) := by decide +kernel
theorem dX9_write_1 : decode cX9_write 1 = .ok (.getfield 55, 3) := by decide +kernel
theorem dX9_write_4 : decode cX9_write 4 = .ok (.iconst 4, 1) := by decide +kernel
theorem dX9_write_5 : decode cX9_write 5 = .ok (.imul, 1) := by decide +kernel
theorem dX9_write_6 : decode cX9_write 6 = .ok (.istore 5, 2) := by decide +kernel
theorem dX9_write_8 : decode cX9_write 8 = .ok (.iload 5, 2) := by decide +kernel
theorem dX9_write_10 : decode cX9_write 10 = .ok (.iconst 4, 1) := by decide +kernel
theorem dX9_write_11 : decode cX9_write 11 = .ok (.iadd, 1) := by decide +kernel
theorem dX9_write_12 : decode cX9_write 12 = .ok (.aload_n 0, 1) := by decide +kernel
theorem dX9_write_13 : decode cX9_write 13 = .ok (.getfield 30, 3) := by decide +kernel
theorem dX9_write_16 : decode cX9_write 16 = .ok (.arraylength, 1) := by decide +kernel
theorem dX9_write_17 : decode cX9_write 17 = .ok (.if_icmp .gt 52, 3) := by decide +kernel
theorem dX9_write_20 : decode cX9_write 20 = .ok (.aload_n 0, 1) := by decide +kernel
theorem dX9_write_21 : decode cX9_write 21 = .ok (.getfield 30, 3) := by decide +kernel
theorem dX9_write_24 : decode cX9_write 24 = .ok (.iload 5, 2) := by decide +kernel
theorem dX9_write_26 : decode cX9_write 26 = .ok (.iload_n 1, 1) := by decide +kernel
theorem dX9_write_27 : decode cX9_write 27 = .ok (.iastore, 1) := by decide +kernel
theorem dX9_write_28 : decode cX9_write 28 = .ok (.aload_n 0, 1) := by decide +kernel
theorem dX9_write_29 : decode cX9_write 29 = .ok (.getfield 30, 3) := by decide +kernel
theorem dX9_write_32 : decode cX9_write 32 = .ok (.iload 5, 2) := by decide +kernel
theorem dX9_write_34 : decode cX9_write 34 = .ok (.iconst 1, 1) := by decide +kernel
theorem dX9_write_35 : decode cX9_write 35 = .ok (.iadd, 1) := by decide +kernel
theorem dX9_write_36 : decode cX9_write 36 = .ok (.iload_n 2, 1) := by decide +kernel
theorem dX9_write_37 : decode cX9_write 37 = .ok (.iastore, 1) := by decide +kernel
theorem dX9_write_38 : decode cX9_write 38 = .ok (.aload_n 0, 1) := by decide +kernel
theorem dX9_write_39 : decode cX9_write 39 = .ok (.getfield 30, 3) := by decide +kernel
theorem dX9_write_42 : decode cX9_write 42 = .ok (.iload 5, 2) := by decide +kernel
theorem dX9_write_44 : decode cX9_write 44 = .ok (.iconst 2, 1) := by decide +kernel
theorem dX9_write_45 : decode cX9_write 45 = .ok (.iadd, 1) := by decide +kernel
theorem dX9_write_46 : decode cX9_write 46 = .ok (.iload_n 3, 1) := by decide +kernel
theorem dX9_write_47 : decode cX9_write 47 = .ok (.iastore, 1) := by decide +kernel
theorem dX9_write_48 : decode cX9_write 48 = .ok (.aload_n 0, 1) := by decide +kernel
theorem dX9_write_49 : decode cX9_write 49 = .ok (.getfield 30, 3) := by decide +kernel
theorem dX9_write_52 : decode cX9_write 52 = .ok (.iload 5, 2) := by decide +kernel
theorem dX9_write_54 : decode cX9_write 54 = .ok (.iconst 3, 1) := by decide +kernel
theorem dX9_write_55 : decode cX9_write 55 = .ok (.iadd, 1) := by decide +kernel
theorem dX9_write_56 : decode cX9_write 56 = .ok (.iload 4, 2) := by decide +kernel
theorem dX9_write_58 : decode cX9_write 58 = .ok (.iastore, 1) := by decide +kernel
theorem dX9_write_59 : decode cX9_write 59 = .ok (.aload_n 0, 1) := by decide +kernel
theorem dX9_write_60 : decode cX9_write 60 = .ok (.dup, 1) := by decide +kernel
theorem dX9_write_61 : decode cX9_write 61 = .ok (.getfield 55, 3) := by decide +kernel
theorem dX9_write_64 : decode cX9_write 64 = .ok (.iconst 1, 1) := by decide +kernel
theorem dX9_write_65 : decode cX9_write 65 = .ok (.iadd, 1) := by decide +kernel
theorem dX9_write_66 : decode cX9_write 66 = .ok (.putfield 55, 3) := by decide +kernel
theorem dX9_write_69 : decode cX9_write 69 = .ok (.return_, 1) := by decide +kernel
